set_option maxHeartbeats 400000 in
set_option maxRecDepth 100000 in
theorem x_row (l : Launch) (hl0 : l.stackTraces = false) (G : va_G) (y : Nat → ClassId) (sz : Nat) (h0 : Nat) (tp : Nat) (ps : Nat) (sp : Nat) (tk : Nat) (dr : Nat) (pr : Nat) (da : Nat) (nw : Nat) (im : Nat) (ac : Nat) (ke : Nat) (si : Nat) (tx : Nat) (an : Nat) (dw : Nat) (ke1 : Nat) (ke2 : Nat) (ke3 : Nat) (ke4 : Nat) (i : Int32) (j : Int32)  : vx_Met l yX10_row wsX10_row ({ frames := 6, cells := 1, slots := 6, locals := 100 }) (nq_PX G y sz [.ref h0, .int i, .int j] [(h0, .inr (10, [.ref tp, .int 0, .int (-1), .ref ps, .ref sp, .ref tk, .ref dr, .ref pr, .ref da, .ref nw, .ref im, .int 0, .ref ac, .ref ke, .ref si, .ref tx, .ref an, .ref dw])), (ke, .inr (3, [.ref ke1, .ref ke2, .ref ke3, .ref ke4, .int 0]))]) (va_Qi (fun (r : Int32) (_ : Unit) => (sp_one i j).1 = 0 ∧ r = (sp_one i j).2) (fun (u : Unit) t9 => va_P G vwCl ([]) t9.heap ∧ va_D (va_A [(h0, .inr (10, [.ref tp, .int 0, .int (-1), .ref ps, .ref sp, .ref tk, .ref dr, .ref pr, .ref da, .ref nw, .ref im, .int 0, .ref ac, .ref ke, .ref si, .ref tx, .ref an, .ref dw])), (ke, .inr (3, [.ref ke1, .ref ke2, .ref ke3, .ref ke4, .int 0]))] sz) ([])) (va_A [(h0, .inr (10, [.ref tp, .int 0, .int (-1), .ref ps, .ref sp, .ref tk, .ref dr, .ref pr, .ref da, .ref nw, .ref im, .int 0, .ref ac, .ref ke, .ref si, .ref tx, .ref an, .ref dw])), (ke, .inr (3, [.ref ke1, .ref ke2, .ref ke3, .ref ke4, .int 0]))] sz)) (vx_X (fun (_ : Unit) => True) (fun E _ _ => E = nq_NSE ∧ (sp_one i j).1 = 1) (va_A [(h0, .inr (10, [.ref tp, .int 0, .int (-1), .ref ps, .ref sp, .ref tk, .ref dr, .ref pr, .ref da, .ref nw, .ref im, .int 0, .ref ac, .ref ke, .ref si, .ref tx, .ref an, .ref dw])), (ke, .inr (3, [.ref ke1, .ref ke2, .ref ke3, .ref ke4, .int 0]))] sz)) 1 6 (va_A [(h0, .inr (10, [.ref tp, .int 0, .int (-1), .ref ps, .ref sp, .ref tk, .ref dr, .ref pr, .ref da, .ref nw, .ref im, .int 0, .ref ac, .ref ke, .ref si, .ref tx, .ref an, .ref dw])), (ke, .inr (3, [.ref ke1, .ref ke2, .ref ke3, .ref ke4, .int 0]))] sz) := by
  refine vx_ofW (cc := cX10_row) (maxL := 3) (ret := (some .int)) (by decide) rfl ?_
  intro p e s m args below meth c s₁ B hml htab hv
  obtain ⟨rfl, hsz, hP, hK, hD0, hXs⟩ := hv
  have hx := B.exec
  have hb := B.bytes
  have hr := B.returns
  have hts := atoms_spec (ws := wsX10_row) B.pre
  have hown : s.vm.findClass RX10 = some m.cls := findClass_of_methodNamed B.named
  have hlocks := B.notSynchronized
  subst hsz
  have hD := hD0.self (sz := s.heap.size)
  generalize hAe : va_A [(h0, .inr (10, [.ref tp, .int 0, .int (-1), .ref ps, .ref sp, .ref tk, .ref dr, .ref pr, .ref da, .ref nw, .ref im, .int 0, .ref ac, .ref ke, .ref si, .ref tx, .ref an, .ref dw])), (ke, .inr (3, [.ref ke1, .ref ke2, .ref ke3, .ref ke4, .int 0]))] s.heap.size = A at hD hXs ⊢
  have hA : ∀ q : Nat, s.heap.size ≤ q → A q := fun q h => by rw [← hAe]; exact Or.inr h
  have hS : va_S A s.heap s.heap [] := va_S.rf
  have hP : va_P G vwCl [(h0, .inr (10, [.ref tp, .int 0, .int (-1), .ref ps, .ref sp, .ref tk, .ref dr, .ref pr, .ref da, .ref nw, .ref im, .int 0, .ref ac, .ref ke, .ref si, .ref tx, .ref an, .ref dw])), (ke, .inr (3, [.ref ke1, .ref ke2, .ref ke3, .ref ke4, .int 0]))] s.heap := hP
  have inX10 : ∀ w ∈ wsX100, w ∈ wsX10_row := by decide +kernel
  have inX3 : ∀ w ∈ wsX30, w ∈ wsX10_row := by decide +kernel
  have hl := lv_entry ([.ref h0, .int i, .int j]) (n := 3) (Nat.le_of_ble_eq_true rfl)
  rw [lg_entry_eq]
  generalize (lg_sl ([.ref h0, .int i, .int j]) ++ List.replicate (3 - (lg_sl ([.ref h0, .int i, .int j])).length) Slot.unset).toArray = ls at hl ⊢
  have hl : lv_has ls 3 [(0, .ref h0), (1, .int i), (2, .int j)] := hl
  refine lv_iload_n hx hb dX10_row_0 rfl (lv_at hl 1 rfl) ?_
  refine lv_if_lt (tgt := 15) hx hb dX10_row_1 (by decide) (fun c_1 => ?_) (fun c_1 => ?_)
  · have hz_3 := ((nq_hlt c_1 (j := (-1)) (by decide)))
    exact nq_throwNW (BX := fun E => E = nq_NSE ∧ (sp_one i j).1 = 1) (text := "no such row") hx hb hl0 hown hts (by first | exact fun w h => List.mem_cons_of_mem _ (List.mem_append_right _ h) | exact fun w h => List.mem_cons_of_mem _ (List.mem_append_left _ (List.mem_append_right _ h)) | decide +kernel) (by decide +kernel) (by decide +kernel) hXs hS (hl.1.trans hml.symm) htab hlocks (List.mem_of_getElem? (i := 10) rfl) dX10_row_15 dX10_row_18 dX10_row_19 dX10_row_22 dX10_row_25 (Nat.le_of_ble_eq_true rfl) (Nat.le_of_ble_eq_true rfl) (Nat.le_of_ble_eq_true rfl) (Nat.le_of_ble_eq_true rfl) (⟨rfl, by simp [sp_one, hz_3]⟩) (Nat.le_of_ble_eq_true rfl) (Nat.le_of_ble_eq_true rfl)
  · refine lv_iload_n hx hb dX10_row_4 rfl (lv_at hl 1 rfl) ?_
    refine lv_aload_n hx hb dX10_row_5 rfl (lv_at hl 0 rfl) ?_
    refine va_get (D := G) (ci := 10) (v := .ref ke) (C := RX10) (T := TX10) (N := 18) hx hb hts inX10 hown hK.1 hP 0 rfl rfl 13 (by decide) (hts (.fieldLink RX10 82 "NestQuery" "kept" "LNestQuery$Patch;") (by decide +kernel)) (fun _ h9 => h9) rfl dX10_row_6 ?_
    refine va_getN (D := G) (ci := 3) (v := .int 0) (C := RX3) (T := TX3) (N := 5) hx hb hts inX3 hown hK.1 hP 1 rfl rfl 4 (by decide) (nl_17 hK) (fun _ h9 => h9) rfl dX10_row_9 ?_
    refine lv_icmp_lt (tgt := 26) hx hb dX10_row_12 (by decide) (fun c_4 => absurd c_4 (nq_nlt c_1 (by decide))) (fun _ => ?_)
    have hz_6 := (c_1)
    exact nq_throwNW (BX := fun E => E = nq_NSE ∧ (sp_one i j).1 = 1) (text := "no such row") hx hb hl0 hown hts (by first | exact fun w h => List.mem_cons_of_mem _ (List.mem_append_right _ h) | exact fun w h => List.mem_cons_of_mem _ (List.mem_append_left _ (List.mem_append_right _ h)) | decide +kernel) (by decide +kernel) (by decide +kernel) hXs hS (hl.1.trans hml.symm) htab hlocks (List.mem_of_getElem? (i := 10) rfl) dX10_row_15 dX10_row_18 dX10_row_19 dX10_row_22 dX10_row_25 (Nat.le_of_ble_eq_true rfl) (Nat.le_of_ble_eq_true rfl) (Nat.le_of_ble_eq_true rfl) (Nat.le_of_ble_eq_true rfl) (⟨rfl, by simp [sp_one, hz_6]⟩) (Nat.le_of_ble_eq_true rfl) (Nat.le_of_ble_eq_true rfl)
