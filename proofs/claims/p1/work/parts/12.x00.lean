set_option maxHeartbeats 400000 in
set_option maxRecDepth 100000 in
theorem x_ofText0 (l : Launch) (hl0 : l.stackTraces = false) (G : va_G) (y : Nat → ClassId) (sz : Nat) (h0 : Nat) (tp : Nat) (ps : Nat) (sp : Nat) (tk : Nat) (dr : Nat) (pr : Nat) (da : Nat) (nw : Nat) (im : Nat) (ac : Nat) (ke : Nat) (si : Nat) (tx : Nat) (an : Nat) (dw : Nat) (txb : Nat) (i : Int32)  : vx_Met l yX10_ofText wsX10_ofText ({ frames := 6, cells := 1, slots := 6, locals := 100 }) (nq_PX G y sz [.ref h0, .int i] [(h0, .inr (10, [.ref tp, .int 0, .int (-1), .ref ps, .ref sp, .ref tk, .ref dr, .ref pr, .ref da, .ref nw, .ref im, .int 0, .ref ac, .ref ke, .ref si, .ref tx, .ref an, .ref dw])), (tx, .inr (7, [.ref txb, .int 0]))]) (va_Qi (fun (r : Int32) (_ : Unit) => i = (-1) ∧ r = 0) (fun (u : Unit) t9 => va_P G vwCl ([]) t9.heap ∧ va_D (va_A [(h0, .inr (10, [.ref tp, .int 0, .int (-1), .ref ps, .ref sp, .ref tk, .ref dr, .ref pr, .ref da, .ref nw, .ref im, .int 0, .ref ac, .ref ke, .ref si, .ref tx, .ref an, .ref dw])), (tx, .inr (7, [.ref txb, .int 0]))] sz) ([])) (va_A [(h0, .inr (10, [.ref tp, .int 0, .int (-1), .ref ps, .ref sp, .ref tk, .ref dr, .ref pr, .ref da, .ref nw, .ref im, .int 0, .ref ac, .ref ke, .ref si, .ref tx, .ref an, .ref dw])), (tx, .inr (7, [.ref txb, .int 0]))] sz)) (vx_X (fun (_ : Unit) => True) (fun E _ _ => E = nq_NSE ∧ ¬ i = (-1)) (va_A [(h0, .inr (10, [.ref tp, .int 0, .int (-1), .ref ps, .ref sp, .ref tk, .ref dr, .ref pr, .ref da, .ref nw, .ref im, .int 0, .ref ac, .ref ke, .ref si, .ref tx, .ref an, .ref dw])), (tx, .inr (7, [.ref txb, .int 0]))] sz)) 1 6 (va_A [(h0, .inr (10, [.ref tp, .int 0, .int (-1), .ref ps, .ref sp, .ref tk, .ref dr, .ref pr, .ref da, .ref nw, .ref im, .int 0, .ref ac, .ref ke, .ref si, .ref tx, .ref an, .ref dw])), (tx, .inr (7, [.ref txb, .int 0]))] sz) := by
  refine vx_ofW (cc := cX10_ofText) (maxL := 2) (ret := (some .int)) (by decide) rfl ?_
  intro p e s m args below meth c s₁ B hml htab hv
  obtain ⟨rfl, hsz, hP, hK, hD0, hXs⟩ := hv
  have hx := B.exec
  have hb := B.bytes
  have hr := B.returns
  have hts := atoms_spec (ws := wsX10_ofText) B.pre
  have hown : s.vm.findClass RX10 = some m.cls := findClass_of_methodNamed B.named
  have hlocks := B.notSynchronized
  subst hsz
  have hD := hD0.self (sz := s.heap.size)
  generalize hAe : va_A [(h0, .inr (10, [.ref tp, .int 0, .int (-1), .ref ps, .ref sp, .ref tk, .ref dr, .ref pr, .ref da, .ref nw, .ref im, .int 0, .ref ac, .ref ke, .ref si, .ref tx, .ref an, .ref dw])), (tx, .inr (7, [.ref txb, .int 0]))] s.heap.size = A at hD hXs ⊢
  have hA : ∀ q : Nat, s.heap.size ≤ q → A q := fun q h => by rw [← hAe]; exact Or.inr h
  have hS : va_S A s.heap s.heap [] := va_S.rf
  have hP : va_P G vwCl [(h0, .inr (10, [.ref tp, .int 0, .int (-1), .ref ps, .ref sp, .ref tk, .ref dr, .ref pr, .ref da, .ref nw, .ref im, .int 0, .ref ac, .ref ke, .ref si, .ref tx, .ref an, .ref dw])), (tx, .inr (7, [.ref txb, .int 0]))] s.heap := hP
  have inX10 : ∀ w ∈ wsX100, w ∈ wsX10_ofText := by decide +kernel
  have inX7 : ∀ w ∈ wsX70, w ∈ wsX10_ofText := by decide +kernel
  have hl := lv_entry ([.ref h0, .int i]) (n := 2) (Nat.le_of_ble_eq_true rfl)
  rw [lg_entry_eq]
  generalize (lg_sl ([.ref h0, .int i]) ++ List.replicate (2 - (lg_sl ([.ref h0, .int i])).length) Slot.unset).toArray = ls at hl ⊢
  have hl : lv_has ls 2 [(0, .ref h0), (1, .int i)] := hl
  refine lv_iload_n hx hb dX10_ofText_0 rfl (lv_at hl 1 rfl) ?_
  refine lv_iconst (v := (-1)) hx hb dX10_ofText_1 (by decide) ?_
  refine lv_icmp_ne (tgt := 13) hx hb dX10_ofText_2 (by decide) (fun c_1 => ?_) (fun c_1 => ?_)
  · refine lv_iload_n hx hb dX10_ofText_13 rfl (lv_at hl 1 rfl) ?_
    refine lv_if_lt (tgt := 28) hx hb dX10_ofText_14 (by decide) (fun c_2 => ?_) (fun c_2 => ?_)
    · exact nq_throwNW (BX := fun E => E = nq_NSE ∧ ¬ i = (-1)) (text := "no such byte") hx hb hl0 hown hts (by first | exact fun w h => List.mem_cons_of_mem _ (List.mem_append_right _ h) | exact fun w h => List.mem_cons_of_mem _ (List.mem_append_left _ (List.mem_append_right _ h)) | decide +kernel) (by decide +kernel) (by decide +kernel) hXs hS (hl.1.trans hml.symm) htab hlocks (List.mem_of_getElem? (i := 6) rfl) dX10_ofText_28 dX10_ofText_31 dX10_ofText_32 dX10_ofText_35 dX10_ofText_38 (Nat.le_of_ble_eq_true rfl) (Nat.le_of_ble_eq_true rfl) (Nat.le_of_ble_eq_true rfl) (Nat.le_of_ble_eq_true rfl) (⟨rfl, c_1⟩) (Nat.le_of_ble_eq_true rfl) (Nat.le_of_ble_eq_true rfl)
    · refine lv_iload_n hx hb dX10_ofText_17 rfl (lv_at hl 1 rfl) ?_
      refine lv_aload_n hx hb dX10_ofText_18 rfl (lv_at hl 0 rfl) ?_
      refine va_get (D := G) (ci := 10) (v := .ref tx) (C := RX10) (T := TX10) (N := 18) hx hb hts inX10 hown hK.1 hP 0 rfl rfl 15 (by decide) (hts (.fieldLink RX10 92 "NestQuery" "text" "LNestQuery$TextOut;") (by decide +kernel)) (fun _ h9 => h9) rfl dX10_ofText_19 ?_
      refine va_getN (D := G) (ci := 7) (v := .int 0) (C := RX7) (T := TX7) (N := 2) hx hb hts inX7 hown hK.1 hP 1 rfl rfl 1 (by decide) (nl_19 hK) (fun _ h9 => h9) rfl dX10_ofText_22 ?_
      refine lv_icmp_lt (tgt := 39) hx hb dX10_ofText_25 (by decide) (fun c_3 => absurd c_3 (nq_nlt c_2 (by decide))) (fun _ => ?_)
      exact nq_throwNW (BX := fun E => E = nq_NSE ∧ ¬ i = (-1)) (text := "no such byte") hx hb hl0 hown hts (by first | exact fun w h => List.mem_cons_of_mem _ (List.mem_append_right _ h) | exact fun w h => List.mem_cons_of_mem _ (List.mem_append_left _ (List.mem_append_right _ h)) | decide +kernel) (by decide +kernel) (by decide +kernel) hXs hS (hl.1.trans hml.symm) htab hlocks (List.mem_of_getElem? (i := 6) rfl) dX10_ofText_28 dX10_ofText_31 dX10_ofText_32 dX10_ofText_35 dX10_ofText_38 (Nat.le_of_ble_eq_true rfl) (Nat.le_of_ble_eq_true rfl) (Nat.le_of_ble_eq_true rfl) (Nat.le_of_ble_eq_true rfl) (⟨rfl, c_1⟩) (Nat.le_of_ble_eq_true rfl) (Nat.le_of_ble_eq_true rfl)
  · subst c_1
    refine lv_aload_n hx hb dX10_ofText_5 rfl (lv_at hl 0 rfl) ?_
    refine va_get (D := G) (ci := 10) (v := .ref tx) (C := RX10) (T := TX10) (N := 18) hx hb hts inX10 hown hK.1 hP 0 rfl rfl 15 (by decide) (hts (.fieldLink RX10 92 "NestQuery" "text" "LNestQuery$TextOut;") (by decide +kernel)) (fun _ h9 => h9) rfl dX10_ofText_6 ?_
    refine va_getN (D := G) (ci := 7) (v := .int 0) (C := RX7) (T := TX7) (N := 2) hx hb hts inX7 hown hK.1 hP 1 rfl rfl 1 (by decide) (nl_19 hK) (fun _ h9 => h9) rfl dX10_ofText_9 ?_
    have hP9 := hP.sub (ws' := []) [] rfl
    have hD9 := hD.sub (ws' := []) [] (by decide) rfl
    refine vx_ret ?_
    refine W.widen (k := 1) (n := 6) (Nat.le_of_ble_eq_true rfl) (Nat.le_of_ble_eq_true rfl) ?_
    exact W.iret (v := 0) hx hb hr (fun t ht hW => ⟨⟨0, (), rfl, ⟨by decide, rfl⟩, by rw [ht]; exact hP9, by first | exact hD9 | (rw [hAe]; exact hD9)⟩, hS.F ht⟩) hS.2.2 dX10_ofText_12
