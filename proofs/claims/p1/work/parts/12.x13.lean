set_option maxHeartbeats 400000 in
set_option maxRecDepth 100000 in
theorem x_append (l : Launch) (hl0 : l.stackTraces = false) (G : va_G) (y : Nat → ClassId) (sz : Nat) (h0 : Nat) (tp : Nat) (ps : Nat) (sp : Nat) (tk : Nat) (dr : Nat) (pr : Nat) (da : Nat) (nw : Nat) (im : Nat) (ac : Nat) (ke : Nat) (si : Nat) (tx : Nat) (an : Nat) (dw : Nat) (nwt : Nat) (nwb : Nat) (nwn : Nat) (nwi : Nat) (nwr : Nat) (i : Int32) (j : Int32)  : vx_Met l yX10_append wsX10_append ({ frames := 6, cells := 1, slots := 6, locals := 100 }) (nq_PX G y sz [.ref h0, .int i, .int j] [(h0, .inr (10, [.ref tp, .int 0, .int (-1), .ref ps, .ref sp, .ref tk, .ref dr, .ref pr, .ref da, .ref nw, .ref im, .int 0, .ref ac, .ref ke, .ref si, .ref tx, .ref an, .ref dw])), (ps, .inl (y 3, 4, .inr (.inr (.inr (.inr (fun _ => none)))))), (nw, .inr (6, [.ref nwt, .ref nwb, .int 0, .ref nwn, .ref nwi, .int 0, .ref nwr])), (nwr, .inl (y 0, 3, .inl (fun _ => 0)))]) (va_Qi (fun (r : Int32) (_ : Unit) => (sp_put i j).1 = 0 ∧ r = (sp_put i j).2) (fun (u : Unit) t9 => va_P G vwCl ([]) t9.heap ∧ va_D (va_A [(h0, .inr (10, [.ref tp, .int 0, .int (-1), .ref ps, .ref sp, .ref tk, .ref dr, .ref pr, .ref da, .ref nw, .ref im, .int 0, .ref ac, .ref ke, .ref si, .ref tx, .ref an, .ref dw])), (ps, .inl (y 3, 4, .inr (.inr (.inr (.inr (fun _ => none)))))), (nw, .inr (6, [.ref nwt, .ref nwb, .int 0, .ref nwn, .ref nwi, .int 0, .ref nwr])), (nwr, .inl (y 0, 3, .inl (fun _ => 0)))] sz) ([])) (va_A [(h0, .inr (10, [.ref tp, .int 0, .int (-1), .ref ps, .ref sp, .ref tk, .ref dr, .ref pr, .ref da, .ref nw, .ref im, .int 0, .ref ac, .ref ke, .ref si, .ref tx, .ref an, .ref dw])), (ps, .inl (y 3, 4, .inr (.inr (.inr (.inr (fun _ => none)))))), (nw, .inr (6, [.ref nwt, .ref nwb, .int 0, .ref nwn, .ref nwi, .int 0, .ref nwr])), (nwr, .inl (y 0, 3, .inl (fun _ => 0)))] sz)) (vx_X (fun (_ : Unit) => True) (fun E _ _ => E = nq_IAE ∧ (sp_put i j).1 = 1) (va_A [(h0, .inr (10, [.ref tp, .int 0, .int (-1), .ref ps, .ref sp, .ref tk, .ref dr, .ref pr, .ref da, .ref nw, .ref im, .int 0, .ref ac, .ref ke, .ref si, .ref tx, .ref an, .ref dw])), (ps, .inl (y 3, 4, .inr (.inr (.inr (.inr (fun _ => none)))))), (nw, .inr (6, [.ref nwt, .ref nwb, .int 0, .ref nwn, .ref nwi, .int 0, .ref nwr])), (nwr, .inl (y 0, 3, .inl (fun _ => 0)))] sz)) 1 6 (va_A [(h0, .inr (10, [.ref tp, .int 0, .int (-1), .ref ps, .ref sp, .ref tk, .ref dr, .ref pr, .ref da, .ref nw, .ref im, .int 0, .ref ac, .ref ke, .ref si, .ref tx, .ref an, .ref dw])), (ps, .inl (y 3, 4, .inr (.inr (.inr (.inr (fun _ => none)))))), (nw, .inr (6, [.ref nwt, .ref nwb, .int 0, .ref nwn, .ref nwi, .int 0, .ref nwr])), (nwr, .inl (y 0, 3, .inl (fun _ => 0)))] sz) := by
  refine vx_ofW (cc := cX10_append) (maxL := 4) (ret := (some .int)) (by decide) rfl ?_
  intro p e s m args below meth c s₁ B hml htab hv
  obtain ⟨rfl, hsz, hP, hK, hD0, hXs⟩ := hv
  have hx := B.exec
  have hb := B.bytes
  have hr := B.returns
  have hts := atoms_spec (ws := wsX10_append) B.pre
  have hown : s.vm.findClass RX10 = some m.cls := findClass_of_methodNamed B.named
  have hlocks := B.notSynchronized
  subst hsz
  have hD := hD0.self (sz := s.heap.size)
  generalize hAe : va_A [(h0, .inr (10, [.ref tp, .int 0, .int (-1), .ref ps, .ref sp, .ref tk, .ref dr, .ref pr, .ref da, .ref nw, .ref im, .int 0, .ref ac, .ref ke, .ref si, .ref tx, .ref an, .ref dw])), (ps, .inl (y 3, 4, .inr (.inr (.inr (.inr (fun _ => none)))))), (nw, .inr (6, [.ref nwt, .ref nwb, .int 0, .ref nwn, .ref nwi, .int 0, .ref nwr])), (nwr, .inl (y 0, 3, .inl (fun _ => 0)))] s.heap.size = A at hD hXs ⊢
  have hA : ∀ q : Nat, s.heap.size ≤ q → A q := fun q h => by rw [← hAe]; exact Or.inr h
  have hS : va_S A s.heap s.heap [] := va_S.rf
  have hP : va_P G vwCl [(h0, .inr (10, [.ref tp, .int 0, .int (-1), .ref ps, .ref sp, .ref tk, .ref dr, .ref pr, .ref da, .ref nw, .ref im, .int 0, .ref ac, .ref ke, .ref si, .ref tx, .ref an, .ref dw])), (ps, .inl (y 3, 4, .inr (.inr (.inr (.inr (fun _ => none)))))), (nw, .inr (6, [.ref nwt, .ref nwb, .int 0, .ref nwn, .ref nwi, .int 0, .ref nwr])), (nwr, .inl (y 0, 3, .inl (fun _ => 0)))] s.heap := hP
  have hl := lv_entry ([.ref h0, .int i, .int j]) (n := 4) (Nat.le_of_ble_eq_true rfl)
  rw [lg_entry_eq]
  generalize (lg_sl ([.ref h0, .int i, .int j]) ++ List.replicate (4 - (lg_sl ([.ref h0, .int i, .int j])).length) Slot.unset).toArray = ls at hl ⊢
  have hl : lv_has ls 4 [(0, .ref h0), (1, .int i), (2, .int j)] := hl
  refine lv_aload_n hx hb dX10_append_0 rfl (lv_at hl 0 rfl) ?_
  refine lv_iload_n hx hb dX10_append_1 rfl (lv_at hl 2 rfl) ?_
  refine nq_rdi (va_runV (As := [.int j]) (rest := []) ⟨hx, hb, hml, hown, hts⟩ (c_tapeHas l G y s.heap.size h0 tp ps sp tk dr pr da nw im ac ke si tx an dw j ) (cwV 1 hts gX10_append_X10_tapeHas rfl rfl rfl (by decide +kernel) ⟨Nat.le_of_ble_eq_true rfl, Nat.le_of_ble_eq_true rfl⟩) (nq_PV hK hP hD [0] rfl rfl 0 rfl rfl) rfl rfl hl.1 rfl (lv_room (Nat.le_of_ble_eq_true rfl)) dX10_append_2 ⟨Nat.le_of_ble_eq_true rfl, Nat.le_of_ble_eq_true rfl⟩) hP hS hA (fun r_1 H locs hw_2 hP hS => ?_)
  rcases hw_2 with ⟨c_3, hr_4⟩ | ⟨c_5, hr_6⟩
  · subst c_3
    subst hr_4
    refine lv_if_ne (tgt := 18) hx hb dX10_append_5 (by decide) (fun _ => ?_) (fun c_7 => absurd c_7 (by decide))
    refine lv_aload_n hx hb dX10_append_18 rfl (lv_at hl 0 rfl) ?_
    refine lv_iload_n hx hb dX10_append_19 rfl (lv_at hl 1 rfl) ?_
    refine nq_rdq (va_runV (As := [.int i]) (rest := []) ⟨hx, hb, hml, hown, hts⟩ (c_pathAt l G y H.size h0 tp ps sp tk dr pr da nw im ac ke si tx an dw i ) (cwV 1 hts gX10_append_X10_pathAt rfl rfl rfl (by decide +kernel) ⟨Nat.le_of_ble_eq_true rfl, Nat.le_of_ble_eq_true rfl⟩) (nq_PV hK hP hD [0, 1] rfl rfl 0 rfl rfl) rfl rfl hl.1 rfl (lv_room (Nat.le_of_ble_eq_true rfl)) dX10_append_20 ⟨Nat.le_of_ble_eq_true rfl, Nat.le_of_ble_eq_true rfl⟩) hP hS hA (fun r_8 H locs hw_9 hP hS => ?_)
    subst hw_9
    refine lv_astore_nN (lv' := [(3, .null), (0, .ref h0), (1, .int i), (2, .int 0)]) hx hb dX10_append_23 rfl hl (by decide) rfl (fun ls hl => ?_)
    refine lv_aload_nN hx hb dX10_append_24 rfl (lv_at hl 0 rfl) ?_
    refine lv_ifnonnullN hx hb dX10_append_25 ?_
    refine lv_aload_n hx hb dX10_append_28 rfl (lv_at hl 1 rfl) ?_
    refine nq_wri (wr := [(ps, .inl (y 3, 4, .inr (.inr (.inr (.inr (fun _ => none))))))]) (va_runV (As := []) (rest := []) ⟨hx, hb, hml, hown, hts⟩ (c_refusedUnread l G y H.size h0 tp ps sp tk dr pr da nw im ac ke si tx an dw nwt nwb nwn nwi nwr ) (cwV 0 hts gX10_append_X10_refusedUnread rfl rfl rfl (by decide +kernel) ⟨Nat.le_of_ble_eq_true rfl, Nat.le_of_ble_eq_true rfl⟩) (nq_PV hK hP hD [0, 2, 3] rfl rfl 0 rfl rfl) rfl rfl hl.1 rfl (lv_room (Nat.le_of_ble_eq_true rfl)) dX10_append_29 ⟨Nat.le_of_ble_eq_true rfl, Nat.le_of_ble_eq_true rfl⟩) hP hD hS hA [0, 2, 3] [1] rfl rfl (by decide) (by decide) (fun r_12 u_10 H locs hw_11 hP hD hS => ?_)
    have hP : va_P G vwCl [(ps, .inl (y 3, 4, .inr (.inr (.inr (.inr (fun _ => none))))))] H := hP
    have hD : va_D A [(ps, .inl (y 3, 4, .inr (.inr (.inr (.inr (fun _ => none))))))] := hD
    subst hw_11
    have hP9 := hP.sub (ws' := []) [] rfl
    have hD9 := hD.sub (ws' := []) [] (by decide) rfl
    refine vx_ret ?_
    refine W.widen (k := 1) (n := 6) (Nat.le_of_ble_eq_true rfl) (Nat.le_of_ble_eq_true rfl) ?_
    exact W.iret (v := (-1)) hx hb hr (fun t ht hW => ⟨⟨(-1), (), rfl, ⟨by simp [sp_put], by simp [sp_put]⟩, by rw [ht]; exact hP9, by first | exact hD9 | (rw [hAe]; exact hD9)⟩, hS.F ht⟩) hS.2.2 dX10_append_32
  · subst hr_6
    refine lv_if_ne (tgt := 18) hx hb dX10_append_5 (by decide) (fun c_14 => absurd c_14 (by decide)) (fun _ => ?_)
    exact nq_throwI (BX := fun E => E = nq_IAE ∧ (sp_put i j).1 = 1) (text := "the tape has not so many bytes") hx hb hl0 hown hts (by first | exact fun w h => List.mem_cons_of_mem _ (List.mem_append_right _ h) | exact fun w h => List.mem_cons_of_mem _ (List.mem_append_left _ (List.mem_append_right _ h)) | decide +kernel) (by decide +kernel) (by decide +kernel) hXs hS (hl.1.trans hml.symm) htab hlocks (List.mem_of_getElem? (i := 0) rfl) dX10_append_8 dX10_append_11 dX10_append_12 dX10_append_14 dX10_append_17 (Nat.le_of_ble_eq_true rfl) (Nat.le_of_ble_eq_true rfl) (Nat.le_of_ble_eq_true rfl) (Nat.le_of_ble_eq_true rfl) (⟨rfl, by simp [sp_put, c_5]⟩) (Nat.le_of_ble_eq_true rfl) (Nat.le_of_ble_eq_true rfl)
