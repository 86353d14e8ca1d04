set_option maxHeartbeats 400000 in
set_option maxRecDepth 100000 in
theorem c_bitCount (l : Launch) (G : va_G) (y : Nat → ClassId) (sz : Nat)   : Met l yJ6_bitCount_0f7a4 wsJ6_bitCount_0f7a4 ({ frames := 0, cells := 0, slots := 0, locals := 0 }) (nq_P G y sz [.int 0] []) (va_Qi (fun (r : Int32) (_ : Unit) => r = 0) (fun _ _ => True) (va_A [] sz)) 0 0 (va_A [] sz) := by
  refine Met.ofW (cc := cJ6_bitCount_0f7a4) (maxL := 1) (ret := (some .int)) (by decide) rfl ?_
  intro p e s m args below meth c s₁ B hml hv
  obtain ⟨rfl, hsz, hP, hK, hD0⟩ := hv
  have hx := B.exec
  have hb := B.bytes
  have hr := B.returns
  have hts := atoms_spec (ws := wsJ6_bitCount_0f7a4) B.pre
  have hown : s.vm.findClass RJ6 = some m.cls := findClass_of_methodNamed B.named
  have hlocks := B.notSynchronized
  subst hsz
  have hD := hD0
  have hA : ∀ q : Nat, s.heap.size ≤ q → va_A [] s.heap.size q := fun q h => Or.inr h
  have hS : va_S (va_A [] s.heap.size) s.heap s.heap [] := va_S.rf
  have hP : va_P G vwCl [] s.heap := hP
  have hl := lv_entry ([.int 0]) (n := 1) (Nat.le_of_ble_eq_true rfl)
  rw [lg_entry_eq]
  generalize (lg_sl ([.int 0]) ++ List.replicate (1 - (lg_sl ([.int 0])).length) Slot.unset).toArray = ls at hl ⊢
  have hl : lv_has ls 1 [(0, .int 0)] := hl
  refine lv_iload_n hx hb dJ6_bitCount_0f7a4_0 rfl (lv_at hl 0 rfl) ?_
  refine lv_iload_n hx hb dJ6_bitCount_0f7a4_1 rfl (lv_at hl 0 rfl) ?_
  refine lv_iconst (v := 1) hx hb dJ6_bitCount_0f7a4_2 (by decide) ?_
  refine lv_iushr (v := 0) hx hb dJ6_bitCount_0f7a4_3 (by decide) ?_
  refine lv_ldcw (v := 1431655765) hx hb hown (hts (.constant RJ6 265 1431655765) (by decide +kernel)) dJ6_bitCount_0f7a4_4 ?_
  refine lv_iand hx hb dJ6_bitCount_0f7a4_7 ?_
  refine nq_top (z := 0) (by decide) ?_
  refine lv_isub hx hb dJ6_bitCount_0f7a4_8 ?_
  refine nq_top (z := 0) (by decide) ?_
  refine lv_istore_n (lv' := [(0, .int 0)]) hx hb dJ6_bitCount_0f7a4_9 rfl hl (by decide) rfl (fun ls hl => ?_)
  refine lv_iload_n hx hb dJ6_bitCount_0f7a4_10 rfl (lv_at hl 0 rfl) ?_
  refine lv_ldcw (v := 858993459) hx hb hown (hts (.constant RJ6 266 858993459) (by decide +kernel)) dJ6_bitCount_0f7a4_11 ?_
  refine lv_iand hx hb dJ6_bitCount_0f7a4_14 ?_
  refine nq_top (z := 0) (by decide) ?_
  refine lv_iload_n hx hb dJ6_bitCount_0f7a4_15 rfl (lv_at hl 0 rfl) ?_
  refine lv_iconst (v := 2) hx hb dJ6_bitCount_0f7a4_16 (by decide) ?_
  refine lv_iushr (v := 0) hx hb dJ6_bitCount_0f7a4_17 (by decide) ?_
  refine lv_ldcw (v := 858993459) hx hb hown (hts (.constant RJ6 266 858993459) (by decide +kernel)) dJ6_bitCount_0f7a4_18 ?_
  refine lv_iand hx hb dJ6_bitCount_0f7a4_21 ?_
  refine nq_top (z := 0) (by decide) ?_
  refine lv_iadd hx hb dJ6_bitCount_0f7a4_22 ?_
  refine nq_top (z := 0) (by decide) ?_
  refine lv_istore_n (lv' := [(0, .int 0)]) hx hb dJ6_bitCount_0f7a4_23 rfl hl (by decide) rfl (fun ls hl => ?_)
  refine lv_iload_n hx hb dJ6_bitCount_0f7a4_24 rfl (lv_at hl 0 rfl) ?_
  refine lv_iload_n hx hb dJ6_bitCount_0f7a4_25 rfl (lv_at hl 0 rfl) ?_
  refine lv_iconst (v := 4) hx hb dJ6_bitCount_0f7a4_26 (by decide) ?_
  refine lv_iushr (v := 0) hx hb dJ6_bitCount_0f7a4_27 (by decide) ?_
  refine lv_iadd hx hb dJ6_bitCount_0f7a4_28 ?_
  refine nq_top (z := 0) (by decide) ?_
  refine lv_ldcw (v := 252645135) hx hb hown (hts (.constant RJ6 267 252645135) (by decide +kernel)) dJ6_bitCount_0f7a4_29 ?_
  refine lv_iand hx hb dJ6_bitCount_0f7a4_32 ?_
  refine nq_top (z := 0) (by decide) ?_
  refine lv_istore_n (lv' := [(0, .int 0)]) hx hb dJ6_bitCount_0f7a4_33 rfl hl (by decide) rfl (fun ls hl => ?_)
  refine lv_iload_n hx hb dJ6_bitCount_0f7a4_34 rfl (lv_at hl 0 rfl) ?_
  refine lv_iload_n hx hb dJ6_bitCount_0f7a4_35 rfl (lv_at hl 0 rfl) ?_
  refine lv_bipush (v := 8) hx hb dJ6_bitCount_0f7a4_36 (by decide) ?_
  refine lv_iushr (v := 0) hx hb dJ6_bitCount_0f7a4_38 (by decide) ?_
  refine lv_iadd hx hb dJ6_bitCount_0f7a4_39 ?_
  refine nq_top (z := 0) (by decide) ?_
  refine lv_istore_n (lv' := [(0, .int 0)]) hx hb dJ6_bitCount_0f7a4_40 rfl hl (by decide) rfl (fun ls hl => ?_)
  refine lv_iload_n hx hb dJ6_bitCount_0f7a4_41 rfl (lv_at hl 0 rfl) ?_
  refine lv_iload_n hx hb dJ6_bitCount_0f7a4_42 rfl (lv_at hl 0 rfl) ?_
  refine lv_bipush (v := 16) hx hb dJ6_bitCount_0f7a4_43 (by decide) ?_
  refine lv_iushr (v := 0) hx hb dJ6_bitCount_0f7a4_45 (by decide) ?_
  refine lv_iadd hx hb dJ6_bitCount_0f7a4_46 ?_
  refine nq_top (z := 0) (by decide) ?_
  refine lv_istore_n (lv' := [(0, .int 0)]) hx hb dJ6_bitCount_0f7a4_47 rfl hl (by decide) rfl (fun ls hl => ?_)
  refine lv_iload_n hx hb dJ6_bitCount_0f7a4_48 rfl (lv_at hl 0 rfl) ?_
  refine lv_bipush (v := 63) hx hb dJ6_bitCount_0f7a4_49 (by decide) ?_
  refine lv_iand hx hb dJ6_bitCount_0f7a4_51 ?_
  refine nq_top (z := 0) (by decide) ?_
  refine W.widen (k := 0) (n := 0) (Nat.le_of_ble_eq_true rfl) (Nat.le_of_ble_eq_true rfl) ?_
  exact W.iret (v := 0) hx hb hr (fun t ht hW => ⟨⟨0, (), rfl, rfl, trivial⟩, hS.F ht⟩) hS.2.2 dJ6_bitCount_0f7a4_52

set_option maxHeartbeats 400000 in
set_option maxRecDepth 100000 in
theorem x_look (l : Launch) (G : va_G) (y : Nat → ClassId) (sz : Nat) (h0 : Nat) (tp : Nat) (ps : Nat) (sp : Nat) (tk : Nat) (dr : Nat) (pr : Nat) (da : Nat) (nw : Nat) (im : Nat) (ac : Nat) (ke : Nat) (si : Nat) (tx : Nat) (an : Nat) (dw : Nat) (nwt : Nat) (nwb : Nat) (nwn : Nat) (nwi : Nat) (nwr : Nat) (nwtk : Nat) (nwtv : Nat) (nwte : Nat) (nwtd : Nat)  : Met l yX10_look wsX10_look ({ frames := 2, cells := 0, slots := 0, locals := 44 }) (nq_P G y sz [.ref h0] [(h0, .inr (10, [.ref tp, .int 0, .int (-1), .ref ps, .ref sp, .ref tk, .ref dr, .ref pr, .ref da, .ref nw, .ref im, .int 0, .ref ac, .ref ke, .ref si, .ref tx, .ref an, .ref dw])), (ps, .inl (y 3, 4, .inr (.inr (.inr (.inr (fun _ => none)))))), (an, .inl (y 1, 4, .inr (.inl (fun _ => 0)))), (nw, .inr (6, [.ref nwt, .ref nwb, .int 0, .ref nwn, .ref nwi, .int 0, .ref nwr])), (nwt, .inr (9, [.ref nwtk, .ref nwtv, .ref nwte, .ref nwtd, .int 1]))]) (va_Qi (fun (r : Int32) (_ : Unit) => r = (-1)) (fun (u : Unit) t9 => va_P G vwCl ([]) t9.heap ∧ va_D (va_A [(h0, .inr (10, [.ref tp, .int 0, .int (-1), .ref ps, .ref sp, .ref tk, .ref dr, .ref pr, .ref da, .ref nw, .ref im, .int 0, .ref ac, .ref ke, .ref si, .ref tx, .ref an, .ref dw])), (ps, .inl (y 3, 4, .inr (.inr (.inr (.inr (fun _ => none)))))), (an, .inl (y 1, 4, .inr (.inl (fun _ => 0)))), (nw, .inr (6, [.ref nwt, .ref nwb, .int 0, .ref nwn, .ref nwi, .int 0, .ref nwr])), (nwt, .inr (9, [.ref nwtk, .ref nwtv, .ref nwte, .ref nwtd, .int 1]))] sz) ([])) (va_A [(h0, .inr (10, [.ref tp, .int 0, .int (-1), .ref ps, .ref sp, .ref tk, .ref dr, .ref pr, .ref da, .ref nw, .ref im, .int 0, .ref ac, .ref ke, .ref si, .ref tx, .ref an, .ref dw])), (ps, .inl (y 3, 4, .inr (.inr (.inr (.inr (fun _ => none)))))), (an, .inl (y 1, 4, .inr (.inl (fun _ => 0)))), (nw, .inr (6, [.ref nwt, .ref nwb, .int 0, .ref nwn, .ref nwi, .int 0, .ref nwr])), (nwt, .inr (9, [.ref nwtk, .ref nwtv, .ref nwte, .ref nwtd, .int 1]))] sz)) 0 0 (va_A [(h0, .inr (10, [.ref tp, .int 0, .int (-1), .ref ps, .ref sp, .ref tk, .ref dr, .ref pr, .ref da, .ref nw, .ref im, .int 0, .ref ac, .ref ke, .ref si, .ref tx, .ref an, .ref dw])), (ps, .inl (y 3, 4, .inr (.inr (.inr (.inr (fun _ => none)))))), (an, .inl (y 1, 4, .inr (.inl (fun _ => 0)))), (nw, .inr (6, [.ref nwt, .ref nwb, .int 0, .ref nwn, .ref nwi, .int 0, .ref nwr])), (nwt, .inr (9, [.ref nwtk, .ref nwtv, .ref nwte, .ref nwtd, .int 1]))] sz) := by
  refine Met.ofW (cc := cX10_look) (maxL := 8) (ret := (some .int)) (by decide) rfl ?_
  intro p e s m args below meth c s₁ B hml hv
  obtain ⟨rfl, hsz, hP, hK, hD0⟩ := hv
  have hx := B.exec
  have hb := B.bytes
  have hr := B.returns
  have hts := atoms_spec (ws := wsX10_look) B.pre
  have hown : s.vm.findClass RX10 = some m.cls := findClass_of_methodNamed B.named
  have hlocks := B.notSynchronized
  subst hsz
  have hD := hD0.self (sz := s.heap.size)
  generalize hAe : va_A [(h0, .inr (10, [.ref tp, .int 0, .int (-1), .ref ps, .ref sp, .ref tk, .ref dr, .ref pr, .ref da, .ref nw, .ref im, .int 0, .ref ac, .ref ke, .ref si, .ref tx, .ref an, .ref dw])), (ps, .inl (y 3, 4, .inr (.inr (.inr (.inr (fun _ => none)))))), (an, .inl (y 1, 4, .inr (.inl (fun _ => 0)))), (nw, .inr (6, [.ref nwt, .ref nwb, .int 0, .ref nwn, .ref nwi, .int 0, .ref nwr])), (nwt, .inr (9, [.ref nwtk, .ref nwtv, .ref nwte, .ref nwtd, .int 1]))] s.heap.size = A at hD ⊢
  have hA : ∀ q : Nat, s.heap.size ≤ q → A q := fun q h => by rw [← hAe]; exact Or.inr h
  have hS : va_S A s.heap s.heap [] := va_S.rf
  have hP : va_P G vwCl [(h0, .inr (10, [.ref tp, .int 0, .int (-1), .ref ps, .ref sp, .ref tk, .ref dr, .ref pr, .ref da, .ref nw, .ref im, .int 0, .ref ac, .ref ke, .ref si, .ref tx, .ref an, .ref dw])), (ps, .inl (y 3, 4, .inr (.inr (.inr (.inr (fun _ => none)))))), (an, .inl (y 1, 4, .inr (.inl (fun _ => 0)))), (nw, .inr (6, [.ref nwt, .ref nwb, .int 0, .ref nwn, .ref nwi, .int 0, .ref nwr])), (nwt, .inr (9, [.ref nwtk, .ref nwtv, .ref nwte, .ref nwtd, .int 1]))] s.heap := hP
  have inX10 : ∀ w ∈ wsX100, w ∈ wsX10_look := by decide +kernel
  have inX6 : ∀ w ∈ wsX60, w ∈ wsX10_look := by decide +kernel
  have inX9 : ∀ w ∈ wsX90, w ∈ wsX10_look := by decide +kernel
  have hl := lv_entry ([.ref h0]) (n := 8) (Nat.le_of_ble_eq_true rfl)
  rw [lg_entry_eq]
  generalize (lg_sl ([.ref h0]) ++ List.replicate (8 - (lg_sl ([.ref h0])).length) Slot.unset).toArray = ls at hl ⊢
  have hl : lv_has ls 8 [(0, .ref h0)] := hl
  refine lv_aload_n hx hb dX10_look_0 rfl (lv_at hl 0 rfl) ?_
  refine nq_wri (wr := [(nw, .inr (6, [.ref nwt, .ref nwb, .int 0, .ref nwn, .ref nwi, .int 0, .ref nwr])), (nwt, .inr (9, [.ref nwtk, .ref nwtv, .ref nwte, .ref nwtd, .int 1]))]) (va_runV (As := []) (rest := []) ⟨hx, hb, hml, hown, hts⟩ (c_pathsThatFit l G y s.heap.size h0 tp ps sp tk dr pr da nw im ac ke si tx an dw ) (cwV 0 hts gX10_look_X10_pathsThatFit rfl rfl rfl (by decide +kernel) ⟨Nat.le_of_ble_eq_true rfl, Nat.le_of_ble_eq_true rfl⟩) (nq_PV hK hP hD [0, 1, 2] rfl rfl 0 rfl rfl) rfl rfl hl.1 rfl (lv_room (Nat.le_of_ble_eq_true rfl)) dX10_look_1 ⟨Nat.le_of_ble_eq_true rfl, Nat.le_of_ble_eq_true rfl⟩) hP hD hS hA [0, 1, 2] [3, 4] rfl rfl (by decide) (by decide) (fun r_3 u_1 H locs hw_2 hP hD hS => ?_)
  have hP : va_P G vwCl [(nw, .inr (6, [.ref nwt, .ref nwb, .int 0, .ref nwn, .ref nwi, .int 0, .ref nwr])), (nwt, .inr (9, [.ref nwtk, .ref nwtv, .ref nwte, .ref nwtd, .int 1])), (h0, .inr (10, [.ref tp, .int 0, .int (-1), .ref ps, .ref sp, .ref tk, .ref dr, .ref pr, .ref da, .ref nw, .ref im, .int 0, .ref ac, .ref ke, .ref si, .ref tx, .ref an, .ref dw])), (ps, .inl (y 3, 4, .inr (.inr (.inr (.inr (fun _ => none)))))), (an, .inl (y 1, 4, .inr (.inl (vp_updL (vp_updL (vp_updL (vp_updL (fun _ => 0) 0 0) 1 0) 2 0) 3 0))))] H := hP
  have hD : va_D A [(nw, .inr (6, [.ref nwt, .ref nwb, .int 0, .ref nwn, .ref nwi, .int 0, .ref nwr])), (nwt, .inr (9, [.ref nwtk, .ref nwtv, .ref nwte, .ref nwtd, .int 1])), (h0, .inr (10, [.ref tp, .int 0, .int (-1), .ref ps, .ref sp, .ref tk, .ref dr, .ref pr, .ref da, .ref nw, .ref im, .int 0, .ref ac, .ref ke, .ref si, .ref tx, .ref an, .ref dw])), (ps, .inl (y 3, 4, .inr (.inr (.inr (.inr (fun _ => none)))))), (an, .inl (y 1, 4, .inr (.inl (vp_updL (vp_updL (vp_updL (vp_updL (fun _ => 0) 0 0) 1 0) 2 0) 3 0))))] := hD
  subst hw_2
  refine lv_istore_n (lv' := [(1, .int 0), (0, .ref h0)]) hx hb dX10_look_4 rfl hl (by decide) rfl (fun ls hl => ?_)
  refine lv_iload_n hx hb dX10_look_5 rfl (lv_at hl 0 rfl) ?_
  refine nq_rdi (va_runS (As := [.int 0]) (rest := []) ⟨hx, hb, hml, hown, hts⟩ (c_bitCount l G y H.size  ) (va_cwS 1 hts gX10_look_J6_bitCount_0f7a4 rfl rfl rfl (by decide +kernel) ⟨Nat.le_of_ble_eq_true rfl, Nat.le_of_ble_eq_true rfl⟩) (nq_PS hK hP hD [] rfl rfl) rfl rfl hl.1 rfl (lv_room (Nat.le_of_ble_eq_true rfl)) dX10_look_6 ⟨Nat.le_of_ble_eq_true rfl, Nat.le_of_ble_eq_true rfl⟩) hP hS hA (fun r_4 H locs hw_5 hP hS => ?_)
  subst hw_5
  refine lv_istore_n (lv' := [(2, .int 0), (1, .int 0), (0, .ref h0)]) hx hb dX10_look_9 rfl hl (by decide) rfl (fun ls hl => ?_)
  refine lv_iconst (v := (-1)) hx hb dX10_look_10 (by decide) ?_
  refine lv_istore_n (lv' := [(3, .int (-1)), (2, .int 0), (1, .int 0), (0, .ref h0)]) hx hb dX10_look_11 rfl hl (by decide) rfl (fun ls hl => ?_)
  refine lv_iconst (v := 0) hx hb dX10_look_12 (by decide) ?_
  refine lv_istore (lv' := [(4, .int 0), (3, .int (-1)), (2, .int 0), (1, .int 0), (0, .ref h0)]) hx hb dX10_look_13 hl (by decide) rfl (fun ls hl => ?_)
  refine lv_iconst (v := 0) hx hb dX10_look_15 (by decide) ?_
  refine lv_istore (lv' := [(5, .int 0), (4, .int 0), (3, .int (-1)), (2, .int 0), (1, .int 0), (0, .ref h0)]) hx hb dX10_look_16 hl (by decide) rfl (fun ls hl => ?_)
  refine lv_iload hx hb dX10_look_18 (lv_at hl 0 rfl) ?_
  refine lv_aload_n hx hb dX10_look_20 rfl (lv_at hl 5 rfl) ?_
  refine va_get (D := G) (ci := 10) (v := .ref nw) (C := RX10) (T := TX10) (N := 18) hx hb hts inX10 hown hK.1 hP 2 rfl rfl 9 (by decide) (hts (.fieldLink RX10 63 "NestQuery" "now" "LNestQuery$State;") (by decide +kernel)) (fun _ h9 => h9) rfl dX10_look_21 ?_
  refine va_getN (D := G) (ci := 6) (v := .ref nwt) (C := RX6) (T := TX6) (N := 7) hx hb hts inX6 hown hK.1 hP 0 rfl rfl 0 (by decide) (nl_13 hK) (fun _ h9 => h9) rfl dX10_look_24 ?_
  refine va_getN (D := G) (ci := 9) (v := .int 1) (C := RX9) (T := TX9) (N := 5) hx hb hts inX9 hown hK.1 hP 1 rfl rfl 4 (by decide) (nl_11 hK) (fun _ h9 => h9) rfl dX10_look_27 ?_
  refine lv_icmp_ge (tgt := 73) hx hb dX10_look_30 (by decide) (fun c_6 => absurd c_6 (by decide)) (fun _ => ?_)
  refine lv_aload_n hx hb dX10_look_33 rfl (lv_at hl 5 rfl) ?_
  refine lv_iload hx hb dX10_look_34 (lv_at hl 0 rfl) ?_
  refine lv_iload_n hx hb dX10_look_36 rfl (lv_at hl 4 rfl) ?_
  refine nq_rdi (va_runV (As := [.int 0, .int 0]) (rest := []) ⟨hx, hb, hml, hown, hts⟩ (c_foundAmong l G y H.size h0 tp ps sp tk dr pr da nw im ac ke si tx an dw (vp_updL (vp_updL (vp_updL (vp_updL (fun _ => 0) 0 0) 1 0) 2 0) 3 0) ) (cwV 2 hts gX10_look_X10_foundAmong rfl rfl rfl (by decide +kernel) ⟨Nat.le_of_ble_eq_true rfl, Nat.le_of_ble_eq_true rfl⟩) (nq_PV hK hP hD [2, 4] rfl rfl 2 rfl rfl) rfl rfl hl.1 rfl (lv_room (Nat.le_of_ble_eq_true rfl)) dX10_look_37 ⟨Nat.le_of_ble_eq_true rfl, Nat.le_of_ble_eq_true rfl⟩) hP hS hA (fun r_7 H locs hw_8 hP hS => ?_)
  subst hw_8
  refine lv_istore (lv' := [(6, .int 0), (5, .int 0), (4, .int 0), (3, .int (-1)), (2, .int 0), (1, .int 0), (0, .ref h0)]) hx hb dX10_look_40 hl (by decide) rfl (fun ls hl => ?_)
  refine lv_iload hx hb dX10_look_42 (lv_at hl 0 rfl) ?_
  refine lv_iload_n hx hb dX10_look_44 rfl (lv_at hl 4 rfl) ?_
  refine lv_iload hx hb dX10_look_45 (lv_at hl 0 rfl) ?_
  refine lv_isub hx hb dX10_look_47 ?_
  refine nq_top (z := 0) (by decide) ?_
  refine va_mmin hx hb (by rw [hml]; exact hl.1.symm) hown (hts (.methodLink RX10 358 Lib.Math.min.name) (by decide +kernel)) (hts (.static Lib.Math.min.name) (by decide +kernel)) (hts (.initialized "java/lang/Math") (by decide +kernel)) (hts (.code Lib.Math.min.name Lib.Math.min.code 2 (some .int)) (by decide +kernel)) (Nat.le_of_ble_eq_true rfl) (Nat.le_of_ble_eq_true rfl) (Nat.zero_le _) (Nat.zero_le _) dX10_look_48 ?_
  refine nq_top (z := 0) (by decide) ?_
  refine lv_istore (lv' := [(7, .int 0), (6, .int 0), (5, .int 0), (4, .int 0), (3, .int (-1)), (2, .int 0), (1, .int 0), (0, .ref h0)]) hx hb dX10_look_51 hl (by decide) rfl (fun ls hl => ?_)
  refine lv_iload hx hb dX10_look_53 (lv_at hl 0 rfl) ?_
  refine lv_iload hx hb dX10_look_55 (lv_at hl 3 rfl) ?_
  refine lv_icmp_le (tgt := 67) hx hb dX10_look_57 (by decide) (fun _ => ?_) (fun c_9 => absurd c_9 (by decide))
  refine lv_iinc (v := 1) (lv' := [(5, .int 1), (7, .int 0), (6, .int 0), (4, .int 0), (3, .int (-1)), (2, .int 0), (1, .int 0), (0, .ref h0)]) hx hb dX10_look_67 hl (k := 2) rfl (by decide) (by decide) rfl (fun ls hl => ?_)
  refine lv_goto (tgt := 18) hx hb dX10_look_70 (by decide) ?_
  refine lv_iload hx hb dX10_look_18 (lv_at hl 0 rfl) ?_
  refine lv_aload_n hx hb dX10_look_20 rfl (lv_at hl 7 rfl) ?_
  refine va_get (D := G) (ci := 10) (v := .ref nw) (C := RX10) (T := TX10) (N := 18) hx hb hts inX10 hown hK.1 hP 2 rfl rfl 9 (by decide) (hts (.fieldLink RX10 63 "NestQuery" "now" "LNestQuery$State;") (by decide +kernel)) (fun _ h9 => h9) rfl dX10_look_21 ?_
  refine va_getN (D := G) (ci := 6) (v := .ref nwt) (C := RX6) (T := TX6) (N := 7) hx hb hts inX6 hown hK.1 hP 0 rfl rfl 0 (by decide) (nl_13 hK) (fun _ h9 => h9) rfl dX10_look_24 ?_
  refine va_getN (D := G) (ci := 9) (v := .int 1) (C := RX9) (T := TX9) (N := 5) hx hb hts inX9 hown hK.1 hP 1 rfl rfl 4 (by decide) (nl_11 hK) (fun _ h9 => h9) rfl dX10_look_27 ?_
  refine lv_icmp_ge (tgt := 73) hx hb dX10_look_30 (by decide) (fun _ => ?_) (fun c_10 => absurd c_10 (by decide))
  refine lv_iload_n hx hb dX10_look_73 rfl (lv_at hl 4 rfl) ?_
  have hP9 := hP.sub (ws' := []) [] rfl
  have hD9 := hD.sub (ws' := []) [] (by decide) rfl
  refine W.widen (k := 0) (n := 0) (Nat.le_of_ble_eq_true rfl) (Nat.le_of_ble_eq_true rfl) ?_
  exact W.iret (v := (-1)) hx hb hr (fun t ht hW => ⟨⟨(-1), (), rfl, rfl, by rw [ht]; exact hP9, by first | exact hD9 | (rw [hAe]; exact hD9)⟩, hS.F ht⟩) hS.2.2 dX10_look_74

set_option maxHeartbeats 400000 in
set_option maxRecDepth 100000 in
theorem c_become (l : Launch) (G : va_G) (y : Nat → ClassId) (sz : Nat) (imt : Nat) (imtk : Nat) (imtv : Nat) (imte : Nat) (imtd : Nat) (nwt : Nat) (nwtk : Nat) (nwtv : Nat) (nwte : Nat) (nwtd : Nat) (fimtk : Nat → Int32) (fimtv : Nat → Int32) (fimte : Nat → Int32) (fimtd : Nat → Int32) (fnwtk : Nat → Int32) (fnwtv : Nat → Int32) (fnwte : Nat → Int32) (fnwtd : Nat → Int32)  : Met l yX9_become wsX9_become ({ frames := 1, cells := 0, slots := 0, locals := 60 }) (nq_P G y sz [.ref imt, .ref nwt] [(imt, .inr (9, [.ref imtk, .ref imtv, .ref imte, .ref imtd, .int 0])), (imtk, .inl (y 0, 60, .inl fimtk)), (imtv, .inl (y 0, 60, .inl fimtv)), (imte, .inl (y 0, 60, .inl fimte)), (imtd, .inl (y 0, 60, .inl fimtd)), (nwt, .inr (9, [.ref nwtk, .ref nwtv, .ref nwte, .ref nwtd, .int 1])), (nwtk, .inl (y 0, 60, .inl fnwtk)), (nwtv, .inl (y 0, 60, .inl fnwtv)), (nwte, .inl (y 0, 60, .inl fnwte)), (nwtd, .inl (y 0, 60, .inl fnwtd))]) (va_Qv (fun (_ : Unit) => True) (fun (u : Unit) t9 => va_P G vwCl ([]) t9.heap ∧ va_D (va_A [(imt, .inr (9, [.ref imtk, .ref imtv, .ref imte, .ref imtd, .int 0])), (imtk, .inl (y 0, 60, .inl fimtk)), (imtv, .inl (y 0, 60, .inl fimtv)), (imte, .inl (y 0, 60, .inl fimte)), (imtd, .inl (y 0, 60, .inl fimtd)), (nwt, .inr (9, [.ref nwtk, .ref nwtv, .ref nwte, .ref nwtd, .int 1])), (nwtk, .inl (y 0, 60, .inl fnwtk)), (nwtv, .inl (y 0, 60, .inl fnwtv)), (nwte, .inl (y 0, 60, .inl fnwte)), (nwtd, .inl (y 0, 60, .inl fnwtd))] sz) ([])) (va_A [(imt, .inr (9, [.ref imtk, .ref imtv, .ref imte, .ref imtd, .int 0])), (imtk, .inl (y 0, 60, .inl fimtk)), (imtv, .inl (y 0, 60, .inl fimtv)), (imte, .inl (y 0, 60, .inl fimte)), (imtd, .inl (y 0, 60, .inl fimtd)), (nwt, .inr (9, [.ref nwtk, .ref nwtv, .ref nwte, .ref nwtd, .int 1])), (nwtk, .inl (y 0, 60, .inl fnwtk)), (nwtv, .inl (y 0, 60, .inl fnwtv)), (nwte, .inl (y 0, 60, .inl fnwte)), (nwtd, .inl (y 0, 60, .inl fnwtd))] sz)) 0 0 (va_A [(imt, .inr (9, [.ref imtk, .ref imtv, .ref imte, .ref imtd, .int 0])), (imtk, .inl (y 0, 60, .inl fimtk)), (imtv, .inl (y 0, 60, .inl fimtv)), (imte, .inl (y 0, 60, .inl fimte)), (imtd, .inl (y 0, 60, .inl fimtd)), (nwt, .inr (9, [.ref nwtk, .ref nwtv, .ref nwte, .ref nwtd, .int 1])), (nwtk, .inl (y 0, 60, .inl fnwtk)), (nwtv, .inl (y 0, 60, .inl fnwtv)), (nwte, .inl (y 0, 60, .inl fnwte)), (nwtd, .inl (y 0, 60, .inl fnwtd))] sz) := by
  refine Met.ofW (cc := cX9_become) (maxL := 3) (ret := none) (by decide) rfl ?_
  intro p e s m args below meth c s₁ B hml hv
  obtain ⟨rfl, hsz, hP, hK, hD0⟩ := hv
  have hx := B.exec
  have hb := B.bytes
  have hr := B.returns
  have hts := atoms_spec (ws := wsX9_become) B.pre
  have hown : s.vm.findClass RX9 = some m.cls := findClass_of_methodNamed B.named
  have hlocks := B.notSynchronized
  subst hsz
  have hD := hD0.self (sz := s.heap.size)
  generalize hAe : va_A [(imt, .inr (9, [.ref imtk, .ref imtv, .ref imte, .ref imtd, .int 0])), (imtk, .inl (y 0, 60, .inl fimtk)), (imtv, .inl (y 0, 60, .inl fimtv)), (imte, .inl (y 0, 60, .inl fimte)), (imtd, .inl (y 0, 60, .inl fimtd)), (nwt, .inr (9, [.ref nwtk, .ref nwtv, .ref nwte, .ref nwtd, .int 1])), (nwtk, .inl (y 0, 60, .inl fnwtk)), (nwtv, .inl (y 0, 60, .inl fnwtv)), (nwte, .inl (y 0, 60, .inl fnwte)), (nwtd, .inl (y 0, 60, .inl fnwtd))] s.heap.size = A at hD ⊢
  have hA : ∀ q : Nat, s.heap.size ≤ q → A q := fun q h => by rw [← hAe]; exact Or.inr h
  have hS : va_S A s.heap s.heap [] := va_S.rf
  have hP : va_P G vwCl [(imt, .inr (9, [.ref imtk, .ref imtv, .ref imte, .ref imtd, .int 0])), (imtk, .inl (y 0, 60, .inl fimtk)), (imtv, .inl (y 0, 60, .inl fimtv)), (imte, .inl (y 0, 60, .inl fimte)), (imtd, .inl (y 0, 60, .inl fimtd)), (nwt, .inr (9, [.ref nwtk, .ref nwtv, .ref nwte, .ref nwtd, .int 1])), (nwtk, .inl (y 0, 60, .inl fnwtk)), (nwtv, .inl (y 0, 60, .inl fnwtv)), (nwte, .inl (y 0, 60, .inl fnwte)), (nwtd, .inl (y 0, 60, .inl fnwtd))] s.heap := hP
  have inX9 : ∀ w ∈ wsX90, w ∈ wsX9_become := by decide +kernel
  have hl := lv_entry ([.ref imt, .ref nwt]) (n := 3) (Nat.le_of_ble_eq_true rfl)
  rw [lg_entry_eq]
  generalize (lg_sl ([.ref imt, .ref nwt]) ++ List.replicate (3 - (lg_sl ([.ref imt, .ref nwt])).length) Slot.unset).toArray = ls at hl ⊢
  have hl : lv_has ls 3 [(0, .ref imt), (1, .ref nwt)] := hl
  refine lv_aload_n hx hb dX9_become_0 rfl (lv_at hl 1 rfl) ?_
  refine va_get (D := G) (ci := 9) (v := .int 1) (C := RX9) (T := TX9) (N := 5) hx hb hts inX9 hown hK.1 hP 5 rfl rfl 4 (by decide) (hts (.fieldLink RX9 24 "NestQuery$Tree" "size" "I") (by decide +kernel)) (fun _ h9 => h9) rfl dX9_become_1 ?_
  refine lv_istore_n (lv' := [(2, .int 1), (0, .ref imt), (1, .ref nwt)]) hx hb dX9_become_4 rfl hl (by decide) rfl (fun ls hl => ?_)
  refine lv_iload_n hx hb dX9_become_5 rfl (lv_at hl 0 rfl) ?_
  refine lv_if_lt (tgt := 88) hx hb dX9_become_6 (by decide) (fun c_1 => absurd c_1 (by decide)) (fun _ => ?_)
  refine lv_iload_n hx hb dX9_become_9 rfl (lv_at hl 0 rfl) ?_
  refine lv_aload_n hx hb dX9_become_10 rfl (lv_at hl 1 rfl) ?_
  refine va_get (D := G) (ci := 9) (v := .ref imtk) (C := RX9) (T := TX9) (N := 5) hx hb hts inX9 hown hK.1 hP 0 rfl rfl 0 (by decide) (hts (.fieldLink RX9 9 "NestQuery$Tree" "kinds" "[I") (by decide +kernel)) (fun _ h9 => h9) rfl dX9_become_11 ?_
  refine va_alen hx hb hK.1 hP 1 0 rfl rfl (v := 60) rfl dX9_become_14 ?_
  refine lv_icmp_gt (tgt := 88) hx hb dX9_become_15 (by decide) (fun c_2 => absurd c_2 (by decide)) (fun _ => ?_)
  refine lv_iload_n hx hb dX9_become_18 rfl (lv_at hl 0 rfl) ?_
  refine lv_aload_n hx hb dX9_become_19 rfl (lv_at hl 2 rfl) ?_
  refine va_get (D := G) (ci := 9) (v := .ref nwtk) (C := RX9) (T := TX9) (N := 5) hx hb hts inX9 hown hK.1 hP 5 rfl rfl 0 (by decide) (hts (.fieldLink RX9 9 "NestQuery$Tree" "kinds" "[I") (by decide +kernel)) (fun _ h9 => h9) rfl dX9_become_20 ?_
  refine va_alen hx hb hK.1 hP 6 0 rfl rfl (v := 60) rfl dX9_become_23 ?_
  refine lv_icmp_gt (tgt := 88) hx hb dX9_become_24 (by decide) (fun c_3 => absurd c_3 (by decide)) (fun _ => ?_)
  refine lv_aload_n hx hb dX9_become_27 rfl (lv_at hl 2 rfl) ?_
  refine va_get (D := G) (ci := 9) (v := .ref nwtk) (C := RX9) (T := TX9) (N := 5) hx hb hts inX9 hown hK.1 hP 5 rfl rfl 0 (by decide) (hts (.fieldLink RX9 9 "NestQuery$Tree" "kinds" "[I") (by decide +kernel)) (fun _ h9 => h9) rfl dX9_become_28 ?_
  refine lv_iconst (v := 0) hx hb dX9_become_31 (by decide) ?_
  refine lv_aload_n hx hb dX9_become_32 rfl (lv_at hl 1 rfl) ?_
  refine va_get (D := G) (ci := 9) (v := .ref imtk) (C := RX9) (T := TX9) (N := 5) hx hb hts inX9 hown hK.1 hP 0 rfl rfl 0 (by decide) (hts (.fieldLink RX9 9 "NestQuery$Tree" "kinds" "[I") (by decide +kernel)) (fun _ h9 => h9) rfl dX9_become_33 ?_
  refine lv_iconst (v := 0) hx hb dX9_become_36 (by decide) ?_
  refine lv_iload_n hx hb dX9_become_37 rfl (lv_at hl 0 rfl) ?_
  refine va_copyi hx hb (by rw [hml]; exact hl.1.symm) hown (hts (.methodLink RX9 60 arraycopyName) (by decide +kernel)) (hts (.native arraycopyName) (by decide +kernel)) (hts (.static arraycopyName) (by decide +kernel)) (hts (.initialized "java/lang/System") (by decide +kernel)) hK.1 hP hD hS 6 1 0 0 rfl rfl rfl rfl rfl (sp := 0) (dp := 0) (n := 1) (by decide) (by decide) (by decide) (by decide) (by decide) (fun _ _ => rfl) (Nat.le_of_ble_eq_true rfl) (Nat.le_of_ble_eq_true rfl) dX9_become_38 (fun H locs hP hD hS => ?_)
  have hP : va_P G vwCl [(imt, .inr (9, [.ref imtk, .ref imtv, .ref imte, .ref imtd, .int 0])), (imtk, .inl (y 0, 60, .inl (va_cpy fnwtk fimtk 0 0 1))), (imtv, .inl (y 0, 60, .inl fimtv)), (imte, .inl (y 0, 60, .inl fimte)), (imtd, .inl (y 0, 60, .inl fimtd)), (nwt, .inr (9, [.ref nwtk, .ref nwtv, .ref nwte, .ref nwtd, .int 1])), (nwtk, .inl (y 0, 60, .inl fnwtk)), (nwtv, .inl (y 0, 60, .inl fnwtv)), (nwte, .inl (y 0, 60, .inl fnwte)), (nwtd, .inl (y 0, 60, .inl fnwtd))] H := hP
  have hD : va_D A [(imt, .inr (9, [.ref imtk, .ref imtv, .ref imte, .ref imtd, .int 0])), (imtk, .inl (y 0, 60, .inl (va_cpy fnwtk fimtk 0 0 1))), (imtv, .inl (y 0, 60, .inl fimtv)), (imte, .inl (y 0, 60, .inl fimte)), (imtd, .inl (y 0, 60, .inl fimtd)), (nwt, .inr (9, [.ref nwtk, .ref nwtv, .ref nwte, .ref nwtd, .int 1])), (nwtk, .inl (y 0, 60, .inl fnwtk)), (nwtv, .inl (y 0, 60, .inl fnwtv)), (nwte, .inl (y 0, 60, .inl fnwte)), (nwtd, .inl (y 0, 60, .inl fnwtd))] := hD
  refine lv_aload_n hx hb dX9_become_41 rfl (lv_at hl 2 rfl) ?_
  refine va_get (D := G) (ci := 9) (v := .ref nwtv) (C := RX9) (T := TX9) (N := 5) hx hb hts inX9 hown hK.1 hP 5 rfl rfl 1 (by decide) (hts (.fieldLink RX9 15 "NestQuery$Tree" "values" "[I") (by decide +kernel)) (fun _ h9 => h9) rfl dX9_become_42 ?_
  refine lv_iconst (v := 0) hx hb dX9_become_45 (by decide) ?_
  refine lv_aload_n hx hb dX9_become_46 rfl (lv_at hl 1 rfl) ?_
  refine va_get (D := G) (ci := 9) (v := .ref imtv) (C := RX9) (T := TX9) (N := 5) hx hb hts inX9 hown hK.1 hP 0 rfl rfl 1 (by decide) (hts (.fieldLink RX9 15 "NestQuery$Tree" "values" "[I") (by decide +kernel)) (fun _ h9 => h9) rfl dX9_become_47 ?_
  refine lv_iconst (v := 0) hx hb dX9_become_50 (by decide) ?_
  refine lv_iload_n hx hb dX9_become_51 rfl (lv_at hl 0 rfl) ?_
  refine va_copyi hx hb (by rw [hml]; exact hl.1.symm) hown (hts (.methodLink RX9 60 arraycopyName) (by decide +kernel)) (hts (.native arraycopyName) (by decide +kernel)) (hts (.static arraycopyName) (by decide +kernel)) (hts (.initialized "java/lang/System") (by decide +kernel)) hK.1 hP hD hS 7 2 0 0 rfl rfl rfl rfl rfl (sp := 0) (dp := 0) (n := 1) (by decide) (by decide) (by decide) (by decide) (by decide) (fun _ _ => rfl) (Nat.le_of_ble_eq_true rfl) (Nat.le_of_ble_eq_true rfl) dX9_become_52 (fun H locs hP hD hS => ?_)
  have hP : va_P G vwCl [(imt, .inr (9, [.ref imtk, .ref imtv, .ref imte, .ref imtd, .int 0])), (imtk, .inl (y 0, 60, .inl (va_cpy fnwtk fimtk 0 0 1))), (imtv, .inl (y 0, 60, .inl (va_cpy fnwtv fimtv 0 0 1))), (imte, .inl (y 0, 60, .inl fimte)), (imtd, .inl (y 0, 60, .inl fimtd)), (nwt, .inr (9, [.ref nwtk, .ref nwtv, .ref nwte, .ref nwtd, .int 1])), (nwtk, .inl (y 0, 60, .inl fnwtk)), (nwtv, .inl (y 0, 60, .inl fnwtv)), (nwte, .inl (y 0, 60, .inl fnwte)), (nwtd, .inl (y 0, 60, .inl fnwtd))] H := hP
  have hD : va_D A [(imt, .inr (9, [.ref imtk, .ref imtv, .ref imte, .ref imtd, .int 0])), (imtk, .inl (y 0, 60, .inl (va_cpy fnwtk fimtk 0 0 1))), (imtv, .inl (y 0, 60, .inl (va_cpy fnwtv fimtv 0 0 1))), (imte, .inl (y 0, 60, .inl fimte)), (imtd, .inl (y 0, 60, .inl fimtd)), (nwt, .inr (9, [.ref nwtk, .ref nwtv, .ref nwte, .ref nwtd, .int 1])), (nwtk, .inl (y 0, 60, .inl fnwtk)), (nwtv, .inl (y 0, 60, .inl fnwtv)), (nwte, .inl (y 0, 60, .inl fnwte)), (nwtd, .inl (y 0, 60, .inl fnwtd))] := hD
  refine lv_aload_n hx hb dX9_become_55 rfl (lv_at hl 2 rfl) ?_
  refine va_get (D := G) (ci := 9) (v := .ref nwte) (C := RX9) (T := TX9) (N := 5) hx hb hts inX9 hown hK.1 hP 5 rfl rfl 2 (by decide) (hts (.fieldLink RX9 18 "NestQuery$Tree" "keys" "[I") (by decide +kernel)) (fun _ h9 => h9) rfl dX9_become_56 ?_
  refine lv_iconst (v := 0) hx hb dX9_become_59 (by decide) ?_
  refine lv_aload_n hx hb dX9_become_60 rfl (lv_at hl 1 rfl) ?_
  refine va_get (D := G) (ci := 9) (v := .ref imte) (C := RX9) (T := TX9) (N := 5) hx hb hts inX9 hown hK.1 hP 0 rfl rfl 2 (by decide) (hts (.fieldLink RX9 18 "NestQuery$Tree" "keys" "[I") (by decide +kernel)) (fun _ h9 => h9) rfl dX9_become_61 ?_
  refine lv_iconst (v := 0) hx hb dX9_become_64 (by decide) ?_
  refine lv_iload_n hx hb dX9_become_65 rfl (lv_at hl 0 rfl) ?_
  refine va_copyi hx hb (by rw [hml]; exact hl.1.symm) hown (hts (.methodLink RX9 60 arraycopyName) (by decide +kernel)) (hts (.native arraycopyName) (by decide +kernel)) (hts (.static arraycopyName) (by decide +kernel)) (hts (.initialized "java/lang/System") (by decide +kernel)) hK.1 hP hD hS 8 3 0 0 rfl rfl rfl rfl rfl (sp := 0) (dp := 0) (n := 1) (by decide) (by decide) (by decide) (by decide) (by decide) (fun _ _ => rfl) (Nat.le_of_ble_eq_true rfl) (Nat.le_of_ble_eq_true rfl) dX9_become_66 (fun H locs hP hD hS => ?_)
  have hP : va_P G vwCl [(imt, .inr (9, [.ref imtk, .ref imtv, .ref imte, .ref imtd, .int 0])), (imtk, .inl (y 0, 60, .inl (va_cpy fnwtk fimtk 0 0 1))), (imtv, .inl (y 0, 60, .inl (va_cpy fnwtv fimtv 0 0 1))), (imte, .inl (y 0, 60, .inl (va_cpy fnwte fimte 0 0 1))), (imtd, .inl (y 0, 60, .inl fimtd)), (nwt, .inr (9, [.ref nwtk, .ref nwtv, .ref nwte, .ref nwtd, .int 1])), (nwtk, .inl (y 0, 60, .inl fnwtk)), (nwtv, .inl (y 0, 60, .inl fnwtv)), (nwte, .inl (y 0, 60, .inl fnwte)), (nwtd, .inl (y 0, 60, .inl fnwtd))] H := hP
  have hD : va_D A [(imt, .inr (9, [.ref imtk, .ref imtv, .ref imte, .ref imtd, .int 0])), (imtk, .inl (y 0, 60, .inl (va_cpy fnwtk fimtk 0 0 1))), (imtv, .inl (y 0, 60, .inl (va_cpy fnwtv fimtv 0 0 1))), (imte, .inl (y 0, 60, .inl (va_cpy fnwte fimte 0 0 1))), (imtd, .inl (y 0, 60, .inl fimtd)), (nwt, .inr (9, [.ref nwtk, .ref nwtv, .ref nwte, .ref nwtd, .int 1])), (nwtk, .inl (y 0, 60, .inl fnwtk)), (nwtv, .inl (y 0, 60, .inl fnwtv)), (nwte, .inl (y 0, 60, .inl fnwte)), (nwtd, .inl (y 0, 60, .inl fnwtd))] := hD
  refine lv_aload_n hx hb dX9_become_69 rfl (lv_at hl 2 rfl) ?_
  refine va_get (D := G) (ci := 9) (v := .ref nwtd) (C := RX9) (T := TX9) (N := 5) hx hb hts inX9 hown hK.1 hP 5 rfl rfl 3 (by decide) (hts (.fieldLink RX9 21 "NestQuery$Tree" "depths" "[I") (by decide +kernel)) (fun _ h9 => h9) rfl dX9_become_70 ?_
  refine lv_iconst (v := 0) hx hb dX9_become_73 (by decide) ?_
  refine lv_aload_n hx hb dX9_become_74 rfl (lv_at hl 1 rfl) ?_
  refine va_get (D := G) (ci := 9) (v := .ref imtd) (C := RX9) (T := TX9) (N := 5) hx hb hts inX9 hown hK.1 hP 0 rfl rfl 3 (by decide) (hts (.fieldLink RX9 21 "NestQuery$Tree" "depths" "[I") (by decide +kernel)) (fun _ h9 => h9) rfl dX9_become_75 ?_
  refine lv_iconst (v := 0) hx hb dX9_become_78 (by decide) ?_
  refine lv_iload_n hx hb dX9_become_79 rfl (lv_at hl 0 rfl) ?_
  refine va_copyi hx hb (by rw [hml]; exact hl.1.symm) hown (hts (.methodLink RX9 60 arraycopyName) (by decide +kernel)) (hts (.native arraycopyName) (by decide +kernel)) (hts (.static arraycopyName) (by decide +kernel)) (hts (.initialized "java/lang/System") (by decide +kernel)) hK.1 hP hD hS 9 4 0 0 rfl rfl rfl rfl rfl (sp := 0) (dp := 0) (n := 1) (by decide) (by decide) (by decide) (by decide) (by decide) (fun _ _ => rfl) (Nat.le_of_ble_eq_true rfl) (Nat.le_of_ble_eq_true rfl) dX9_become_80 (fun H locs hP hD hS => ?_)
  have hP : va_P G vwCl [(imt, .inr (9, [.ref imtk, .ref imtv, .ref imte, .ref imtd, .int 0])), (imtk, .inl (y 0, 60, .inl (va_cpy fnwtk fimtk 0 0 1))), (imtv, .inl (y 0, 60, .inl (va_cpy fnwtv fimtv 0 0 1))), (imte, .inl (y 0, 60, .inl (va_cpy fnwte fimte 0 0 1))), (imtd, .inl (y 0, 60, .inl (va_cpy fnwtd fimtd 0 0 1))), (nwt, .inr (9, [.ref nwtk, .ref nwtv, .ref nwte, .ref nwtd, .int 1])), (nwtk, .inl (y 0, 60, .inl fnwtk)), (nwtv, .inl (y 0, 60, .inl fnwtv)), (nwte, .inl (y 0, 60, .inl fnwte)), (nwtd, .inl (y 0, 60, .inl fnwtd))] H := hP
  have hD : va_D A [(imt, .inr (9, [.ref imtk, .ref imtv, .ref imte, .ref imtd, .int 0])), (imtk, .inl (y 0, 60, .inl (va_cpy fnwtk fimtk 0 0 1))), (imtv, .inl (y 0, 60, .inl (va_cpy fnwtv fimtv 0 0 1))), (imte, .inl (y 0, 60, .inl (va_cpy fnwte fimte 0 0 1))), (imtd, .inl (y 0, 60, .inl (va_cpy fnwtd fimtd 0 0 1))), (nwt, .inr (9, [.ref nwtk, .ref nwtv, .ref nwte, .ref nwtd, .int 1])), (nwtk, .inl (y 0, 60, .inl fnwtk)), (nwtv, .inl (y 0, 60, .inl fnwtv)), (nwte, .inl (y 0, 60, .inl fnwte)), (nwtd, .inl (y 0, 60, .inl fnwtd))] := hD
  refine lv_aload_n hx hb dX9_become_83 rfl (lv_at hl 1 rfl) ?_
  refine lv_iload_n hx hb dX9_become_84 rfl (lv_at hl 0 rfl) ?_
  refine va_put (D := G) (ci := 9) (v := .int 1) (ty := .int) (C := RX9) (T := TX9) (N := 5) hx hb hts inX9 tyX9 tyX9_ok nmX9 hown hK.1 hP hD hS 0 rfl rfl 4 (by decide) (hts (.fieldLink RX9 24 "NestQuery$Tree" "size" "I") (by decide +kernel)) (fun _ h9 => h9) rfl (by decide +kernel) rfl rfl (Nat.le_of_ble_eq_true rfl) dX9_become_85 (fun H locs hP hD hS => ?_)
  have hP : va_P G vwCl [(imt, .inr (9, [.ref imtk, .ref imtv, .ref imte, .ref imtd, .int 1])), (imtk, .inl (y 0, 60, .inl (va_cpy fnwtk fimtk 0 0 1))), (imtv, .inl (y 0, 60, .inl (va_cpy fnwtv fimtv 0 0 1))), (imte, .inl (y 0, 60, .inl (va_cpy fnwte fimte 0 0 1))), (imtd, .inl (y 0, 60, .inl (va_cpy fnwtd fimtd 0 0 1))), (nwt, .inr (9, [.ref nwtk, .ref nwtv, .ref nwte, .ref nwtd, .int 1])), (nwtk, .inl (y 0, 60, .inl fnwtk)), (nwtv, .inl (y 0, 60, .inl fnwtv)), (nwte, .inl (y 0, 60, .inl fnwte)), (nwtd, .inl (y 0, 60, .inl fnwtd))] H := hP
  have hD : va_D A [(imt, .inr (9, [.ref imtk, .ref imtv, .ref imte, .ref imtd, .int 1])), (imtk, .inl (y 0, 60, .inl (va_cpy fnwtk fimtk 0 0 1))), (imtv, .inl (y 0, 60, .inl (va_cpy fnwtv fimtv 0 0 1))), (imte, .inl (y 0, 60, .inl (va_cpy fnwte fimte 0 0 1))), (imtd, .inl (y 0, 60, .inl (va_cpy fnwtd fimtd 0 0 1))), (nwt, .inr (9, [.ref nwtk, .ref nwtv, .ref nwte, .ref nwtd, .int 1])), (nwtk, .inl (y 0, 60, .inl fnwtk)), (nwtv, .inl (y 0, 60, .inl fnwtv)), (nwte, .inl (y 0, 60, .inl fnwte)), (nwtd, .inl (y 0, 60, .inl fnwtd))] := hD
  have hP9 := hP.sub (ws' := []) [] rfl
  have hD9 := hD.sub (ws' := []) [] (by decide) rfl
  refine W.widen (k := 0) (n := 0) (Nat.le_of_ble_eq_true rfl) (Nat.le_of_ble_eq_true rfl) ?_
  exact W.vret hx hb hr (fun t ht hW => ⟨⟨(), rfl, trivial, by rw [ht]; exact hP9, by first | exact hD9 | (rw [hAe]; exact hD9)⟩, hS.F ht⟩) hS.2.2 dX9_become_88

set_option maxHeartbeats 400000 in
set_option maxRecDepth 100000 in
theorem c_takeAll (l : Launch) (G : va_G) (y : Nat → ClassId) (sz : Nat) (im : Nat) (imt : Nat) (imb : Nat) (imn : Nat) (imi : Nat) (imr : Nat) (imtk : Nat) (imtv : Nat) (imte : Nat) (imtd : Nat) (nw : Nat) (nwt : Nat) (nwb : Nat) (nwn : Nat) (nwi : Nat) (nwr : Nat) (nwtk : Nat) (nwtv : Nat) (nwte : Nat) (nwtd : Nat)  : Met l yX6_takeAll wsX6_takeAll ({ frames := 2, cells := 0, slots := 0, locals := 82 }) (nq_P G y sz [.ref im, .ref nw] [(im, .inr (6, [.ref imt, .ref imb, .int 0, .ref imn, .ref imi, .int 0, .ref imr])), (imt, .inr (9, [.ref imtk, .ref imtv, .ref imte, .ref imtd, .int 0])), (imtk, .inl (y 0, 60, .inl (fun _ => 0))), (imtv, .inl (y 0, 60, .inl (fun _ => 0))), (imte, .inl (y 0, 60, .inl (fun _ => 0))), (imtd, .inl (y 0, 60, .inl (fun _ => 0))), (imn, .inl (y 0, 8, .inl (fun _ => 0))), (imi, .inl (y 2, 8, .inl (fun _ => 0))), (imr, .inl (y 0, 3, .inl (fun _ => 0))), (nw, .inr (6, [.ref nwt, .ref nwb, .int 0, .ref nwn, .ref nwi, .int 0, .ref nwr])), (nwt, .inr (9, [.ref nwtk, .ref nwtv, .ref nwte, .ref nwtd, .int 1])), (nwtk, .inl (y 0, 60, .inl (upd (fun _ => 0) 0 3))), (nwtv, .inl (y 0, 60, .inl (upd (fun _ => 0) 0 0))), (nwte, .inl (y 0, 60, .inl (upd (fun _ => 0) 0 0))), (nwtd, .inl (y 0, 60, .inl (upd (fun _ => 0) 0 0))), (nwn, .inl (y 0, 8, .inl (fun _ => 0))), (nwi, .inl (y 2, 8, .inl (fun _ => 0))), (nwr, .inl (y 0, 3, .inl (fun _ => 0)))]) (va_Qv (fun (_ : Unit) => True) (fun (u : Unit) t9 => va_P G vwCl ([]) t9.heap ∧ va_D (va_A [(im, .inr (6, [.ref imt, .ref imb, .int 0, .ref imn, .ref imi, .int 0, .ref imr])), (imt, .inr (9, [.ref imtk, .ref imtv, .ref imte, .ref imtd, .int 0])), (imtk, .inl (y 0, 60, .inl (fun _ => 0))), (imtv, .inl (y 0, 60, .inl (fun _ => 0))), (imte, .inl (y 0, 60, .inl (fun _ => 0))), (imtd, .inl (y 0, 60, .inl (fun _ => 0))), (imn, .inl (y 0, 8, .inl (fun _ => 0))), (imi, .inl (y 2, 8, .inl (fun _ => 0))), (imr, .inl (y 0, 3, .inl (fun _ => 0))), (nw, .inr (6, [.ref nwt, .ref nwb, .int 0, .ref nwn, .ref nwi, .int 0, .ref nwr])), (nwt, .inr (9, [.ref nwtk, .ref nwtv, .ref nwte, .ref nwtd, .int 1])), (nwtk, .inl (y 0, 60, .inl (upd (fun _ => 0) 0 3))), (nwtv, .inl (y 0, 60, .inl (upd (fun _ => 0) 0 0))), (nwte, .inl (y 0, 60, .inl (upd (fun _ => 0) 0 0))), (nwtd, .inl (y 0, 60, .inl (upd (fun _ => 0) 0 0))), (nwn, .inl (y 0, 8, .inl (fun _ => 0))), (nwi, .inl (y 2, 8, .inl (fun _ => 0))), (nwr, .inl (y 0, 3, .inl (fun _ => 0)))] sz) ([])) (va_A [(im, .inr (6, [.ref imt, .ref imb, .int 0, .ref imn, .ref imi, .int 0, .ref imr])), (imt, .inr (9, [.ref imtk, .ref imtv, .ref imte, .ref imtd, .int 0])), (imtk, .inl (y 0, 60, .inl (fun _ => 0))), (imtv, .inl (y 0, 60, .inl (fun _ => 0))), (imte, .inl (y 0, 60, .inl (fun _ => 0))), (imtd, .inl (y 0, 60, .inl (fun _ => 0))), (imn, .inl (y 0, 8, .inl (fun _ => 0))), (imi, .inl (y 2, 8, .inl (fun _ => 0))), (imr, .inl (y 0, 3, .inl (fun _ => 0))), (nw, .inr (6, [.ref nwt, .ref nwb, .int 0, .ref nwn, .ref nwi, .int 0, .ref nwr])), (nwt, .inr (9, [.ref nwtk, .ref nwtv, .ref nwte, .ref nwtd, .int 1])), (nwtk, .inl (y 0, 60, .inl (upd (fun _ => 0) 0 3))), (nwtv, .inl (y 0, 60, .inl (upd (fun _ => 0) 0 0))), (nwte, .inl (y 0, 60, .inl (upd (fun _ => 0) 0 0))), (nwtd, .inl (y 0, 60, .inl (upd (fun _ => 0) 0 0))), (nwn, .inl (y 0, 8, .inl (fun _ => 0))), (nwi, .inl (y 2, 8, .inl (fun _ => 0))), (nwr, .inl (y 0, 3, .inl (fun _ => 0)))] sz)) 0 0 (va_A [(im, .inr (6, [.ref imt, .ref imb, .int 0, .ref imn, .ref imi, .int 0, .ref imr])), (imt, .inr (9, [.ref imtk, .ref imtv, .ref imte, .ref imtd, .int 0])), (imtk, .inl (y 0, 60, .inl (fun _ => 0))), (imtv, .inl (y 0, 60, .inl (fun _ => 0))), (imte, .inl (y 0, 60, .inl (fun _ => 0))), (imtd, .inl (y 0, 60, .inl (fun _ => 0))), (imn, .inl (y 0, 8, .inl (fun _ => 0))), (imi, .inl (y 2, 8, .inl (fun _ => 0))), (imr, .inl (y 0, 3, .inl (fun _ => 0))), (nw, .inr (6, [.ref nwt, .ref nwb, .int 0, .ref nwn, .ref nwi, .int 0, .ref nwr])), (nwt, .inr (9, [.ref nwtk, .ref nwtv, .ref nwte, .ref nwtd, .int 1])), (nwtk, .inl (y 0, 60, .inl (upd (fun _ => 0) 0 3))), (nwtv, .inl (y 0, 60, .inl (upd (fun _ => 0) 0 0))), (nwte, .inl (y 0, 60, .inl (upd (fun _ => 0) 0 0))), (nwtd, .inl (y 0, 60, .inl (upd (fun _ => 0) 0 0))), (nwn, .inl (y 0, 8, .inl (fun _ => 0))), (nwi, .inl (y 2, 8, .inl (fun _ => 0))), (nwr, .inl (y 0, 3, .inl (fun _ => 0)))] sz) := by
  refine Met.ofW (cc := cX6_takeAll) (maxL := 3) (ret := none) (by decide) rfl ?_
  intro p e s m args below meth c s₁ B hml hv
  obtain ⟨rfl, hsz, hP, hK, hD0⟩ := hv
  have hx := B.exec
  have hb := B.bytes
  have hr := B.returns
  have hts := atoms_spec (ws := wsX6_takeAll) B.pre
  have hown : s.vm.findClass RX6 = some m.cls := findClass_of_methodNamed B.named
  have hlocks := B.notSynchronized
  subst hsz
  have hD := hD0.self (sz := s.heap.size)
  generalize hAe : va_A [(im, .inr (6, [.ref imt, .ref imb, .int 0, .ref imn, .ref imi, .int 0, .ref imr])), (imt, .inr (9, [.ref imtk, .ref imtv, .ref imte, .ref imtd, .int 0])), (imtk, .inl (y 0, 60, .inl (fun _ => 0))), (imtv, .inl (y 0, 60, .inl (fun _ => 0))), (imte, .inl (y 0, 60, .inl (fun _ => 0))), (imtd, .inl (y 0, 60, .inl (fun _ => 0))), (imn, .inl (y 0, 8, .inl (fun _ => 0))), (imi, .inl (y 2, 8, .inl (fun _ => 0))), (imr, .inl (y 0, 3, .inl (fun _ => 0))), (nw, .inr (6, [.ref nwt, .ref nwb, .int 0, .ref nwn, .ref nwi, .int 0, .ref nwr])), (nwt, .inr (9, [.ref nwtk, .ref nwtv, .ref nwte, .ref nwtd, .int 1])), (nwtk, .inl (y 0, 60, .inl (upd (fun _ => 0) 0 3))), (nwtv, .inl (y 0, 60, .inl (upd (fun _ => 0) 0 0))), (nwte, .inl (y 0, 60, .inl (upd (fun _ => 0) 0 0))), (nwtd, .inl (y 0, 60, .inl (upd (fun _ => 0) 0 0))), (nwn, .inl (y 0, 8, .inl (fun _ => 0))), (nwi, .inl (y 2, 8, .inl (fun _ => 0))), (nwr, .inl (y 0, 3, .inl (fun _ => 0)))] s.heap.size = A at hD ⊢
  have hA : ∀ q : Nat, s.heap.size ≤ q → A q := fun q h => by rw [← hAe]; exact Or.inr h
  have hS : va_S A s.heap s.heap [] := va_S.rf
  have hP : va_P G vwCl [(im, .inr (6, [.ref imt, .ref imb, .int 0, .ref imn, .ref imi, .int 0, .ref imr])), (imt, .inr (9, [.ref imtk, .ref imtv, .ref imte, .ref imtd, .int 0])), (imtk, .inl (y 0, 60, .inl (fun _ => 0))), (imtv, .inl (y 0, 60, .inl (fun _ => 0))), (imte, .inl (y 0, 60, .inl (fun _ => 0))), (imtd, .inl (y 0, 60, .inl (fun _ => 0))), (imn, .inl (y 0, 8, .inl (fun _ => 0))), (imi, .inl (y 2, 8, .inl (fun _ => 0))), (imr, .inl (y 0, 3, .inl (fun _ => 0))), (nw, .inr (6, [.ref nwt, .ref nwb, .int 0, .ref nwn, .ref nwi, .int 0, .ref nwr])), (nwt, .inr (9, [.ref nwtk, .ref nwtv, .ref nwte, .ref nwtd, .int 1])), (nwtk, .inl (y 0, 60, .inl (upd (fun _ => 0) 0 3))), (nwtv, .inl (y 0, 60, .inl (upd (fun _ => 0) 0 0))), (nwte, .inl (y 0, 60, .inl (upd (fun _ => 0) 0 0))), (nwtd, .inl (y 0, 60, .inl (upd (fun _ => 0) 0 0))), (nwn, .inl (y 0, 8, .inl (fun _ => 0))), (nwi, .inl (y 2, 8, .inl (fun _ => 0))), (nwr, .inl (y 0, 3, .inl (fun _ => 0)))] s.heap := hP
  have inX6 : ∀ w ∈ wsX60, w ∈ wsX6_takeAll := by decide +kernel
  have hl := lv_entry ([.ref im, .ref nw]) (n := 3) (Nat.le_of_ble_eq_true rfl)
  rw [lg_entry_eq]
  generalize (lg_sl ([.ref im, .ref nw]) ++ List.replicate (3 - (lg_sl ([.ref im, .ref nw])).length) Slot.unset).toArray = ls at hl ⊢
  have hl : lv_has ls 3 [(0, .ref im), (1, .ref nw)] := hl
  refine lv_aload_n hx hb dX6_takeAll_0 rfl (lv_at hl 0 rfl) ?_
  refine va_get (D := G) (ci := 6) (v := .ref imt) (C := RX6) (T := TX6) (N := 7) hx hb hts inX6 hown hK.1 hP 0 rfl rfl 0 (by decide) (hts (.fieldLink RX6 14 "NestQuery$State" "tree" "LNestQuery$Tree;") (by decide +kernel)) (fun _ h9 => h9) rfl dX6_takeAll_1 ?_
  refine lv_aload_n hx hb dX6_takeAll_4 rfl (lv_at hl 1 rfl) ?_
  refine va_get (D := G) (ci := 6) (v := .ref nwt) (C := RX6) (T := TX6) (N := 7) hx hb hts inX6 hown hK.1 hP 9 rfl rfl 0 (by decide) (hts (.fieldLink RX6 14 "NestQuery$State" "tree" "LNestQuery$Tree;") (by decide +kernel)) (fun _ h9 => h9) rfl dX6_takeAll_5 ?_
  refine nq_wrv (wr := [(im, .inr (6, [.ref imt, .ref imb, .int 0, .ref imn, .ref imi, .int 0, .ref imr])), (imn, .inl (y 0, 8, .inl (fun _ => 0))), (imi, .inl (y 2, 8, .inl (fun _ => 0))), (imr, .inl (y 0, 3, .inl (fun _ => 0))), (nw, .inr (6, [.ref nwt, .ref nwb, .int 0, .ref nwn, .ref nwi, .int 0, .ref nwr])), (nwn, .inl (y 0, 8, .inl (fun _ => 0))), (nwi, .inl (y 2, 8, .inl (fun _ => 0))), (nwr, .inl (y 0, 3, .inl (fun _ => 0)))]) (va_runV (As := [.ref nwt]) (rest := []) ⟨hx, hb, hml, hown, hts⟩ (c_become l G y s.heap.size imt imtk imtv imte imtd nwt nwtk nwtv nwte nwtd (fun _ => 0) (fun _ => 0) (fun _ => 0) (fun _ => 0) (upd (fun _ => 0) 0 3) (upd (fun _ => 0) 0 0) (upd (fun _ => 0) 0 0) (upd (fun _ => 0) 0 0) ) (cwV 1 hts gX6_takeAll_X9_become rfl rfl rfl (by decide +kernel) ⟨Nat.le_of_ble_eq_true rfl, Nat.le_of_ble_eq_true rfl⟩) (nq_PV hK hP hD [1, 2, 3, 4, 5, 10, 11, 12, 13, 14] rfl rfl 1 rfl rfl) rfl rfl hl.1 rfl (lv_room (Nat.le_of_ble_eq_true rfl)) dX6_takeAll_8 ⟨Nat.le_of_ble_eq_true rfl, Nat.le_of_ble_eq_true rfl⟩) hP hD hS hA [1, 2, 3, 4, 5, 10, 11, 12, 13, 14] [0, 6, 7, 8, 9, 15, 16, 17] rfl rfl (by decide) (by decide) (fun u_1 H locs hw_2 hP hD hS => ?_)
  have hP : va_P G vwCl [(im, .inr (6, [.ref imt, .ref imb, .int 0, .ref imn, .ref imi, .int 0, .ref imr])), (imn, .inl (y 0, 8, .inl (fun _ => 0))), (imi, .inl (y 2, 8, .inl (fun _ => 0))), (imr, .inl (y 0, 3, .inl (fun _ => 0))), (nw, .inr (6, [.ref nwt, .ref nwb, .int 0, .ref nwn, .ref nwi, .int 0, .ref nwr])), (nwn, .inl (y 0, 8, .inl (fun _ => 0))), (nwi, .inl (y 2, 8, .inl (fun _ => 0))), (nwr, .inl (y 0, 3, .inl (fun _ => 0)))] H := hP
  have hD : va_D A [(im, .inr (6, [.ref imt, .ref imb, .int 0, .ref imn, .ref imi, .int 0, .ref imr])), (imn, .inl (y 0, 8, .inl (fun _ => 0))), (imi, .inl (y 2, 8, .inl (fun _ => 0))), (imr, .inl (y 0, 3, .inl (fun _ => 0))), (nw, .inr (6, [.ref nwt, .ref nwb, .int 0, .ref nwn, .ref nwi, .int 0, .ref nwr])), (nwn, .inl (y 0, 8, .inl (fun _ => 0))), (nwi, .inl (y 2, 8, .inl (fun _ => 0))), (nwr, .inl (y 0, 3, .inl (fun _ => 0)))] := hD
  refine lv_aload_n hx hb dX6_takeAll_11 rfl (lv_at hl 0 rfl) ?_
  refine lv_aload_n hx hb dX6_takeAll_12 rfl (lv_at hl 1 rfl) ?_
  refine va_get (D := G) (ci := 6) (v := .int 0) (C := RX6) (T := TX6) (N := 7) hx hb hts inX6 hown hK.1 hP 4 rfl rfl 2 (by decide) (hts (.fieldLink RX6 35 "NestQuery$State" "actCount" "I") (by decide +kernel)) (fun _ h9 => h9) rfl dX6_takeAll_13 ?_
  refine va_put (D := G) (ci := 6) (v := .int 0) (ty := .int) (C := RX6) (T := TX6) (N := 7) hx hb hts inX6 tyX6 tyX6_ok nmX6 hown hK.1 hP hD hS 0 rfl rfl 2 (by decide) (hts (.fieldLink RX6 35 "NestQuery$State" "actCount" "I") (by decide +kernel)) (fun _ h9 => h9) rfl (by decide +kernel) rfl rfl (Nat.le_of_ble_eq_true rfl) dX6_takeAll_16 (fun H locs hP hD hS => ?_)
  have hP : va_P G vwCl [(im, .inr (6, [.ref imt, .ref imb, .int 0, .ref imn, .ref imi, .int 0, .ref imr])), (imn, .inl (y 0, 8, .inl (fun _ => 0))), (imi, .inl (y 2, 8, .inl (fun _ => 0))), (imr, .inl (y 0, 3, .inl (fun _ => 0))), (nw, .inr (6, [.ref nwt, .ref nwb, .int 0, .ref nwn, .ref nwi, .int 0, .ref nwr])), (nwn, .inl (y 0, 8, .inl (fun _ => 0))), (nwi, .inl (y 2, 8, .inl (fun _ => 0))), (nwr, .inl (y 0, 3, .inl (fun _ => 0)))] H := hP
  have hD : va_D A [(im, .inr (6, [.ref imt, .ref imb, .int 0, .ref imn, .ref imi, .int 0, .ref imr])), (imn, .inl (y 0, 8, .inl (fun _ => 0))), (imi, .inl (y 2, 8, .inl (fun _ => 0))), (imr, .inl (y 0, 3, .inl (fun _ => 0))), (nw, .inr (6, [.ref nwt, .ref nwb, .int 0, .ref nwn, .ref nwi, .int 0, .ref nwr])), (nwn, .inl (y 0, 8, .inl (fun _ => 0))), (nwi, .inl (y 2, 8, .inl (fun _ => 0))), (nwr, .inl (y 0, 3, .inl (fun _ => 0)))] := hD
  refine lv_iconst (v := 0) hx hb dX6_takeAll_19 (by decide) ?_
  refine lv_istore_n (lv' := [(2, .int 0), (0, .ref im), (1, .ref nw)]) hx hb dX6_takeAll_20 rfl hl (by decide) rfl (fun ls hl => ?_)
  refine lv_iload_n hx hb dX6_takeAll_21 rfl (lv_at hl 0 rfl) ?_
  refine lv_aload_n hx hb dX6_takeAll_22 rfl (lv_at hl 1 rfl) ?_
  refine va_get (D := G) (ci := 6) (v := .int 0) (C := RX6) (T := TX6) (N := 7) hx hb hts inX6 hown hK.1 hP 0 rfl rfl 2 (by decide) (hts (.fieldLink RX6 35 "NestQuery$State" "actCount" "I") (by decide +kernel)) (fun _ h9 => h9) rfl dX6_takeAll_23 ?_
  refine lv_icmp_ge (tgt := 52) hx hb dX6_takeAll_26 (by decide) (fun _ => ?_) (fun c_4 => absurd c_4 (by decide))
  refine lv_aload_n hx hb dX6_takeAll_52 rfl (lv_at hl 1 rfl) ?_
  refine lv_aload_n hx hb dX6_takeAll_53 rfl (lv_at hl 2 rfl) ?_
  refine va_get (D := G) (ci := 6) (v := .int 0) (C := RX6) (T := TX6) (N := 7) hx hb hts inX6 hown hK.1 hP 4 rfl rfl 5 (by decide) (hts (.fieldLink RX6 46 "NestQuery$State" "notedCount" "I") (by decide +kernel)) (fun _ h9 => h9) rfl dX6_takeAll_54 ?_
  refine va_put (D := G) (ci := 6) (v := .int 0) (ty := .int) (C := RX6) (T := TX6) (N := 7) hx hb hts inX6 tyX6 tyX6_ok nmX6 hown hK.1 hP hD hS 0 rfl rfl 5 (by decide) (hts (.fieldLink RX6 46 "NestQuery$State" "notedCount" "I") (by decide +kernel)) (fun _ h9 => h9) rfl (by decide +kernel) rfl rfl (Nat.le_of_ble_eq_true rfl) dX6_takeAll_57 (fun H locs hP hD hS => ?_)
  have hP : va_P G vwCl [(im, .inr (6, [.ref imt, .ref imb, .int 0, .ref imn, .ref imi, .int 0, .ref imr])), (imn, .inl (y 0, 8, .inl (fun _ => 0))), (imi, .inl (y 2, 8, .inl (fun _ => 0))), (imr, .inl (y 0, 3, .inl (fun _ => 0))), (nw, .inr (6, [.ref nwt, .ref nwb, .int 0, .ref nwn, .ref nwi, .int 0, .ref nwr])), (nwn, .inl (y 0, 8, .inl (fun _ => 0))), (nwi, .inl (y 2, 8, .inl (fun _ => 0))), (nwr, .inl (y 0, 3, .inl (fun _ => 0)))] H := hP
  have hD : va_D A [(im, .inr (6, [.ref imt, .ref imb, .int 0, .ref imn, .ref imi, .int 0, .ref imr])), (imn, .inl (y 0, 8, .inl (fun _ => 0))), (imi, .inl (y 2, 8, .inl (fun _ => 0))), (imr, .inl (y 0, 3, .inl (fun _ => 0))), (nw, .inr (6, [.ref nwt, .ref nwb, .int 0, .ref nwn, .ref nwi, .int 0, .ref nwr])), (nwn, .inl (y 0, 8, .inl (fun _ => 0))), (nwi, .inl (y 2, 8, .inl (fun _ => 0))), (nwr, .inl (y 0, 3, .inl (fun _ => 0)))] := hD
  refine lv_iconst (v := 0) hx hb dX6_takeAll_60 (by decide) ?_
  refine lv_istore_n (lv' := [(2, .int 0), (0, .ref im), (1, .ref nw)]) hx hb dX6_takeAll_61 rfl hl (by decide) rfl (fun ls hl => ?_)
  refine lv_iload_n hx hb dX6_takeAll_62 rfl (lv_at hl 0 rfl) ?_
  refine lv_bipush (v := 8) hx hb dX6_takeAll_63 (by decide) ?_
  refine lv_icmp_ge (tgt := 98) hx hb dX6_takeAll_65 (by decide) (fun c_5 => absurd c_5 (by decide)) (fun _ => ?_)
  refine lv_aload_n hx hb dX6_takeAll_68 rfl (lv_at hl 1 rfl) ?_
  refine va_get (D := G) (ci := 6) (v := .ref imn) (C := RX6) (T := TX6) (N := 7) hx hb hts inX6 hown hK.1 hP 0 rfl rfl 3 (by decide) (hts (.fieldLink RX6 24 "NestQuery$State" "notedThings" "[I") (by decide +kernel)) (fun _ h9 => h9) rfl dX6_takeAll_69 ?_
  refine lv_iload_n hx hb dX6_takeAll_72 rfl (lv_at hl 0 rfl) ?_
  refine lv_aload_n hx hb dX6_takeAll_73 rfl (lv_at hl 2 rfl) ?_
  refine va_get (D := G) (ci := 6) (v := .ref nwn) (C := RX6) (T := TX6) (N := 7) hx hb hts inX6 hown hK.1 hP 4 rfl rfl 3 (by decide) (hts (.fieldLink RX6 24 "NestQuery$State" "notedThings" "[I") (by decide +kernel)) (fun _ h9 => h9) rfl dX6_takeAll_74 ?_
  refine lv_iload_n hx hb dX6_takeAll_77 rfl (lv_at hl 0 rfl) ?_
  refine va_iald hx hb hK.1 hP 5 0 rfl rfl (i := 0) (nq_in (by decide)) dX6_takeAll_78 ?_
  refine nq_top (z := 0) (rfl) ?_
  refine va_iast hx hb hK.1 hP hD hS 1 0 rfl rfl (i := 0) (nq_in (by decide)) dX6_takeAll_79 (fun H locs hP hD hS => ?_)
  have hP : va_P G vwCl [(im, .inr (6, [.ref imt, .ref imb, .int 0, .ref imn, .ref imi, .int 0, .ref imr])), (imn, .inl (y 0, 8, .inl (upd (fun _ => 0) 0 0))), (imi, .inl (y 2, 8, .inl (fun _ => 0))), (imr, .inl (y 0, 3, .inl (fun _ => 0))), (nw, .inr (6, [.ref nwt, .ref nwb, .int 0, .ref nwn, .ref nwi, .int 0, .ref nwr])), (nwn, .inl (y 0, 8, .inl (fun _ => 0))), (nwi, .inl (y 2, 8, .inl (fun _ => 0))), (nwr, .inl (y 0, 3, .inl (fun _ => 0)))] H := hP
  have hD : va_D A [(im, .inr (6, [.ref imt, .ref imb, .int 0, .ref imn, .ref imi, .int 0, .ref imr])), (imn, .inl (y 0, 8, .inl (upd (fun _ => 0) 0 0))), (imi, .inl (y 2, 8, .inl (fun _ => 0))), (imr, .inl (y 0, 3, .inl (fun _ => 0))), (nw, .inr (6, [.ref nwt, .ref nwb, .int 0, .ref nwn, .ref nwi, .int 0, .ref nwr])), (nwn, .inl (y 0, 8, .inl (fun _ => 0))), (nwi, .inl (y 2, 8, .inl (fun _ => 0))), (nwr, .inl (y 0, 3, .inl (fun _ => 0)))] := hD
  refine lv_aload_n hx hb dX6_takeAll_80 rfl (lv_at hl 1 rfl) ?_
  refine va_get (D := G) (ci := 6) (v := .ref imi) (C := RX6) (T := TX6) (N := 7) hx hb hts inX6 hown hK.1 hP 0 rfl rfl 4 (by decide) (hts (.fieldLink RX6 28 "NestQuery$State" "notedIs" "[Z") (by decide +kernel)) (fun _ h9 => h9) rfl dX6_takeAll_81 ?_
  refine lv_iload_n hx hb dX6_takeAll_84 rfl (lv_at hl 0 rfl) ?_
  refine lv_aload_n hx hb dX6_takeAll_85 rfl (lv_at hl 2 rfl) ?_
  refine va_get (D := G) (ci := 6) (v := .ref nwi) (C := RX6) (T := TX6) (N := 7) hx hb hts inX6 hown hK.1 hP 4 rfl rfl 4 (by decide) (hts (.fieldLink RX6 28 "NestQuery$State" "notedIs" "[Z") (by decide +kernel)) (fun _ h9 => h9) rfl dX6_takeAll_86 ?_
  refine lv_iload_n hx hb dX6_takeAll_89 rfl (lv_at hl 0 rfl) ?_
  refine va_zald hx hb hK.1 hP 6 2 rfl rfl (i := 0) (nq_in (by decide)) dX6_takeAll_90 ?_
  refine nq_top (z := 0) (rfl) ?_
  refine va_zast hx hb hK.1 hP hD hS 2 2 rfl rfl (i := 0) (nq_in (by decide)) dX6_takeAll_91 (fun H locs hP hD hS => ?_)
  have hP : va_P G vwCl [(im, .inr (6, [.ref imt, .ref imb, .int 0, .ref imn, .ref imi, .int 0, .ref imr])), (imn, .inl (y 0, 8, .inl (upd (fun _ => 0) 0 0))), (imi, .inl (y 2, 8, .inl (upd (fun _ => 0) 0 (vp_nar .boolean 0)))), (imr, .inl (y 0, 3, .inl (fun _ => 0))), (nw, .inr (6, [.ref nwt, .ref nwb, .int 0, .ref nwn, .ref nwi, .int 0, .ref nwr])), (nwn, .inl (y 0, 8, .inl (fun _ => 0))), (nwi, .inl (y 2, 8, .inl (fun _ => 0))), (nwr, .inl (y 0, 3, .inl (fun _ => 0)))] H := hP
  have hD : va_D A [(im, .inr (6, [.ref imt, .ref imb, .int 0, .ref imn, .ref imi, .int 0, .ref imr])), (imn, .inl (y 0, 8, .inl (upd (fun _ => 0) 0 0))), (imi, .inl (y 2, 8, .inl (upd (fun _ => 0) 0 (vp_nar .boolean 0)))), (imr, .inl (y 0, 3, .inl (fun _ => 0))), (nw, .inr (6, [.ref nwt, .ref nwb, .int 0, .ref nwn, .ref nwi, .int 0, .ref nwr])), (nwn, .inl (y 0, 8, .inl (fun _ => 0))), (nwi, .inl (y 2, 8, .inl (fun _ => 0))), (nwr, .inl (y 0, 3, .inl (fun _ => 0)))] := hD
  refine lv_iinc (v := 1) (lv' := [(2, .int 1), (0, .ref im), (1, .ref nw)]) hx hb dX6_takeAll_92 hl (k := 0) rfl (by decide) (by decide) rfl (fun ls hl => ?_)
  refine lv_goto (tgt := 62) hx hb dX6_takeAll_95 (by decide) ?_
  refine lv_iload_n hx hb dX6_takeAll_62 rfl (lv_at hl 0 rfl) ?_
  refine lv_bipush (v := 8) hx hb dX6_takeAll_63 (by decide) ?_
  refine lv_icmp_ge (tgt := 98) hx hb dX6_takeAll_65 (by decide) (fun c_6 => absurd c_6 (by decide)) (fun _ => ?_)
  refine lv_aload_n hx hb dX6_takeAll_68 rfl (lv_at hl 1 rfl) ?_
  refine va_get (D := G) (ci := 6) (v := .ref imn) (C := RX6) (T := TX6) (N := 7) hx hb hts inX6 hown hK.1 hP 0 rfl rfl 3 (by decide) (hts (.fieldLink RX6 24 "NestQuery$State" "notedThings" "[I") (by decide +kernel)) (fun _ h9 => h9) rfl dX6_takeAll_69 ?_
  refine lv_iload_n hx hb dX6_takeAll_72 rfl (lv_at hl 0 rfl) ?_
  refine lv_aload_n hx hb dX6_takeAll_73 rfl (lv_at hl 2 rfl) ?_
  refine va_get (D := G) (ci := 6) (v := .ref nwn) (C := RX6) (T := TX6) (N := 7) hx hb hts inX6 hown hK.1 hP 4 rfl rfl 3 (by decide) (hts (.fieldLink RX6 24 "NestQuery$State" "notedThings" "[I") (by decide +kernel)) (fun _ h9 => h9) rfl dX6_takeAll_74 ?_
  refine lv_iload_n hx hb dX6_takeAll_77 rfl (lv_at hl 0 rfl) ?_
  refine va_iald hx hb hK.1 hP 5 0 rfl rfl (i := 1) (nq_in (by decide)) dX6_takeAll_78 ?_
  refine nq_top (z := 0) (rfl) ?_
  refine va_iast hx hb hK.1 hP hD hS 1 0 rfl rfl (i := 1) (nq_in (by decide)) dX6_takeAll_79 (fun H locs hP hD hS => ?_)
  have hP : va_P G vwCl [(im, .inr (6, [.ref imt, .ref imb, .int 0, .ref imn, .ref imi, .int 0, .ref imr])), (imn, .inl (y 0, 8, .inl (upd (upd (fun _ => 0) 0 0) 1 0))), (imi, .inl (y 2, 8, .inl (upd (fun _ => 0) 0 (vp_nar .boolean 0)))), (imr, .inl (y 0, 3, .inl (fun _ => 0))), (nw, .inr (6, [.ref nwt, .ref nwb, .int 0, .ref nwn, .ref nwi, .int 0, .ref nwr])), (nwn, .inl (y 0, 8, .inl (fun _ => 0))), (nwi, .inl (y 2, 8, .inl (fun _ => 0))), (nwr, .inl (y 0, 3, .inl (fun _ => 0)))] H := hP
  have hD : va_D A [(im, .inr (6, [.ref imt, .ref imb, .int 0, .ref imn, .ref imi, .int 0, .ref imr])), (imn, .inl (y 0, 8, .inl (upd (upd (fun _ => 0) 0 0) 1 0))), (imi, .inl (y 2, 8, .inl (upd (fun _ => 0) 0 (vp_nar .boolean 0)))), (imr, .inl (y 0, 3, .inl (fun _ => 0))), (nw, .inr (6, [.ref nwt, .ref nwb, .int 0, .ref nwn, .ref nwi, .int 0, .ref nwr])), (nwn, .inl (y 0, 8, .inl (fun _ => 0))), (nwi, .inl (y 2, 8, .inl (fun _ => 0))), (nwr, .inl (y 0, 3, .inl (fun _ => 0)))] := hD
  refine lv_aload_n hx hb dX6_takeAll_80 rfl (lv_at hl 1 rfl) ?_
  refine va_get (D := G) (ci := 6) (v := .ref imi) (C := RX6) (T := TX6) (N := 7) hx hb hts inX6 hown hK.1 hP 0 rfl rfl 4 (by decide) (hts (.fieldLink RX6 28 "NestQuery$State" "notedIs" "[Z") (by decide +kernel)) (fun _ h9 => h9) rfl dX6_takeAll_81 ?_
  refine lv_iload_n hx hb dX6_takeAll_84 rfl (lv_at hl 0 rfl) ?_
  refine lv_aload_n hx hb dX6_takeAll_85 rfl (lv_at hl 2 rfl) ?_
  refine va_get (D := G) (ci := 6) (v := .ref nwi) (C := RX6) (T := TX6) (N := 7) hx hb hts inX6 hown hK.1 hP 4 rfl rfl 4 (by decide) (hts (.fieldLink RX6 28 "NestQuery$State" "notedIs" "[Z") (by decide +kernel)) (fun _ h9 => h9) rfl dX6_takeAll_86 ?_
  refine lv_iload_n hx hb dX6_takeAll_89 rfl (lv_at hl 0 rfl) ?_
  refine va_zald hx hb hK.1 hP 6 2 rfl rfl (i := 1) (nq_in (by decide)) dX6_takeAll_90 ?_
  refine nq_top (z := 0) (rfl) ?_
  refine va_zast hx hb hK.1 hP hD hS 2 2 rfl rfl (i := 1) (nq_in (by decide)) dX6_takeAll_91 (fun H locs hP hD hS => ?_)
  have hP : va_P G vwCl [(im, .inr (6, [.ref imt, .ref imb, .int 0, .ref imn, .ref imi, .int 0, .ref imr])), (imn, .inl (y 0, 8, .inl (upd (upd (fun _ => 0) 0 0) 1 0))), (imi, .inl (y 2, 8, .inl (upd (upd (fun _ => 0) 0 (vp_nar .boolean 0)) 1 (vp_nar .boolean 0)))), (imr, .inl (y 0, 3, .inl (fun _ => 0))), (nw, .inr (6, [.ref nwt, .ref nwb, .int 0, .ref nwn, .ref nwi, .int 0, .ref nwr])), (nwn, .inl (y 0, 8, .inl (fun _ => 0))), (nwi, .inl (y 2, 8, .inl (fun _ => 0))), (nwr, .inl (y 0, 3, .inl (fun _ => 0)))] H := hP
  have hD : va_D A [(im, .inr (6, [.ref imt, .ref imb, .int 0, .ref imn, .ref imi, .int 0, .ref imr])), (imn, .inl (y 0, 8, .inl (upd (upd (fun _ => 0) 0 0) 1 0))), (imi, .inl (y 2, 8, .inl (upd (upd (fun _ => 0) 0 (vp_nar .boolean 0)) 1 (vp_nar .boolean 0)))), (imr, .inl (y 0, 3, .inl (fun _ => 0))), (nw, .inr (6, [.ref nwt, .ref nwb, .int 0, .ref nwn, .ref nwi, .int 0, .ref nwr])), (nwn, .inl (y 0, 8, .inl (fun _ => 0))), (nwi, .inl (y 2, 8, .inl (fun _ => 0))), (nwr, .inl (y 0, 3, .inl (fun _ => 0)))] := hD
  refine lv_iinc (v := 2) (lv' := [(2, .int 2), (0, .ref im), (1, .ref nw)]) hx hb dX6_takeAll_92 hl (k := 0) rfl (by decide) (by decide) rfl (fun ls hl => ?_)
  refine lv_goto (tgt := 62) hx hb dX6_takeAll_95 (by decide) ?_
  refine lv_iload_n hx hb dX6_takeAll_62 rfl (lv_at hl 0 rfl) ?_
  refine lv_bipush (v := 8) hx hb dX6_takeAll_63 (by decide) ?_
  refine lv_icmp_ge (tgt := 98) hx hb dX6_takeAll_65 (by decide) (fun c_7 => absurd c_7 (by decide)) (fun _ => ?_)
  refine lv_aload_n hx hb dX6_takeAll_68 rfl (lv_at hl 1 rfl) ?_
  refine va_get (D := G) (ci := 6) (v := .ref imn) (C := RX6) (T := TX6) (N := 7) hx hb hts inX6 hown hK.1 hP 0 rfl rfl 3 (by decide) (hts (.fieldLink RX6 24 "NestQuery$State" "notedThings" "[I") (by decide +kernel)) (fun _ h9 => h9) rfl dX6_takeAll_69 ?_
  refine lv_iload_n hx hb dX6_takeAll_72 rfl (lv_at hl 0 rfl) ?_
  refine lv_aload_n hx hb dX6_takeAll_73 rfl (lv_at hl 2 rfl) ?_
  refine va_get (D := G) (ci := 6) (v := .ref nwn) (C := RX6) (T := TX6) (N := 7) hx hb hts inX6 hown hK.1 hP 4 rfl rfl 3 (by decide) (hts (.fieldLink RX6 24 "NestQuery$State" "notedThings" "[I") (by decide +kernel)) (fun _ h9 => h9) rfl dX6_takeAll_74 ?_
  refine lv_iload_n hx hb dX6_takeAll_77 rfl (lv_at hl 0 rfl) ?_
  refine va_iald hx hb hK.1 hP 5 0 rfl rfl (i := 2) (nq_in (by decide)) dX6_takeAll_78 ?_
  refine nq_top (z := 0) (rfl) ?_
  refine va_iast hx hb hK.1 hP hD hS 1 0 rfl rfl (i := 2) (nq_in (by decide)) dX6_takeAll_79 (fun H locs hP hD hS => ?_)
  have hP : va_P G vwCl [(im, .inr (6, [.ref imt, .ref imb, .int 0, .ref imn, .ref imi, .int 0, .ref imr])), (imn, .inl (y 0, 8, .inl (upd (upd (upd (fun _ => 0) 0 0) 1 0) 2 0))), (imi, .inl (y 2, 8, .inl (upd (upd (fun _ => 0) 0 (vp_nar .boolean 0)) 1 (vp_nar .boolean 0)))), (imr, .inl (y 0, 3, .inl (fun _ => 0))), (nw, .inr (6, [.ref nwt, .ref nwb, .int 0, .ref nwn, .ref nwi, .int 0, .ref nwr])), (nwn, .inl (y 0, 8, .inl (fun _ => 0))), (nwi, .inl (y 2, 8, .inl (fun _ => 0))), (nwr, .inl (y 0, 3, .inl (fun _ => 0)))] H := hP
  have hD : va_D A [(im, .inr (6, [.ref imt, .ref imb, .int 0, .ref imn, .ref imi, .int 0, .ref imr])), (imn, .inl (y 0, 8, .inl (upd (upd (upd (fun _ => 0) 0 0) 1 0) 2 0))), (imi, .inl (y 2, 8, .inl (upd (upd (fun _ => 0) 0 (vp_nar .boolean 0)) 1 (vp_nar .boolean 0)))), (imr, .inl (y 0, 3, .inl (fun _ => 0))), (nw, .inr (6, [.ref nwt, .ref nwb, .int 0, .ref nwn, .ref nwi, .int 0, .ref nwr])), (nwn, .inl (y 0, 8, .inl (fun _ => 0))), (nwi, .inl (y 2, 8, .inl (fun _ => 0))), (nwr, .inl (y 0, 3, .inl (fun _ => 0)))] := hD
  refine lv_aload_n hx hb dX6_takeAll_80 rfl (lv_at hl 1 rfl) ?_
  refine va_get (D := G) (ci := 6) (v := .ref imi) (C := RX6) (T := TX6) (N := 7) hx hb hts inX6 hown hK.1 hP 0 rfl rfl 4 (by decide) (hts (.fieldLink RX6 28 "NestQuery$State" "notedIs" "[Z") (by decide +kernel)) (fun _ h9 => h9) rfl dX6_takeAll_81 ?_
  refine lv_iload_n hx hb dX6_takeAll_84 rfl (lv_at hl 0 rfl) ?_
  refine lv_aload_n hx hb dX6_takeAll_85 rfl (lv_at hl 2 rfl) ?_
  refine va_get (D := G) (ci := 6) (v := .ref nwi) (C := RX6) (T := TX6) (N := 7) hx hb hts inX6 hown hK.1 hP 4 rfl rfl 4 (by decide) (hts (.fieldLink RX6 28 "NestQuery$State" "notedIs" "[Z") (by decide +kernel)) (fun _ h9 => h9) rfl dX6_takeAll_86 ?_
  refine lv_iload_n hx hb dX6_takeAll_89 rfl (lv_at hl 0 rfl) ?_
  refine va_zald hx hb hK.1 hP 6 2 rfl rfl (i := 2) (nq_in (by decide)) dX6_takeAll_90 ?_
  refine nq_top (z := 0) (rfl) ?_
  refine va_zast hx hb hK.1 hP hD hS 2 2 rfl rfl (i := 2) (nq_in (by decide)) dX6_takeAll_91 (fun H locs hP hD hS => ?_)
  have hP : va_P G vwCl [(im, .inr (6, [.ref imt, .ref imb, .int 0, .ref imn, .ref imi, .int 0, .ref imr])), (imn, .inl (y 0, 8, .inl (upd (upd (upd (fun _ => 0) 0 0) 1 0) 2 0))), (imi, .inl (y 2, 8, .inl (upd (upd (upd (fun _ => 0) 0 (vp_nar .boolean 0)) 1 (vp_nar .boolean 0)) 2 (vp_nar .boolean 0)))), (imr, .inl (y 0, 3, .inl (fun _ => 0))), (nw, .inr (6, [.ref nwt, .ref nwb, .int 0, .ref nwn, .ref nwi, .int 0, .ref nwr])), (nwn, .inl (y 0, 8, .inl (fun _ => 0))), (nwi, .inl (y 2, 8, .inl (fun _ => 0))), (nwr, .inl (y 0, 3, .inl (fun _ => 0)))] H := hP
  have hD : va_D A [(im, .inr (6, [.ref imt, .ref imb, .int 0, .ref imn, .ref imi, .int 0, .ref imr])), (imn, .inl (y 0, 8, .inl (upd (upd (upd (fun _ => 0) 0 0) 1 0) 2 0))), (imi, .inl (y 2, 8, .inl (upd (upd (upd (fun _ => 0) 0 (vp_nar .boolean 0)) 1 (vp_nar .boolean 0)) 2 (vp_nar .boolean 0)))), (imr, .inl (y 0, 3, .inl (fun _ => 0))), (nw, .inr (6, [.ref nwt, .ref nwb, .int 0, .ref nwn, .ref nwi, .int 0, .ref nwr])), (nwn, .inl (y 0, 8, .inl (fun _ => 0))), (nwi, .inl (y 2, 8, .inl (fun _ => 0))), (nwr, .inl (y 0, 3, .inl (fun _ => 0)))] := hD
  refine lv_iinc (v := 3) (lv' := [(2, .int 3), (0, .ref im), (1, .ref nw)]) hx hb dX6_takeAll_92 hl (k := 0) rfl (by decide) (by decide) rfl (fun ls hl => ?_)
  refine lv_goto (tgt := 62) hx hb dX6_takeAll_95 (by decide) ?_
  refine lv_iload_n hx hb dX6_takeAll_62 rfl (lv_at hl 0 rfl) ?_
  refine lv_bipush (v := 8) hx hb dX6_takeAll_63 (by decide) ?_
  refine lv_icmp_ge (tgt := 98) hx hb dX6_takeAll_65 (by decide) (fun c_8 => absurd c_8 (by decide)) (fun _ => ?_)
  refine lv_aload_n hx hb dX6_takeAll_68 rfl (lv_at hl 1 rfl) ?_
  refine va_get (D := G) (ci := 6) (v := .ref imn) (C := RX6) (T := TX6) (N := 7) hx hb hts inX6 hown hK.1 hP 0 rfl rfl 3 (by decide) (hts (.fieldLink RX6 24 "NestQuery$State" "notedThings" "[I") (by decide +kernel)) (fun _ h9 => h9) rfl dX6_takeAll_69 ?_
  refine lv_iload_n hx hb dX6_takeAll_72 rfl (lv_at hl 0 rfl) ?_
  refine lv_aload_n hx hb dX6_takeAll_73 rfl (lv_at hl 2 rfl) ?_
  refine va_get (D := G) (ci := 6) (v := .ref nwn) (C := RX6) (T := TX6) (N := 7) hx hb hts inX6 hown hK.1 hP 4 rfl rfl 3 (by decide) (hts (.fieldLink RX6 24 "NestQuery$State" "notedThings" "[I") (by decide +kernel)) (fun _ h9 => h9) rfl dX6_takeAll_74 ?_
  refine lv_iload_n hx hb dX6_takeAll_77 rfl (lv_at hl 0 rfl) ?_
  refine va_iald hx hb hK.1 hP 5 0 rfl rfl (i := 3) (nq_in (by decide)) dX6_takeAll_78 ?_
  refine nq_top (z := 0) (rfl) ?_
  refine va_iast hx hb hK.1 hP hD hS 1 0 rfl rfl (i := 3) (nq_in (by decide)) dX6_takeAll_79 (fun H locs hP hD hS => ?_)
  have hP : va_P G vwCl [(im, .inr (6, [.ref imt, .ref imb, .int 0, .ref imn, .ref imi, .int 0, .ref imr])), (imn, .inl (y 0, 8, .inl (upd (upd (upd (upd (fun _ => 0) 0 0) 1 0) 2 0) 3 0))), (imi, .inl (y 2, 8, .inl (upd (upd (upd (fun _ => 0) 0 (vp_nar .boolean 0)) 1 (vp_nar .boolean 0)) 2 (vp_nar .boolean 0)))), (imr, .inl (y 0, 3, .inl (fun _ => 0))), (nw, .inr (6, [.ref nwt, .ref nwb, .int 0, .ref nwn, .ref nwi, .int 0, .ref nwr])), (nwn, .inl (y 0, 8, .inl (fun _ => 0))), (nwi, .inl (y 2, 8, .inl (fun _ => 0))), (nwr, .inl (y 0, 3, .inl (fun _ => 0)))] H := hP
  have hD : va_D A [(im, .inr (6, [.ref imt, .ref imb, .int 0, .ref imn, .ref imi, .int 0, .ref imr])), (imn, .inl (y 0, 8, .inl (upd (upd (upd (upd (fun _ => 0) 0 0) 1 0) 2 0) 3 0))), (imi, .inl (y 2, 8, .inl (upd (upd (upd (fun _ => 0) 0 (vp_nar .boolean 0)) 1 (vp_nar .boolean 0)) 2 (vp_nar .boolean 0)))), (imr, .inl (y 0, 3, .inl (fun _ => 0))), (nw, .inr (6, [.ref nwt, .ref nwb, .int 0, .ref nwn, .ref nwi, .int 0, .ref nwr])), (nwn, .inl (y 0, 8, .inl (fun _ => 0))), (nwi, .inl (y 2, 8, .inl (fun _ => 0))), (nwr, .inl (y 0, 3, .inl (fun _ => 0)))] := hD
  refine lv_aload_n hx hb dX6_takeAll_80 rfl (lv_at hl 1 rfl) ?_
  refine va_get (D := G) (ci := 6) (v := .ref imi) (C := RX6) (T := TX6) (N := 7) hx hb hts inX6 hown hK.1 hP 0 rfl rfl 4 (by decide) (hts (.fieldLink RX6 28 "NestQuery$State" "notedIs" "[Z") (by decide +kernel)) (fun _ h9 => h9) rfl dX6_takeAll_81 ?_
  refine lv_iload_n hx hb dX6_takeAll_84 rfl (lv_at hl 0 rfl) ?_
  refine lv_aload_n hx hb dX6_takeAll_85 rfl (lv_at hl 2 rfl) ?_
  refine va_get (D := G) (ci := 6) (v := .ref nwi) (C := RX6) (T := TX6) (N := 7) hx hb hts inX6 hown hK.1 hP 4 rfl rfl 4 (by decide) (hts (.fieldLink RX6 28 "NestQuery$State" "notedIs" "[Z") (by decide +kernel)) (fun _ h9 => h9) rfl dX6_takeAll_86 ?_
  refine lv_iload_n hx hb dX6_takeAll_89 rfl (lv_at hl 0 rfl) ?_
  refine va_zald hx hb hK.1 hP 6 2 rfl rfl (i := 3) (nq_in (by decide)) dX6_takeAll_90 ?_
  refine nq_top (z := 0) (rfl) ?_
  refine va_zast hx hb hK.1 hP hD hS 2 2 rfl rfl (i := 3) (nq_in (by decide)) dX6_takeAll_91 (fun H locs hP hD hS => ?_)
  have hP : va_P G vwCl [(im, .inr (6, [.ref imt, .ref imb, .int 0, .ref imn, .ref imi, .int 0, .ref imr])), (imn, .inl (y 0, 8, .inl (upd (upd (upd (upd (fun _ => 0) 0 0) 1 0) 2 0) 3 0))), (imi, .inl (y 2, 8, .inl (upd (upd (upd (upd (fun _ => 0) 0 (vp_nar .boolean 0)) 1 (vp_nar .boolean 0)) 2 (vp_nar .boolean 0)) 3 (vp_nar .boolean 0)))), (imr, .inl (y 0, 3, .inl (fun _ => 0))), (nw, .inr (6, [.ref nwt, .ref nwb, .int 0, .ref nwn, .ref nwi, .int 0, .ref nwr])), (nwn, .inl (y 0, 8, .inl (fun _ => 0))), (nwi, .inl (y 2, 8, .inl (fun _ => 0))), (nwr, .inl (y 0, 3, .inl (fun _ => 0)))] H := hP
  have hD : va_D A [(im, .inr (6, [.ref imt, .ref imb, .int 0, .ref imn, .ref imi, .int 0, .ref imr])), (imn, .inl (y 0, 8, .inl (upd (upd (upd (upd (fun _ => 0) 0 0) 1 0) 2 0) 3 0))), (imi, .inl (y 2, 8, .inl (upd (upd (upd (upd (fun _ => 0) 0 (vp_nar .boolean 0)) 1 (vp_nar .boolean 0)) 2 (vp_nar .boolean 0)) 3 (vp_nar .boolean 0)))), (imr, .inl (y 0, 3, .inl (fun _ => 0))), (nw, .inr (6, [.ref nwt, .ref nwb, .int 0, .ref nwn, .ref nwi, .int 0, .ref nwr])), (nwn, .inl (y 0, 8, .inl (fun _ => 0))), (nwi, .inl (y 2, 8, .inl (fun _ => 0))), (nwr, .inl (y 0, 3, .inl (fun _ => 0)))] := hD
  refine lv_iinc (v := 4) (lv' := [(2, .int 4), (0, .ref im), (1, .ref nw)]) hx hb dX6_takeAll_92 hl (k := 0) rfl (by decide) (by decide) rfl (fun ls hl => ?_)
  refine lv_goto (tgt := 62) hx hb dX6_takeAll_95 (by decide) ?_
  refine lv_iload_n hx hb dX6_takeAll_62 rfl (lv_at hl 0 rfl) ?_
  refine lv_bipush (v := 8) hx hb dX6_takeAll_63 (by decide) ?_
  refine lv_icmp_ge (tgt := 98) hx hb dX6_takeAll_65 (by decide) (fun c_9 => absurd c_9 (by decide)) (fun _ => ?_)
  refine lv_aload_n hx hb dX6_takeAll_68 rfl (lv_at hl 1 rfl) ?_
  refine va_get (D := G) (ci := 6) (v := .ref imn) (C := RX6) (T := TX6) (N := 7) hx hb hts inX6 hown hK.1 hP 0 rfl rfl 3 (by decide) (hts (.fieldLink RX6 24 "NestQuery$State" "notedThings" "[I") (by decide +kernel)) (fun _ h9 => h9) rfl dX6_takeAll_69 ?_
  refine lv_iload_n hx hb dX6_takeAll_72 rfl (lv_at hl 0 rfl) ?_
  refine lv_aload_n hx hb dX6_takeAll_73 rfl (lv_at hl 2 rfl) ?_
  refine va_get (D := G) (ci := 6) (v := .ref nwn) (C := RX6) (T := TX6) (N := 7) hx hb hts inX6 hown hK.1 hP 4 rfl rfl 3 (by decide) (hts (.fieldLink RX6 24 "NestQuery$State" "notedThings" "[I") (by decide +kernel)) (fun _ h9 => h9) rfl dX6_takeAll_74 ?_
  refine lv_iload_n hx hb dX6_takeAll_77 rfl (lv_at hl 0 rfl) ?_
  refine va_iald hx hb hK.1 hP 5 0 rfl rfl (i := 4) (nq_in (by decide)) dX6_takeAll_78 ?_
  refine nq_top (z := 0) (rfl) ?_
  refine va_iast hx hb hK.1 hP hD hS 1 0 rfl rfl (i := 4) (nq_in (by decide)) dX6_takeAll_79 (fun H locs hP hD hS => ?_)
  have hP : va_P G vwCl [(im, .inr (6, [.ref imt, .ref imb, .int 0, .ref imn, .ref imi, .int 0, .ref imr])), (imn, .inl (y 0, 8, .inl (upd (upd (upd (upd (upd (fun _ => 0) 0 0) 1 0) 2 0) 3 0) 4 0))), (imi, .inl (y 2, 8, .inl (upd (upd (upd (upd (fun _ => 0) 0 (vp_nar .boolean 0)) 1 (vp_nar .boolean 0)) 2 (vp_nar .boolean 0)) 3 (vp_nar .boolean 0)))), (imr, .inl (y 0, 3, .inl (fun _ => 0))), (nw, .inr (6, [.ref nwt, .ref nwb, .int 0, .ref nwn, .ref nwi, .int 0, .ref nwr])), (nwn, .inl (y 0, 8, .inl (fun _ => 0))), (nwi, .inl (y 2, 8, .inl (fun _ => 0))), (nwr, .inl (y 0, 3, .inl (fun _ => 0)))] H := hP
  have hD : va_D A [(im, .inr (6, [.ref imt, .ref imb, .int 0, .ref imn, .ref imi, .int 0, .ref imr])), (imn, .inl (y 0, 8, .inl (upd (upd (upd (upd (upd (fun _ => 0) 0 0) 1 0) 2 0) 3 0) 4 0))), (imi, .inl (y 2, 8, .inl (upd (upd (upd (upd (fun _ => 0) 0 (vp_nar .boolean 0)) 1 (vp_nar .boolean 0)) 2 (vp_nar .boolean 0)) 3 (vp_nar .boolean 0)))), (imr, .inl (y 0, 3, .inl (fun _ => 0))), (nw, .inr (6, [.ref nwt, .ref nwb, .int 0, .ref nwn, .ref nwi, .int 0, .ref nwr])), (nwn, .inl (y 0, 8, .inl (fun _ => 0))), (nwi, .inl (y 2, 8, .inl (fun _ => 0))), (nwr, .inl (y 0, 3, .inl (fun _ => 0)))] := hD
  refine lv_aload_n hx hb dX6_takeAll_80 rfl (lv_at hl 1 rfl) ?_
  refine va_get (D := G) (ci := 6) (v := .ref imi) (C := RX6) (T := TX6) (N := 7) hx hb hts inX6 hown hK.1 hP 0 rfl rfl 4 (by decide) (hts (.fieldLink RX6 28 "NestQuery$State" "notedIs" "[Z") (by decide +kernel)) (fun _ h9 => h9) rfl dX6_takeAll_81 ?_
  refine lv_iload_n hx hb dX6_takeAll_84 rfl (lv_at hl 0 rfl) ?_
  refine lv_aload_n hx hb dX6_takeAll_85 rfl (lv_at hl 2 rfl) ?_
  refine va_get (D := G) (ci := 6) (v := .ref nwi) (C := RX6) (T := TX6) (N := 7) hx hb hts inX6 hown hK.1 hP 4 rfl rfl 4 (by decide) (hts (.fieldLink RX6 28 "NestQuery$State" "notedIs" "[Z") (by decide +kernel)) (fun _ h9 => h9) rfl dX6_takeAll_86 ?_
  refine lv_iload_n hx hb dX6_takeAll_89 rfl (lv_at hl 0 rfl) ?_
  refine va_zald hx hb hK.1 hP 6 2 rfl rfl (i := 4) (nq_in (by decide)) dX6_takeAll_90 ?_
  refine nq_top (z := 0) (rfl) ?_
  refine va_zast hx hb hK.1 hP hD hS 2 2 rfl rfl (i := 4) (nq_in (by decide)) dX6_takeAll_91 (fun H locs hP hD hS => ?_)
  have hP : va_P G vwCl [(im, .inr (6, [.ref imt, .ref imb, .int 0, .ref imn, .ref imi, .int 0, .ref imr])), (imn, .inl (y 0, 8, .inl (upd (upd (upd (upd (upd (fun _ => 0) 0 0) 1 0) 2 0) 3 0) 4 0))), (imi, .inl (y 2, 8, .inl (upd (upd (upd (upd (upd (fun _ => 0) 0 (vp_nar .boolean 0)) 1 (vp_nar .boolean 0)) 2 (vp_nar .boolean 0)) 3 (vp_nar .boolean 0)) 4 (vp_nar .boolean 0)))), (imr, .inl (y 0, 3, .inl (fun _ => 0))), (nw, .inr (6, [.ref nwt, .ref nwb, .int 0, .ref nwn, .ref nwi, .int 0, .ref nwr])), (nwn, .inl (y 0, 8, .inl (fun _ => 0))), (nwi, .inl (y 2, 8, .inl (fun _ => 0))), (nwr, .inl (y 0, 3, .inl (fun _ => 0)))] H := hP
  have hD : va_D A [(im, .inr (6, [.ref imt, .ref imb, .int 0, .ref imn, .ref imi, .int 0, .ref imr])), (imn, .inl (y 0, 8, .inl (upd (upd (upd (upd (upd (fun _ => 0) 0 0) 1 0) 2 0) 3 0) 4 0))), (imi, .inl (y 2, 8, .inl (upd (upd (upd (upd (upd (fun _ => 0) 0 (vp_nar .boolean 0)) 1 (vp_nar .boolean 0)) 2 (vp_nar .boolean 0)) 3 (vp_nar .boolean 0)) 4 (vp_nar .boolean 0)))), (imr, .inl (y 0, 3, .inl (fun _ => 0))), (nw, .inr (6, [.ref nwt, .ref nwb, .int 0, .ref nwn, .ref nwi, .int 0, .ref nwr])), (nwn, .inl (y 0, 8, .inl (fun _ => 0))), (nwi, .inl (y 2, 8, .inl (fun _ => 0))), (nwr, .inl (y 0, 3, .inl (fun _ => 0)))] := hD
  refine lv_iinc (v := 5) (lv' := [(2, .int 5), (0, .ref im), (1, .ref nw)]) hx hb dX6_takeAll_92 hl (k := 0) rfl (by decide) (by decide) rfl (fun ls hl => ?_)
  refine lv_goto (tgt := 62) hx hb dX6_takeAll_95 (by decide) ?_
  refine lv_iload_n hx hb dX6_takeAll_62 rfl (lv_at hl 0 rfl) ?_
  refine lv_bipush (v := 8) hx hb dX6_takeAll_63 (by decide) ?_
  refine lv_icmp_ge (tgt := 98) hx hb dX6_takeAll_65 (by decide) (fun c_10 => absurd c_10 (by decide)) (fun _ => ?_)
  refine lv_aload_n hx hb dX6_takeAll_68 rfl (lv_at hl 1 rfl) ?_
  refine va_get (D := G) (ci := 6) (v := .ref imn) (C := RX6) (T := TX6) (N := 7) hx hb hts inX6 hown hK.1 hP 0 rfl rfl 3 (by decide) (hts (.fieldLink RX6 24 "NestQuery$State" "notedThings" "[I") (by decide +kernel)) (fun _ h9 => h9) rfl dX6_takeAll_69 ?_
  refine lv_iload_n hx hb dX6_takeAll_72 rfl (lv_at hl 0 rfl) ?_
  refine lv_aload_n hx hb dX6_takeAll_73 rfl (lv_at hl 2 rfl) ?_
  refine va_get (D := G) (ci := 6) (v := .ref nwn) (C := RX6) (T := TX6) (N := 7) hx hb hts inX6 hown hK.1 hP 4 rfl rfl 3 (by decide) (hts (.fieldLink RX6 24 "NestQuery$State" "notedThings" "[I") (by decide +kernel)) (fun _ h9 => h9) rfl dX6_takeAll_74 ?_
  refine lv_iload_n hx hb dX6_takeAll_77 rfl (lv_at hl 0 rfl) ?_
  refine va_iald hx hb hK.1 hP 5 0 rfl rfl (i := 5) (nq_in (by decide)) dX6_takeAll_78 ?_
  refine nq_top (z := 0) (rfl) ?_
  refine va_iast hx hb hK.1 hP hD hS 1 0 rfl rfl (i := 5) (nq_in (by decide)) dX6_takeAll_79 (fun H locs hP hD hS => ?_)
  have hP : va_P G vwCl [(im, .inr (6, [.ref imt, .ref imb, .int 0, .ref imn, .ref imi, .int 0, .ref imr])), (imn, .inl (y 0, 8, .inl (upd (upd (upd (upd (upd (upd (fun _ => 0) 0 0) 1 0) 2 0) 3 0) 4 0) 5 0))), (imi, .inl (y 2, 8, .inl (upd (upd (upd (upd (upd (fun _ => 0) 0 (vp_nar .boolean 0)) 1 (vp_nar .boolean 0)) 2 (vp_nar .boolean 0)) 3 (vp_nar .boolean 0)) 4 (vp_nar .boolean 0)))), (imr, .inl (y 0, 3, .inl (fun _ => 0))), (nw, .inr (6, [.ref nwt, .ref nwb, .int 0, .ref nwn, .ref nwi, .int 0, .ref nwr])), (nwn, .inl (y 0, 8, .inl (fun _ => 0))), (nwi, .inl (y 2, 8, .inl (fun _ => 0))), (nwr, .inl (y 0, 3, .inl (fun _ => 0)))] H := hP
  have hD : va_D A [(im, .inr (6, [.ref imt, .ref imb, .int 0, .ref imn, .ref imi, .int 0, .ref imr])), (imn, .inl (y 0, 8, .inl (upd (upd (upd (upd (upd (upd (fun _ => 0) 0 0) 1 0) 2 0) 3 0) 4 0) 5 0))), (imi, .inl (y 2, 8, .inl (upd (upd (upd (upd (upd (fun _ => 0) 0 (vp_nar .boolean 0)) 1 (vp_nar .boolean 0)) 2 (vp_nar .boolean 0)) 3 (vp_nar .boolean 0)) 4 (vp_nar .boolean 0)))), (imr, .inl (y 0, 3, .inl (fun _ => 0))), (nw, .inr (6, [.ref nwt, .ref nwb, .int 0, .ref nwn, .ref nwi, .int 0, .ref nwr])), (nwn, .inl (y 0, 8, .inl (fun _ => 0))), (nwi, .inl (y 2, 8, .inl (fun _ => 0))), (nwr, .inl (y 0, 3, .inl (fun _ => 0)))] := hD
  refine lv_aload_n hx hb dX6_takeAll_80 rfl (lv_at hl 1 rfl) ?_
  refine va_get (D := G) (ci := 6) (v := .ref imi) (C := RX6) (T := TX6) (N := 7) hx hb hts inX6 hown hK.1 hP 0 rfl rfl 4 (by decide) (hts (.fieldLink RX6 28 "NestQuery$State" "notedIs" "[Z") (by decide +kernel)) (fun _ h9 => h9) rfl dX6_takeAll_81 ?_
  refine lv_iload_n hx hb dX6_takeAll_84 rfl (lv_at hl 0 rfl) ?_
  refine lv_aload_n hx hb dX6_takeAll_85 rfl (lv_at hl 2 rfl) ?_
  refine va_get (D := G) (ci := 6) (v := .ref nwi) (C := RX6) (T := TX6) (N := 7) hx hb hts inX6 hown hK.1 hP 4 rfl rfl 4 (by decide) (hts (.fieldLink RX6 28 "NestQuery$State" "notedIs" "[Z") (by decide +kernel)) (fun _ h9 => h9) rfl dX6_takeAll_86 ?_
  refine lv_iload_n hx hb dX6_takeAll_89 rfl (lv_at hl 0 rfl) ?_
  refine va_zald hx hb hK.1 hP 6 2 rfl rfl (i := 5) (nq_in (by decide)) dX6_takeAll_90 ?_
  refine nq_top (z := 0) (rfl) ?_
  refine va_zast hx hb hK.1 hP hD hS 2 2 rfl rfl (i := 5) (nq_in (by decide)) dX6_takeAll_91 (fun H locs hP hD hS => ?_)
  have hP : va_P G vwCl [(im, .inr (6, [.ref imt, .ref imb, .int 0, .ref imn, .ref imi, .int 0, .ref imr])), (imn, .inl (y 0, 8, .inl (upd (upd (upd (upd (upd (upd (fun _ => 0) 0 0) 1 0) 2 0) 3 0) 4 0) 5 0))), (imi, .inl (y 2, 8, .inl (upd (upd (upd (upd (upd (upd (fun _ => 0) 0 (vp_nar .boolean 0)) 1 (vp_nar .boolean 0)) 2 (vp_nar .boolean 0)) 3 (vp_nar .boolean 0)) 4 (vp_nar .boolean 0)) 5 (vp_nar .boolean 0)))), (imr, .inl (y 0, 3, .inl (fun _ => 0))), (nw, .inr (6, [.ref nwt, .ref nwb, .int 0, .ref nwn, .ref nwi, .int 0, .ref nwr])), (nwn, .inl (y 0, 8, .inl (fun _ => 0))), (nwi, .inl (y 2, 8, .inl (fun _ => 0))), (nwr, .inl (y 0, 3, .inl (fun _ => 0)))] H := hP
  have hD : va_D A [(im, .inr (6, [.ref imt, .ref imb, .int 0, .ref imn, .ref imi, .int 0, .ref imr])), (imn, .inl (y 0, 8, .inl (upd (upd (upd (upd (upd (upd (fun _ => 0) 0 0) 1 0) 2 0) 3 0) 4 0) 5 0))), (imi, .inl (y 2, 8, .inl (upd (upd (upd (upd (upd (upd (fun _ => 0) 0 (vp_nar .boolean 0)) 1 (vp_nar .boolean 0)) 2 (vp_nar .boolean 0)) 3 (vp_nar .boolean 0)) 4 (vp_nar .boolean 0)) 5 (vp_nar .boolean 0)))), (imr, .inl (y 0, 3, .inl (fun _ => 0))), (nw, .inr (6, [.ref nwt, .ref nwb, .int 0, .ref nwn, .ref nwi, .int 0, .ref nwr])), (nwn, .inl (y 0, 8, .inl (fun _ => 0))), (nwi, .inl (y 2, 8, .inl (fun _ => 0))), (nwr, .inl (y 0, 3, .inl (fun _ => 0)))] := hD
  refine lv_iinc (v := 6) (lv' := [(2, .int 6), (0, .ref im), (1, .ref nw)]) hx hb dX6_takeAll_92 hl (k := 0) rfl (by decide) (by decide) rfl (fun ls hl => ?_)
  refine lv_goto (tgt := 62) hx hb dX6_takeAll_95 (by decide) ?_
  refine lv_iload_n hx hb dX6_takeAll_62 rfl (lv_at hl 0 rfl) ?_
  refine lv_bipush (v := 8) hx hb dX6_takeAll_63 (by decide) ?_
  refine lv_icmp_ge (tgt := 98) hx hb dX6_takeAll_65 (by decide) (fun c_11 => absurd c_11 (by decide)) (fun _ => ?_)
  refine lv_aload_n hx hb dX6_takeAll_68 rfl (lv_at hl 1 rfl) ?_
  refine va_get (D := G) (ci := 6) (v := .ref imn) (C := RX6) (T := TX6) (N := 7) hx hb hts inX6 hown hK.1 hP 0 rfl rfl 3 (by decide) (hts (.fieldLink RX6 24 "NestQuery$State" "notedThings" "[I") (by decide +kernel)) (fun _ h9 => h9) rfl dX6_takeAll_69 ?_
  refine lv_iload_n hx hb dX6_takeAll_72 rfl (lv_at hl 0 rfl) ?_
  refine lv_aload_n hx hb dX6_takeAll_73 rfl (lv_at hl 2 rfl) ?_
  refine va_get (D := G) (ci := 6) (v := .ref nwn) (C := RX6) (T := TX6) (N := 7) hx hb hts inX6 hown hK.1 hP 4 rfl rfl 3 (by decide) (hts (.fieldLink RX6 24 "NestQuery$State" "notedThings" "[I") (by decide +kernel)) (fun _ h9 => h9) rfl dX6_takeAll_74 ?_
  refine lv_iload_n hx hb dX6_takeAll_77 rfl (lv_at hl 0 rfl) ?_
  refine va_iald hx hb hK.1 hP 5 0 rfl rfl (i := 6) (nq_in (by decide)) dX6_takeAll_78 ?_
  refine nq_top (z := 0) (rfl) ?_
  refine va_iast hx hb hK.1 hP hD hS 1 0 rfl rfl (i := 6) (nq_in (by decide)) dX6_takeAll_79 (fun H locs hP hD hS => ?_)
  have hP : va_P G vwCl [(im, .inr (6, [.ref imt, .ref imb, .int 0, .ref imn, .ref imi, .int 0, .ref imr])), (imn, .inl (y 0, 8, .inl (upd (upd (upd (upd (upd (upd (upd (fun _ => 0) 0 0) 1 0) 2 0) 3 0) 4 0) 5 0) 6 0))), (imi, .inl (y 2, 8, .inl (upd (upd (upd (upd (upd (upd (fun _ => 0) 0 (vp_nar .boolean 0)) 1 (vp_nar .boolean 0)) 2 (vp_nar .boolean 0)) 3 (vp_nar .boolean 0)) 4 (vp_nar .boolean 0)) 5 (vp_nar .boolean 0)))), (imr, .inl (y 0, 3, .inl (fun _ => 0))), (nw, .inr (6, [.ref nwt, .ref nwb, .int 0, .ref nwn, .ref nwi, .int 0, .ref nwr])), (nwn, .inl (y 0, 8, .inl (fun _ => 0))), (nwi, .inl (y 2, 8, .inl (fun _ => 0))), (nwr, .inl (y 0, 3, .inl (fun _ => 0)))] H := hP
  have hD : va_D A [(im, .inr (6, [.ref imt, .ref imb, .int 0, .ref imn, .ref imi, .int 0, .ref imr])), (imn, .inl (y 0, 8, .inl (upd (upd (upd (upd (upd (upd (upd (fun _ => 0) 0 0) 1 0) 2 0) 3 0) 4 0) 5 0) 6 0))), (imi, .inl (y 2, 8, .inl (upd (upd (upd (upd (upd (upd (fun _ => 0) 0 (vp_nar .boolean 0)) 1 (vp_nar .boolean 0)) 2 (vp_nar .boolean 0)) 3 (vp_nar .boolean 0)) 4 (vp_nar .boolean 0)) 5 (vp_nar .boolean 0)))), (imr, .inl (y 0, 3, .inl (fun _ => 0))), (nw, .inr (6, [.ref nwt, .ref nwb, .int 0, .ref nwn, .ref nwi, .int 0, .ref nwr])), (nwn, .inl (y 0, 8, .inl (fun _ => 0))), (nwi, .inl (y 2, 8, .inl (fun _ => 0))), (nwr, .inl (y 0, 3, .inl (fun _ => 0)))] := hD
  refine lv_aload_n hx hb dX6_takeAll_80 rfl (lv_at hl 1 rfl) ?_
  refine va_get (D := G) (ci := 6) (v := .ref imi) (C := RX6) (T := TX6) (N := 7) hx hb hts inX6 hown hK.1 hP 0 rfl rfl 4 (by decide) (hts (.fieldLink RX6 28 "NestQuery$State" "notedIs" "[Z") (by decide +kernel)) (fun _ h9 => h9) rfl dX6_takeAll_81 ?_
  refine lv_iload_n hx hb dX6_takeAll_84 rfl (lv_at hl 0 rfl) ?_
  refine lv_aload_n hx hb dX6_takeAll_85 rfl (lv_at hl 2 rfl) ?_
  refine va_get (D := G) (ci := 6) (v := .ref nwi) (C := RX6) (T := TX6) (N := 7) hx hb hts inX6 hown hK.1 hP 4 rfl rfl 4 (by decide) (hts (.fieldLink RX6 28 "NestQuery$State" "notedIs" "[Z") (by decide +kernel)) (fun _ h9 => h9) rfl dX6_takeAll_86 ?_
  refine lv_iload_n hx hb dX6_takeAll_89 rfl (lv_at hl 0 rfl) ?_
  refine va_zald hx hb hK.1 hP 6 2 rfl rfl (i := 6) (nq_in (by decide)) dX6_takeAll_90 ?_
  refine nq_top (z := 0) (rfl) ?_
  refine va_zast hx hb hK.1 hP hD hS 2 2 rfl rfl (i := 6) (nq_in (by decide)) dX6_takeAll_91 (fun H locs hP hD hS => ?_)
  have hP : va_P G vwCl [(im, .inr (6, [.ref imt, .ref imb, .int 0, .ref imn, .ref imi, .int 0, .ref imr])), (imn, .inl (y 0, 8, .inl (upd (upd (upd (upd (upd (upd (upd (fun _ => 0) 0 0) 1 0) 2 0) 3 0) 4 0) 5 0) 6 0))), (imi, .inl (y 2, 8, .inl (upd (upd (upd (upd (upd (upd (upd (fun _ => 0) 0 (vp_nar .boolean 0)) 1 (vp_nar .boolean 0)) 2 (vp_nar .boolean 0)) 3 (vp_nar .boolean 0)) 4 (vp_nar .boolean 0)) 5 (vp_nar .boolean 0)) 6 (vp_nar .boolean 0)))), (imr, .inl (y 0, 3, .inl (fun _ => 0))), (nw, .inr (6, [.ref nwt, .ref nwb, .int 0, .ref nwn, .ref nwi, .int 0, .ref nwr])), (nwn, .inl (y 0, 8, .inl (fun _ => 0))), (nwi, .inl (y 2, 8, .inl (fun _ => 0))), (nwr, .inl (y 0, 3, .inl (fun _ => 0)))] H := hP
  have hD : va_D A [(im, .inr (6, [.ref imt, .ref imb, .int 0, .ref imn, .ref imi, .int 0, .ref imr])), (imn, .inl (y 0, 8, .inl (upd (upd (upd (upd (upd (upd (upd (fun _ => 0) 0 0) 1 0) 2 0) 3 0) 4 0) 5 0) 6 0))), (imi, .inl (y 2, 8, .inl (upd (upd (upd (upd (upd (upd (upd (fun _ => 0) 0 (vp_nar .boolean 0)) 1 (vp_nar .boolean 0)) 2 (vp_nar .boolean 0)) 3 (vp_nar .boolean 0)) 4 (vp_nar .boolean 0)) 5 (vp_nar .boolean 0)) 6 (vp_nar .boolean 0)))), (imr, .inl (y 0, 3, .inl (fun _ => 0))), (nw, .inr (6, [.ref nwt, .ref nwb, .int 0, .ref nwn, .ref nwi, .int 0, .ref nwr])), (nwn, .inl (y 0, 8, .inl (fun _ => 0))), (nwi, .inl (y 2, 8, .inl (fun _ => 0))), (nwr, .inl (y 0, 3, .inl (fun _ => 0)))] := hD
  refine lv_iinc (v := 7) (lv' := [(2, .int 7), (0, .ref im), (1, .ref nw)]) hx hb dX6_takeAll_92 hl (k := 0) rfl (by decide) (by decide) rfl (fun ls hl => ?_)
  refine lv_goto (tgt := 62) hx hb dX6_takeAll_95 (by decide) ?_
  refine lv_iload_n hx hb dX6_takeAll_62 rfl (lv_at hl 0 rfl) ?_
  refine lv_bipush (v := 8) hx hb dX6_takeAll_63 (by decide) ?_
  refine lv_icmp_ge (tgt := 98) hx hb dX6_takeAll_65 (by decide) (fun c_12 => absurd c_12 (by decide)) (fun _ => ?_)
  refine lv_aload_n hx hb dX6_takeAll_68 rfl (lv_at hl 1 rfl) ?_
  refine va_get (D := G) (ci := 6) (v := .ref imn) (C := RX6) (T := TX6) (N := 7) hx hb hts inX6 hown hK.1 hP 0 rfl rfl 3 (by decide) (hts (.fieldLink RX6 24 "NestQuery$State" "notedThings" "[I") (by decide +kernel)) (fun _ h9 => h9) rfl dX6_takeAll_69 ?_
  refine lv_iload_n hx hb dX6_takeAll_72 rfl (lv_at hl 0 rfl) ?_
  refine lv_aload_n hx hb dX6_takeAll_73 rfl (lv_at hl 2 rfl) ?_
  refine va_get (D := G) (ci := 6) (v := .ref nwn) (C := RX6) (T := TX6) (N := 7) hx hb hts inX6 hown hK.1 hP 4 rfl rfl 3 (by decide) (hts (.fieldLink RX6 24 "NestQuery$State" "notedThings" "[I") (by decide +kernel)) (fun _ h9 => h9) rfl dX6_takeAll_74 ?_
  refine lv_iload_n hx hb dX6_takeAll_77 rfl (lv_at hl 0 rfl) ?_
  refine va_iald hx hb hK.1 hP 5 0 rfl rfl (i := 7) (nq_in (by decide)) dX6_takeAll_78 ?_
  refine nq_top (z := 0) (rfl) ?_
  refine va_iast hx hb hK.1 hP hD hS 1 0 rfl rfl (i := 7) (nq_in (by decide)) dX6_takeAll_79 (fun H locs hP hD hS => ?_)
  have hP : va_P G vwCl [(im, .inr (6, [.ref imt, .ref imb, .int 0, .ref imn, .ref imi, .int 0, .ref imr])), (imn, .inl (y 0, 8, .inl (upd (upd (upd (upd (upd (upd (upd (upd (fun _ => 0) 0 0) 1 0) 2 0) 3 0) 4 0) 5 0) 6 0) 7 0))), (imi, .inl (y 2, 8, .inl (upd (upd (upd (upd (upd (upd (upd (fun _ => 0) 0 (vp_nar .boolean 0)) 1 (vp_nar .boolean 0)) 2 (vp_nar .boolean 0)) 3 (vp_nar .boolean 0)) 4 (vp_nar .boolean 0)) 5 (vp_nar .boolean 0)) 6 (vp_nar .boolean 0)))), (imr, .inl (y 0, 3, .inl (fun _ => 0))), (nw, .inr (6, [.ref nwt, .ref nwb, .int 0, .ref nwn, .ref nwi, .int 0, .ref nwr])), (nwn, .inl (y 0, 8, .inl (fun _ => 0))), (nwi, .inl (y 2, 8, .inl (fun _ => 0))), (nwr, .inl (y 0, 3, .inl (fun _ => 0)))] H := hP
  have hD : va_D A [(im, .inr (6, [.ref imt, .ref imb, .int 0, .ref imn, .ref imi, .int 0, .ref imr])), (imn, .inl (y 0, 8, .inl (upd (upd (upd (upd (upd (upd (upd (upd (fun _ => 0) 0 0) 1 0) 2 0) 3 0) 4 0) 5 0) 6 0) 7 0))), (imi, .inl (y 2, 8, .inl (upd (upd (upd (upd (upd (upd (upd (fun _ => 0) 0 (vp_nar .boolean 0)) 1 (vp_nar .boolean 0)) 2 (vp_nar .boolean 0)) 3 (vp_nar .boolean 0)) 4 (vp_nar .boolean 0)) 5 (vp_nar .boolean 0)) 6 (vp_nar .boolean 0)))), (imr, .inl (y 0, 3, .inl (fun _ => 0))), (nw, .inr (6, [.ref nwt, .ref nwb, .int 0, .ref nwn, .ref nwi, .int 0, .ref nwr])), (nwn, .inl (y 0, 8, .inl (fun _ => 0))), (nwi, .inl (y 2, 8, .inl (fun _ => 0))), (nwr, .inl (y 0, 3, .inl (fun _ => 0)))] := hD
  refine lv_aload_n hx hb dX6_takeAll_80 rfl (lv_at hl 1 rfl) ?_
  refine va_get (D := G) (ci := 6) (v := .ref imi) (C := RX6) (T := TX6) (N := 7) hx hb hts inX6 hown hK.1 hP 0 rfl rfl 4 (by decide) (hts (.fieldLink RX6 28 "NestQuery$State" "notedIs" "[Z") (by decide +kernel)) (fun _ h9 => h9) rfl dX6_takeAll_81 ?_
  refine lv_iload_n hx hb dX6_takeAll_84 rfl (lv_at hl 0 rfl) ?_
  refine lv_aload_n hx hb dX6_takeAll_85 rfl (lv_at hl 2 rfl) ?_
  refine va_get (D := G) (ci := 6) (v := .ref nwi) (C := RX6) (T := TX6) (N := 7) hx hb hts inX6 hown hK.1 hP 4 rfl rfl 4 (by decide) (hts (.fieldLink RX6 28 "NestQuery$State" "notedIs" "[Z") (by decide +kernel)) (fun _ h9 => h9) rfl dX6_takeAll_86 ?_
  refine lv_iload_n hx hb dX6_takeAll_89 rfl (lv_at hl 0 rfl) ?_
  refine va_zald hx hb hK.1 hP 6 2 rfl rfl (i := 7) (nq_in (by decide)) dX6_takeAll_90 ?_
  refine nq_top (z := 0) (rfl) ?_
  refine va_zast hx hb hK.1 hP hD hS 2 2 rfl rfl (i := 7) (nq_in (by decide)) dX6_takeAll_91 (fun H locs hP hD hS => ?_)
  have hP : va_P G vwCl [(im, .inr (6, [.ref imt, .ref imb, .int 0, .ref imn, .ref imi, .int 0, .ref imr])), (imn, .inl (y 0, 8, .inl (upd (upd (upd (upd (upd (upd (upd (upd (fun _ => 0) 0 0) 1 0) 2 0) 3 0) 4 0) 5 0) 6 0) 7 0))), (imi, .inl (y 2, 8, .inl (upd (upd (upd (upd (upd (upd (upd (upd (fun _ => 0) 0 (vp_nar .boolean 0)) 1 (vp_nar .boolean 0)) 2 (vp_nar .boolean 0)) 3 (vp_nar .boolean 0)) 4 (vp_nar .boolean 0)) 5 (vp_nar .boolean 0)) 6 (vp_nar .boolean 0)) 7 (vp_nar .boolean 0)))), (imr, .inl (y 0, 3, .inl (fun _ => 0))), (nw, .inr (6, [.ref nwt, .ref nwb, .int 0, .ref nwn, .ref nwi, .int 0, .ref nwr])), (nwn, .inl (y 0, 8, .inl (fun _ => 0))), (nwi, .inl (y 2, 8, .inl (fun _ => 0))), (nwr, .inl (y 0, 3, .inl (fun _ => 0)))] H := hP
  have hD : va_D A [(im, .inr (6, [.ref imt, .ref imb, .int 0, .ref imn, .ref imi, .int 0, .ref imr])), (imn, .inl (y 0, 8, .inl (upd (upd (upd (upd (upd (upd (upd (upd (fun _ => 0) 0 0) 1 0) 2 0) 3 0) 4 0) 5 0) 6 0) 7 0))), (imi, .inl (y 2, 8, .inl (upd (upd (upd (upd (upd (upd (upd (upd (fun _ => 0) 0 (vp_nar .boolean 0)) 1 (vp_nar .boolean 0)) 2 (vp_nar .boolean 0)) 3 (vp_nar .boolean 0)) 4 (vp_nar .boolean 0)) 5 (vp_nar .boolean 0)) 6 (vp_nar .boolean 0)) 7 (vp_nar .boolean 0)))), (imr, .inl (y 0, 3, .inl (fun _ => 0))), (nw, .inr (6, [.ref nwt, .ref nwb, .int 0, .ref nwn, .ref nwi, .int 0, .ref nwr])), (nwn, .inl (y 0, 8, .inl (fun _ => 0))), (nwi, .inl (y 2, 8, .inl (fun _ => 0))), (nwr, .inl (y 0, 3, .inl (fun _ => 0)))] := hD
  refine lv_iinc (v := 8) (lv' := [(2, .int 8), (0, .ref im), (1, .ref nw)]) hx hb dX6_takeAll_92 hl (k := 0) rfl (by decide) (by decide) rfl (fun ls hl => ?_)
  refine lv_goto (tgt := 62) hx hb dX6_takeAll_95 (by decide) ?_
  refine lv_iload_n hx hb dX6_takeAll_62 rfl (lv_at hl 0 rfl) ?_
  refine lv_bipush (v := 8) hx hb dX6_takeAll_63 (by decide) ?_
  refine lv_icmp_ge (tgt := 98) hx hb dX6_takeAll_65 (by decide) (fun _ => ?_) (fun c_13 => absurd c_13 (by decide))
  refine lv_iconst (v := 0) hx hb dX6_takeAll_98 (by decide) ?_
  refine lv_istore_n (lv' := [(2, .int 0), (0, .ref im), (1, .ref nw)]) hx hb dX6_takeAll_99 rfl hl (by decide) rfl (fun ls hl => ?_)
  refine lv_iload_n hx hb dX6_takeAll_100 rfl (lv_at hl 0 rfl) ?_
  refine lv_aload_n hx hb dX6_takeAll_101 rfl (lv_at hl 1 rfl) ?_
  refine va_get (D := G) (ci := 6) (v := .ref imr) (C := RX6) (T := TX6) (N := 7) hx hb hts inX6 hown hK.1 hP 0 rfl rfl 6 (by decide) (hts (.fieldLink RX6 32 "NestQuery$State" "refused" "[I") (by decide +kernel)) (fun _ h9 => h9) rfl dX6_takeAll_102 ?_
  refine va_alen hx hb hK.1 hP 3 0 rfl rfl (v := 3) rfl dX6_takeAll_105 ?_
  refine lv_icmp_ge (tgt := 136) hx hb dX6_takeAll_106 (by decide) (fun c_14 => absurd c_14 (by decide)) (fun _ => ?_)
  refine lv_iload_n hx hb dX6_takeAll_109 rfl (lv_at hl 0 rfl) ?_
  refine lv_aload_n hx hb dX6_takeAll_110 rfl (lv_at hl 2 rfl) ?_
  refine va_get (D := G) (ci := 6) (v := .ref nwr) (C := RX6) (T := TX6) (N := 7) hx hb hts inX6 hown hK.1 hP 4 rfl rfl 6 (by decide) (hts (.fieldLink RX6 32 "NestQuery$State" "refused" "[I") (by decide +kernel)) (fun _ h9 => h9) rfl dX6_takeAll_111 ?_
  refine va_alen hx hb hK.1 hP 7 0 rfl rfl (v := 3) rfl dX6_takeAll_114 ?_
  refine lv_icmp_ge (tgt := 136) hx hb dX6_takeAll_115 (by decide) (fun c_15 => absurd c_15 (by decide)) (fun _ => ?_)
  refine lv_aload_n hx hb dX6_takeAll_118 rfl (lv_at hl 1 rfl) ?_
  refine va_get (D := G) (ci := 6) (v := .ref imr) (C := RX6) (T := TX6) (N := 7) hx hb hts inX6 hown hK.1 hP 0 rfl rfl 6 (by decide) (hts (.fieldLink RX6 32 "NestQuery$State" "refused" "[I") (by decide +kernel)) (fun _ h9 => h9) rfl dX6_takeAll_119 ?_
  refine lv_iload_n hx hb dX6_takeAll_122 rfl (lv_at hl 0 rfl) ?_
  refine lv_aload_n hx hb dX6_takeAll_123 rfl (lv_at hl 2 rfl) ?_
  refine va_get (D := G) (ci := 6) (v := .ref nwr) (C := RX6) (T := TX6) (N := 7) hx hb hts inX6 hown hK.1 hP 4 rfl rfl 6 (by decide) (hts (.fieldLink RX6 32 "NestQuery$State" "refused" "[I") (by decide +kernel)) (fun _ h9 => h9) rfl dX6_takeAll_124 ?_
  refine lv_iload_n hx hb dX6_takeAll_127 rfl (lv_at hl 0 rfl) ?_
  refine va_iald hx hb hK.1 hP 7 0 rfl rfl (i := 0) (nq_in (by decide)) dX6_takeAll_128 ?_
  refine nq_top (z := 0) (rfl) ?_
  refine va_iast hx hb hK.1 hP hD hS 3 0 rfl rfl (i := 0) (nq_in (by decide)) dX6_takeAll_129 (fun H locs hP hD hS => ?_)
  have hP : va_P G vwCl [(im, .inr (6, [.ref imt, .ref imb, .int 0, .ref imn, .ref imi, .int 0, .ref imr])), (imn, .inl (y 0, 8, .inl (upd (upd (upd (upd (upd (upd (upd (upd (fun _ => 0) 0 0) 1 0) 2 0) 3 0) 4 0) 5 0) 6 0) 7 0))), (imi, .inl (y 2, 8, .inl (upd (upd (upd (upd (upd (upd (upd (upd (fun _ => 0) 0 (vp_nar .boolean 0)) 1 (vp_nar .boolean 0)) 2 (vp_nar .boolean 0)) 3 (vp_nar .boolean 0)) 4 (vp_nar .boolean 0)) 5 (vp_nar .boolean 0)) 6 (vp_nar .boolean 0)) 7 (vp_nar .boolean 0)))), (imr, .inl (y 0, 3, .inl (upd (fun _ => 0) 0 0))), (nw, .inr (6, [.ref nwt, .ref nwb, .int 0, .ref nwn, .ref nwi, .int 0, .ref nwr])), (nwn, .inl (y 0, 8, .inl (fun _ => 0))), (nwi, .inl (y 2, 8, .inl (fun _ => 0))), (nwr, .inl (y 0, 3, .inl (fun _ => 0)))] H := hP
  have hD : va_D A [(im, .inr (6, [.ref imt, .ref imb, .int 0, .ref imn, .ref imi, .int 0, .ref imr])), (imn, .inl (y 0, 8, .inl (upd (upd (upd (upd (upd (upd (upd (upd (fun _ => 0) 0 0) 1 0) 2 0) 3 0) 4 0) 5 0) 6 0) 7 0))), (imi, .inl (y 2, 8, .inl (upd (upd (upd (upd (upd (upd (upd (upd (fun _ => 0) 0 (vp_nar .boolean 0)) 1 (vp_nar .boolean 0)) 2 (vp_nar .boolean 0)) 3 (vp_nar .boolean 0)) 4 (vp_nar .boolean 0)) 5 (vp_nar .boolean 0)) 6 (vp_nar .boolean 0)) 7 (vp_nar .boolean 0)))), (imr, .inl (y 0, 3, .inl (upd (fun _ => 0) 0 0))), (nw, .inr (6, [.ref nwt, .ref nwb, .int 0, .ref nwn, .ref nwi, .int 0, .ref nwr])), (nwn, .inl (y 0, 8, .inl (fun _ => 0))), (nwi, .inl (y 2, 8, .inl (fun _ => 0))), (nwr, .inl (y 0, 3, .inl (fun _ => 0)))] := hD
  refine lv_iinc (v := 1) (lv' := [(2, .int 1), (0, .ref im), (1, .ref nw)]) hx hb dX6_takeAll_130 hl (k := 0) rfl (by decide) (by decide) rfl (fun ls hl => ?_)
  refine lv_goto (tgt := 100) hx hb dX6_takeAll_133 (by decide) ?_
  refine lv_iload_n hx hb dX6_takeAll_100 rfl (lv_at hl 0 rfl) ?_
  refine lv_aload_n hx hb dX6_takeAll_101 rfl (lv_at hl 1 rfl) ?_
  refine va_get (D := G) (ci := 6) (v := .ref imr) (C := RX6) (T := TX6) (N := 7) hx hb hts inX6 hown hK.1 hP 0 rfl rfl 6 (by decide) (hts (.fieldLink RX6 32 "NestQuery$State" "refused" "[I") (by decide +kernel)) (fun _ h9 => h9) rfl dX6_takeAll_102 ?_
  refine va_alen hx hb hK.1 hP 3 0 rfl rfl (v := 3) rfl dX6_takeAll_105 ?_
  refine lv_icmp_ge (tgt := 136) hx hb dX6_takeAll_106 (by decide) (fun c_16 => absurd c_16 (by decide)) (fun _ => ?_)
  refine lv_iload_n hx hb dX6_takeAll_109 rfl (lv_at hl 0 rfl) ?_
  refine lv_aload_n hx hb dX6_takeAll_110 rfl (lv_at hl 2 rfl) ?_
  refine va_get (D := G) (ci := 6) (v := .ref nwr) (C := RX6) (T := TX6) (N := 7) hx hb hts inX6 hown hK.1 hP 4 rfl rfl 6 (by decide) (hts (.fieldLink RX6 32 "NestQuery$State" "refused" "[I") (by decide +kernel)) (fun _ h9 => h9) rfl dX6_takeAll_111 ?_
  refine va_alen hx hb hK.1 hP 7 0 rfl rfl (v := 3) rfl dX6_takeAll_114 ?_
  refine lv_icmp_ge (tgt := 136) hx hb dX6_takeAll_115 (by decide) (fun c_17 => absurd c_17 (by decide)) (fun _ => ?_)
  refine lv_aload_n hx hb dX6_takeAll_118 rfl (lv_at hl 1 rfl) ?_
  refine va_get (D := G) (ci := 6) (v := .ref imr) (C := RX6) (T := TX6) (N := 7) hx hb hts inX6 hown hK.1 hP 0 rfl rfl 6 (by decide) (hts (.fieldLink RX6 32 "NestQuery$State" "refused" "[I") (by decide +kernel)) (fun _ h9 => h9) rfl dX6_takeAll_119 ?_
  refine lv_iload_n hx hb dX6_takeAll_122 rfl (lv_at hl 0 rfl) ?_
  refine lv_aload_n hx hb dX6_takeAll_123 rfl (lv_at hl 2 rfl) ?_
  refine va_get (D := G) (ci := 6) (v := .ref nwr) (C := RX6) (T := TX6) (N := 7) hx hb hts inX6 hown hK.1 hP 4 rfl rfl 6 (by decide) (hts (.fieldLink RX6 32 "NestQuery$State" "refused" "[I") (by decide +kernel)) (fun _ h9 => h9) rfl dX6_takeAll_124 ?_
  refine lv_iload_n hx hb dX6_takeAll_127 rfl (lv_at hl 0 rfl) ?_
  refine va_iald hx hb hK.1 hP 7 0 rfl rfl (i := 1) (nq_in (by decide)) dX6_takeAll_128 ?_
  refine nq_top (z := 0) (rfl) ?_
  refine va_iast hx hb hK.1 hP hD hS 3 0 rfl rfl (i := 1) (nq_in (by decide)) dX6_takeAll_129 (fun H locs hP hD hS => ?_)
  have hP : va_P G vwCl [(im, .inr (6, [.ref imt, .ref imb, .int 0, .ref imn, .ref imi, .int 0, .ref imr])), (imn, .inl (y 0, 8, .inl (upd (upd (upd (upd (upd (upd (upd (upd (fun _ => 0) 0 0) 1 0) 2 0) 3 0) 4 0) 5 0) 6 0) 7 0))), (imi, .inl (y 2, 8, .inl (upd (upd (upd (upd (upd (upd (upd (upd (fun _ => 0) 0 (vp_nar .boolean 0)) 1 (vp_nar .boolean 0)) 2 (vp_nar .boolean 0)) 3 (vp_nar .boolean 0)) 4 (vp_nar .boolean 0)) 5 (vp_nar .boolean 0)) 6 (vp_nar .boolean 0)) 7 (vp_nar .boolean 0)))), (imr, .inl (y 0, 3, .inl (upd (upd (fun _ => 0) 0 0) 1 0))), (nw, .inr (6, [.ref nwt, .ref nwb, .int 0, .ref nwn, .ref nwi, .int 0, .ref nwr])), (nwn, .inl (y 0, 8, .inl (fun _ => 0))), (nwi, .inl (y 2, 8, .inl (fun _ => 0))), (nwr, .inl (y 0, 3, .inl (fun _ => 0)))] H := hP
  have hD : va_D A [(im, .inr (6, [.ref imt, .ref imb, .int 0, .ref imn, .ref imi, .int 0, .ref imr])), (imn, .inl (y 0, 8, .inl (upd (upd (upd (upd (upd (upd (upd (upd (fun _ => 0) 0 0) 1 0) 2 0) 3 0) 4 0) 5 0) 6 0) 7 0))), (imi, .inl (y 2, 8, .inl (upd (upd (upd (upd (upd (upd (upd (upd (fun _ => 0) 0 (vp_nar .boolean 0)) 1 (vp_nar .boolean 0)) 2 (vp_nar .boolean 0)) 3 (vp_nar .boolean 0)) 4 (vp_nar .boolean 0)) 5 (vp_nar .boolean 0)) 6 (vp_nar .boolean 0)) 7 (vp_nar .boolean 0)))), (imr, .inl (y 0, 3, .inl (upd (upd (fun _ => 0) 0 0) 1 0))), (nw, .inr (6, [.ref nwt, .ref nwb, .int 0, .ref nwn, .ref nwi, .int 0, .ref nwr])), (nwn, .inl (y 0, 8, .inl (fun _ => 0))), (nwi, .inl (y 2, 8, .inl (fun _ => 0))), (nwr, .inl (y 0, 3, .inl (fun _ => 0)))] := hD
  refine lv_iinc (v := 2) (lv' := [(2, .int 2), (0, .ref im), (1, .ref nw)]) hx hb dX6_takeAll_130 hl (k := 0) rfl (by decide) (by decide) rfl (fun ls hl => ?_)
  refine lv_goto (tgt := 100) hx hb dX6_takeAll_133 (by decide) ?_
  refine lv_iload_n hx hb dX6_takeAll_100 rfl (lv_at hl 0 rfl) ?_
  refine lv_aload_n hx hb dX6_takeAll_101 rfl (lv_at hl 1 rfl) ?_
  refine va_get (D := G) (ci := 6) (v := .ref imr) (C := RX6) (T := TX6) (N := 7) hx hb hts inX6 hown hK.1 hP 0 rfl rfl 6 (by decide) (hts (.fieldLink RX6 32 "NestQuery$State" "refused" "[I") (by decide +kernel)) (fun _ h9 => h9) rfl dX6_takeAll_102 ?_
  refine va_alen hx hb hK.1 hP 3 0 rfl rfl (v := 3) rfl dX6_takeAll_105 ?_
  refine lv_icmp_ge (tgt := 136) hx hb dX6_takeAll_106 (by decide) (fun c_18 => absurd c_18 (by decide)) (fun _ => ?_)
  refine lv_iload_n hx hb dX6_takeAll_109 rfl (lv_at hl 0 rfl) ?_
  refine lv_aload_n hx hb dX6_takeAll_110 rfl (lv_at hl 2 rfl) ?_
  refine va_get (D := G) (ci := 6) (v := .ref nwr) (C := RX6) (T := TX6) (N := 7) hx hb hts inX6 hown hK.1 hP 4 rfl rfl 6 (by decide) (hts (.fieldLink RX6 32 "NestQuery$State" "refused" "[I") (by decide +kernel)) (fun _ h9 => h9) rfl dX6_takeAll_111 ?_
  refine va_alen hx hb hK.1 hP 7 0 rfl rfl (v := 3) rfl dX6_takeAll_114 ?_
  refine lv_icmp_ge (tgt := 136) hx hb dX6_takeAll_115 (by decide) (fun c_19 => absurd c_19 (by decide)) (fun _ => ?_)
  refine lv_aload_n hx hb dX6_takeAll_118 rfl (lv_at hl 1 rfl) ?_
  refine va_get (D := G) (ci := 6) (v := .ref imr) (C := RX6) (T := TX6) (N := 7) hx hb hts inX6 hown hK.1 hP 0 rfl rfl 6 (by decide) (hts (.fieldLink RX6 32 "NestQuery$State" "refused" "[I") (by decide +kernel)) (fun _ h9 => h9) rfl dX6_takeAll_119 ?_
  refine lv_iload_n hx hb dX6_takeAll_122 rfl (lv_at hl 0 rfl) ?_
  refine lv_aload_n hx hb dX6_takeAll_123 rfl (lv_at hl 2 rfl) ?_
  refine va_get (D := G) (ci := 6) (v := .ref nwr) (C := RX6) (T := TX6) (N := 7) hx hb hts inX6 hown hK.1 hP 4 rfl rfl 6 (by decide) (hts (.fieldLink RX6 32 "NestQuery$State" "refused" "[I") (by decide +kernel)) (fun _ h9 => h9) rfl dX6_takeAll_124 ?_
  refine lv_iload_n hx hb dX6_takeAll_127 rfl (lv_at hl 0 rfl) ?_
  refine va_iald hx hb hK.1 hP 7 0 rfl rfl (i := 2) (nq_in (by decide)) dX6_takeAll_128 ?_
  refine nq_top (z := 0) (rfl) ?_
  refine va_iast hx hb hK.1 hP hD hS 3 0 rfl rfl (i := 2) (nq_in (by decide)) dX6_takeAll_129 (fun H locs hP hD hS => ?_)
  have hP : va_P G vwCl [(im, .inr (6, [.ref imt, .ref imb, .int 0, .ref imn, .ref imi, .int 0, .ref imr])), (imn, .inl (y 0, 8, .inl (upd (upd (upd (upd (upd (upd (upd (upd (fun _ => 0) 0 0) 1 0) 2 0) 3 0) 4 0) 5 0) 6 0) 7 0))), (imi, .inl (y 2, 8, .inl (upd (upd (upd (upd (upd (upd (upd (upd (fun _ => 0) 0 (vp_nar .boolean 0)) 1 (vp_nar .boolean 0)) 2 (vp_nar .boolean 0)) 3 (vp_nar .boolean 0)) 4 (vp_nar .boolean 0)) 5 (vp_nar .boolean 0)) 6 (vp_nar .boolean 0)) 7 (vp_nar .boolean 0)))), (imr, .inl (y 0, 3, .inl (upd (upd (upd (fun _ => 0) 0 0) 1 0) 2 0))), (nw, .inr (6, [.ref nwt, .ref nwb, .int 0, .ref nwn, .ref nwi, .int 0, .ref nwr])), (nwn, .inl (y 0, 8, .inl (fun _ => 0))), (nwi, .inl (y 2, 8, .inl (fun _ => 0))), (nwr, .inl (y 0, 3, .inl (fun _ => 0)))] H := hP
  have hD : va_D A [(im, .inr (6, [.ref imt, .ref imb, .int 0, .ref imn, .ref imi, .int 0, .ref imr])), (imn, .inl (y 0, 8, .inl (upd (upd (upd (upd (upd (upd (upd (upd (fun _ => 0) 0 0) 1 0) 2 0) 3 0) 4 0) 5 0) 6 0) 7 0))), (imi, .inl (y 2, 8, .inl (upd (upd (upd (upd (upd (upd (upd (upd (fun _ => 0) 0 (vp_nar .boolean 0)) 1 (vp_nar .boolean 0)) 2 (vp_nar .boolean 0)) 3 (vp_nar .boolean 0)) 4 (vp_nar .boolean 0)) 5 (vp_nar .boolean 0)) 6 (vp_nar .boolean 0)) 7 (vp_nar .boolean 0)))), (imr, .inl (y 0, 3, .inl (upd (upd (upd (fun _ => 0) 0 0) 1 0) 2 0))), (nw, .inr (6, [.ref nwt, .ref nwb, .int 0, .ref nwn, .ref nwi, .int 0, .ref nwr])), (nwn, .inl (y 0, 8, .inl (fun _ => 0))), (nwi, .inl (y 2, 8, .inl (fun _ => 0))), (nwr, .inl (y 0, 3, .inl (fun _ => 0)))] := hD
  refine lv_iinc (v := 3) (lv' := [(2, .int 3), (0, .ref im), (1, .ref nw)]) hx hb dX6_takeAll_130 hl (k := 0) rfl (by decide) (by decide) rfl (fun ls hl => ?_)
  refine lv_goto (tgt := 100) hx hb dX6_takeAll_133 (by decide) ?_
  refine lv_iload_n hx hb dX6_takeAll_100 rfl (lv_at hl 0 rfl) ?_
  refine lv_aload_n hx hb dX6_takeAll_101 rfl (lv_at hl 1 rfl) ?_
  refine va_get (D := G) (ci := 6) (v := .ref imr) (C := RX6) (T := TX6) (N := 7) hx hb hts inX6 hown hK.1 hP 0 rfl rfl 6 (by decide) (hts (.fieldLink RX6 32 "NestQuery$State" "refused" "[I") (by decide +kernel)) (fun _ h9 => h9) rfl dX6_takeAll_102 ?_
  refine va_alen hx hb hK.1 hP 3 0 rfl rfl (v := 3) rfl dX6_takeAll_105 ?_
  refine lv_icmp_ge (tgt := 136) hx hb dX6_takeAll_106 (by decide) (fun _ => ?_) (fun c_20 => absurd c_20 (by decide))
  have hP9 := hP.sub (ws' := []) [] rfl
  have hD9 := hD.sub (ws' := []) [] (by decide) rfl
  refine W.widen (k := 0) (n := 0) (Nat.le_of_ble_eq_true rfl) (Nat.le_of_ble_eq_true rfl) ?_
  exact W.vret hx hb hr (fun t ht hW => ⟨⟨(), rfl, trivial, by rw [ht]; exact hP9, by first | exact hD9 | (rw [hAe]; exact hD9)⟩, hS.F ht⟩) hS.2.2 dX6_takeAll_136

set_option maxHeartbeats 400000 in
set_option maxRecDepth 100000 in
theorem x_image (l : Launch) (G : va_G) (y : Nat → ClassId) (sz : Nat) (h0 : Nat) (tp : Nat) (ps : Nat) (sp : Nat) (tk : Nat) (dr : Nat) (pr : Nat) (da : Nat) (nw : Nat) (im : Nat) (ac : Nat) (ke : Nat) (si : Nat) (tx : Nat) (an : Nat) (dw : Nat) (imt : Nat) (imb : Nat) (imn : Nat) (imi : Nat) (imr : Nat) (imtk : Nat) (imtv : Nat) (imte : Nat) (imtd : Nat) (nwt : Nat) (nwb : Nat) (nwn : Nat) (nwi : Nat) (nwr : Nat) (nwtk : Nat) (nwtv : Nat) (nwte : Nat) (nwtd : Nat)  : Met l yX10_image wsX10_image ({ frames := 3, cells := 0, slots := 0, locals := 104 }) (nq_P G y sz [.ref h0] [(h0, .inr (10, [.ref tp, .int 0, .int (-1), .ref ps, .ref sp, .ref tk, .ref dr, .ref pr, .ref da, .ref nw, .ref im, .int 0, .ref ac, .ref ke, .ref si, .ref tx, .ref an, .ref dw])), (im, .inr (6, [.ref imt, .ref imb, .int 0, .ref imn, .ref imi, .int 0, .ref imr])), (imt, .inr (9, [.ref imtk, .ref imtv, .ref imte, .ref imtd, .int 0])), (imtk, .inl (y 0, 60, .inl (fun _ => 0))), (imtv, .inl (y 0, 60, .inl (fun _ => 0))), (imte, .inl (y 0, 60, .inl (fun _ => 0))), (imtd, .inl (y 0, 60, .inl (fun _ => 0))), (imn, .inl (y 0, 8, .inl (fun _ => 0))), (imi, .inl (y 2, 8, .inl (fun _ => 0))), (imr, .inl (y 0, 3, .inl (fun _ => 0))), (nw, .inr (6, [.ref nwt, .ref nwb, .int 0, .ref nwn, .ref nwi, .int 0, .ref nwr])), (nwt, .inr (9, [.ref nwtk, .ref nwtv, .ref nwte, .ref nwtd, .int 1])), (nwtk, .inl (y 0, 60, .inl (upd (fun _ => 0) 0 3))), (nwtv, .inl (y 0, 60, .inl (upd (fun _ => 0) 0 0))), (nwte, .inl (y 0, 60, .inl (upd (fun _ => 0) 0 0))), (nwtd, .inl (y 0, 60, .inl (upd (fun _ => 0) 0 0))), (nwn, .inl (y 0, 8, .inl (fun _ => 0))), (nwi, .inl (y 2, 8, .inl (fun _ => 0))), (nwr, .inl (y 0, 3, .inl (fun _ => 0)))]) (va_Qv (fun (_ : Unit) => True) (fun (u : Unit) t9 => va_P G vwCl ([]) t9.heap ∧ va_D (va_A [(h0, .inr (10, [.ref tp, .int 0, .int (-1), .ref ps, .ref sp, .ref tk, .ref dr, .ref pr, .ref da, .ref nw, .ref im, .int 0, .ref ac, .ref ke, .ref si, .ref tx, .ref an, .ref dw])), (im, .inr (6, [.ref imt, .ref imb, .int 0, .ref imn, .ref imi, .int 0, .ref imr])), (imt, .inr (9, [.ref imtk, .ref imtv, .ref imte, .ref imtd, .int 0])), (imtk, .inl (y 0, 60, .inl (fun _ => 0))), (imtv, .inl (y 0, 60, .inl (fun _ => 0))), (imte, .inl (y 0, 60, .inl (fun _ => 0))), (imtd, .inl (y 0, 60, .inl (fun _ => 0))), (imn, .inl (y 0, 8, .inl (fun _ => 0))), (imi, .inl (y 2, 8, .inl (fun _ => 0))), (imr, .inl (y 0, 3, .inl (fun _ => 0))), (nw, .inr (6, [.ref nwt, .ref nwb, .int 0, .ref nwn, .ref nwi, .int 0, .ref nwr])), (nwt, .inr (9, [.ref nwtk, .ref nwtv, .ref nwte, .ref nwtd, .int 1])), (nwtk, .inl (y 0, 60, .inl (upd (fun _ => 0) 0 3))), (nwtv, .inl (y 0, 60, .inl (upd (fun _ => 0) 0 0))), (nwte, .inl (y 0, 60, .inl (upd (fun _ => 0) 0 0))), (nwtd, .inl (y 0, 60, .inl (upd (fun _ => 0) 0 0))), (nwn, .inl (y 0, 8, .inl (fun _ => 0))), (nwi, .inl (y 2, 8, .inl (fun _ => 0))), (nwr, .inl (y 0, 3, .inl (fun _ => 0)))] sz) ([])) (va_A [(h0, .inr (10, [.ref tp, .int 0, .int (-1), .ref ps, .ref sp, .ref tk, .ref dr, .ref pr, .ref da, .ref nw, .ref im, .int 0, .ref ac, .ref ke, .ref si, .ref tx, .ref an, .ref dw])), (im, .inr (6, [.ref imt, .ref imb, .int 0, .ref imn, .ref imi, .int 0, .ref imr])), (imt, .inr (9, [.ref imtk, .ref imtv, .ref imte, .ref imtd, .int 0])), (imtk, .inl (y 0, 60, .inl (fun _ => 0))), (imtv, .inl (y 0, 60, .inl (fun _ => 0))), (imte, .inl (y 0, 60, .inl (fun _ => 0))), (imtd, .inl (y 0, 60, .inl (fun _ => 0))), (imn, .inl (y 0, 8, .inl (fun _ => 0))), (imi, .inl (y 2, 8, .inl (fun _ => 0))), (imr, .inl (y 0, 3, .inl (fun _ => 0))), (nw, .inr (6, [.ref nwt, .ref nwb, .int 0, .ref nwn, .ref nwi, .int 0, .ref nwr])), (nwt, .inr (9, [.ref nwtk, .ref nwtv, .ref nwte, .ref nwtd, .int 1])), (nwtk, .inl (y 0, 60, .inl (upd (fun _ => 0) 0 3))), (nwtv, .inl (y 0, 60, .inl (upd (fun _ => 0) 0 0))), (nwte, .inl (y 0, 60, .inl (upd (fun _ => 0) 0 0))), (nwtd, .inl (y 0, 60, .inl (upd (fun _ => 0) 0 0))), (nwn, .inl (y 0, 8, .inl (fun _ => 0))), (nwi, .inl (y 2, 8, .inl (fun _ => 0))), (nwr, .inl (y 0, 3, .inl (fun _ => 0)))] sz)) 0 0 (va_A [(h0, .inr (10, [.ref tp, .int 0, .int (-1), .ref ps, .ref sp, .ref tk, .ref dr, .ref pr, .ref da, .ref nw, .ref im, .int 0, .ref ac, .ref ke, .ref si, .ref tx, .ref an, .ref dw])), (im, .inr (6, [.ref imt, .ref imb, .int 0, .ref imn, .ref imi, .int 0, .ref imr])), (imt, .inr (9, [.ref imtk, .ref imtv, .ref imte, .ref imtd, .int 0])), (imtk, .inl (y 0, 60, .inl (fun _ => 0))), (imtv, .inl (y 0, 60, .inl (fun _ => 0))), (imte, .inl (y 0, 60, .inl (fun _ => 0))), (imtd, .inl (y 0, 60, .inl (fun _ => 0))), (imn, .inl (y 0, 8, .inl (fun _ => 0))), (imi, .inl (y 2, 8, .inl (fun _ => 0))), (imr, .inl (y 0, 3, .inl (fun _ => 0))), (nw, .inr (6, [.ref nwt, .ref nwb, .int 0, .ref nwn, .ref nwi, .int 0, .ref nwr])), (nwt, .inr (9, [.ref nwtk, .ref nwtv, .ref nwte, .ref nwtd, .int 1])), (nwtk, .inl (y 0, 60, .inl (upd (fun _ => 0) 0 3))), (nwtv, .inl (y 0, 60, .inl (upd (fun _ => 0) 0 0))), (nwte, .inl (y 0, 60, .inl (upd (fun _ => 0) 0 0))), (nwtd, .inl (y 0, 60, .inl (upd (fun _ => 0) 0 0))), (nwn, .inl (y 0, 8, .inl (fun _ => 0))), (nwi, .inl (y 2, 8, .inl (fun _ => 0))), (nwr, .inl (y 0, 3, .inl (fun _ => 0)))] sz) := by
  refine Met.ofW (cc := cX10_image) (maxL := 1) (ret := none) (by decide) rfl ?_
  intro p e s m args below meth c s₁ B hml hv
  obtain ⟨rfl, hsz, hP, hK, hD0⟩ := hv
  have hx := B.exec
  have hb := B.bytes
  have hr := B.returns
  have hts := atoms_spec (ws := wsX10_image) B.pre
  have hown : s.vm.findClass RX10 = some m.cls := findClass_of_methodNamed B.named
  have hlocks := B.notSynchronized
  subst hsz
  have hD := hD0.self (sz := s.heap.size)
  generalize hAe : va_A [(h0, .inr (10, [.ref tp, .int 0, .int (-1), .ref ps, .ref sp, .ref tk, .ref dr, .ref pr, .ref da, .ref nw, .ref im, .int 0, .ref ac, .ref ke, .ref si, .ref tx, .ref an, .ref dw])), (im, .inr (6, [.ref imt, .ref imb, .int 0, .ref imn, .ref imi, .int 0, .ref imr])), (imt, .inr (9, [.ref imtk, .ref imtv, .ref imte, .ref imtd, .int 0])), (imtk, .inl (y 0, 60, .inl (fun _ => 0))), (imtv, .inl (y 0, 60, .inl (fun _ => 0))), (imte, .inl (y 0, 60, .inl (fun _ => 0))), (imtd, .inl (y 0, 60, .inl (fun _ => 0))), (imn, .inl (y 0, 8, .inl (fun _ => 0))), (imi, .inl (y 2, 8, .inl (fun _ => 0))), (imr, .inl (y 0, 3, .inl (fun _ => 0))), (nw, .inr (6, [.ref nwt, .ref nwb, .int 0, .ref nwn, .ref nwi, .int 0, .ref nwr])), (nwt, .inr (9, [.ref nwtk, .ref nwtv, .ref nwte, .ref nwtd, .int 1])), (nwtk, .inl (y 0, 60, .inl (upd (fun _ => 0) 0 3))), (nwtv, .inl (y 0, 60, .inl (upd (fun _ => 0) 0 0))), (nwte, .inl (y 0, 60, .inl (upd (fun _ => 0) 0 0))), (nwtd, .inl (y 0, 60, .inl (upd (fun _ => 0) 0 0))), (nwn, .inl (y 0, 8, .inl (fun _ => 0))), (nwi, .inl (y 2, 8, .inl (fun _ => 0))), (nwr, .inl (y 0, 3, .inl (fun _ => 0)))] s.heap.size = A at hD ⊢
  have hA : ∀ q : Nat, s.heap.size ≤ q → A q := fun q h => by rw [← hAe]; exact Or.inr h
  have hS : va_S A s.heap s.heap [] := va_S.rf
  have hP : va_P G vwCl [(h0, .inr (10, [.ref tp, .int 0, .int (-1), .ref ps, .ref sp, .ref tk, .ref dr, .ref pr, .ref da, .ref nw, .ref im, .int 0, .ref ac, .ref ke, .ref si, .ref tx, .ref an, .ref dw])), (im, .inr (6, [.ref imt, .ref imb, .int 0, .ref imn, .ref imi, .int 0, .ref imr])), (imt, .inr (9, [.ref imtk, .ref imtv, .ref imte, .ref imtd, .int 0])), (imtk, .inl (y 0, 60, .inl (fun _ => 0))), (imtv, .inl (y 0, 60, .inl (fun _ => 0))), (imte, .inl (y 0, 60, .inl (fun _ => 0))), (imtd, .inl (y 0, 60, .inl (fun _ => 0))), (imn, .inl (y 0, 8, .inl (fun _ => 0))), (imi, .inl (y 2, 8, .inl (fun _ => 0))), (imr, .inl (y 0, 3, .inl (fun _ => 0))), (nw, .inr (6, [.ref nwt, .ref nwb, .int 0, .ref nwn, .ref nwi, .int 0, .ref nwr])), (nwt, .inr (9, [.ref nwtk, .ref nwtv, .ref nwte, .ref nwtd, .int 1])), (nwtk, .inl (y 0, 60, .inl (upd (fun _ => 0) 0 3))), (nwtv, .inl (y 0, 60, .inl (upd (fun _ => 0) 0 0))), (nwte, .inl (y 0, 60, .inl (upd (fun _ => 0) 0 0))), (nwtd, .inl (y 0, 60, .inl (upd (fun _ => 0) 0 0))), (nwn, .inl (y 0, 8, .inl (fun _ => 0))), (nwi, .inl (y 2, 8, .inl (fun _ => 0))), (nwr, .inl (y 0, 3, .inl (fun _ => 0)))] s.heap := hP
  have inX10 : ∀ w ∈ wsX100, w ∈ wsX10_image := by decide +kernel
  have hl := lv_entry ([.ref h0]) (n := 1) (Nat.le_of_ble_eq_true rfl)
  rw [lg_entry_eq]
  generalize (lg_sl ([.ref h0]) ++ List.replicate (1 - (lg_sl ([.ref h0])).length) Slot.unset).toArray = ls at hl ⊢
  have hl : lv_has ls 1 [(0, .ref h0)] := hl
  refine lv_aload_n hx hb dX10_image_0 rfl (lv_at hl 0 rfl) ?_
  refine va_get (D := G) (ci := 10) (v := .ref im) (C := RX10) (T := TX10) (N := 18) hx hb hts inX10 hown hK.1 hP 0 rfl rfl 10 (by decide) (hts (.fieldLink RX10 67 "NestQuery" "imaged" "LNestQuery$State;") (by decide +kernel)) (fun _ h9 => h9) rfl dX10_image_1 ?_
  refine lv_aload_n hx hb dX10_image_4 rfl (lv_at hl 0 rfl) ?_
  refine va_get (D := G) (ci := 10) (v := .ref nw) (C := RX10) (T := TX10) (N := 18) hx hb hts inX10 hown hK.1 hP 0 rfl rfl 9 (by decide) (hts (.fieldLink RX10 63 "NestQuery" "now" "LNestQuery$State;") (by decide +kernel)) (fun _ h9 => h9) rfl dX10_image_5 ?_
  refine nq_wrv (wr := [(h0, .inr (10, [.ref tp, .int 0, .int (-1), .ref ps, .ref sp, .ref tk, .ref dr, .ref pr, .ref da, .ref nw, .ref im, .int 0, .ref ac, .ref ke, .ref si, .ref tx, .ref an, .ref dw]))]) (va_runV (As := [.ref nw]) (rest := []) ⟨hx, hb, hml, hown, hts⟩ (c_takeAll l G y s.heap.size im imt imb imn imi imr imtk imtv imte imtd nw nwt nwb nwn nwi nwr nwtk nwtv nwte nwtd ) (cwV 1 hts gX10_image_X6_takeAll rfl rfl rfl (by decide +kernel) ⟨Nat.le_of_ble_eq_true rfl, Nat.le_of_ble_eq_true rfl⟩) (nq_PV hK hP hD [1, 2, 3, 4, 5, 6, 7, 8, 9, 10, 11, 12, 13, 14, 15, 16, 17, 18] rfl rfl 1 rfl rfl) rfl rfl hl.1 rfl (lv_room (Nat.le_of_ble_eq_true rfl)) dX10_image_8 ⟨Nat.le_of_ble_eq_true rfl, Nat.le_of_ble_eq_true rfl⟩) hP hD hS hA [1, 2, 3, 4, 5, 6, 7, 8, 9, 10, 11, 12, 13, 14, 15, 16, 17, 18] [0] rfl rfl (by decide) (by decide) (fun u_1 H locs hw_2 hP hD hS => ?_)
  have hP : va_P G vwCl [(h0, .inr (10, [.ref tp, .int 0, .int (-1), .ref ps, .ref sp, .ref tk, .ref dr, .ref pr, .ref da, .ref nw, .ref im, .int 0, .ref ac, .ref ke, .ref si, .ref tx, .ref an, .ref dw]))] H := hP
  have hD : va_D A [(h0, .inr (10, [.ref tp, .int 0, .int (-1), .ref ps, .ref sp, .ref tk, .ref dr, .ref pr, .ref da, .ref nw, .ref im, .int 0, .ref ac, .ref ke, .ref si, .ref tx, .ref an, .ref dw]))] := hD
  refine lv_aload_n hx hb dX10_image_11 rfl (lv_at hl 0 rfl) ?_
  refine lv_iconst (v := 1) hx hb dX10_image_12 (by decide) ?_
  refine va_put (D := G) (ci := 10) (v := .int 1) (ty := .boolean) (C := RX10) (T := TX10) (N := 18) hx hb hts inX10 tyX10 tyX10_ok nmX10 hown hK.1 hP hD hS 0 rfl rfl 11 (by decide) (hts (.fieldLink RX10 145 "NestQuery" "imageThere" "Z") (by decide +kernel)) (fun _ h9 => h9) rfl (by decide +kernel) (by decide) rfl (Nat.le_of_ble_eq_true rfl) dX10_image_13 (fun H locs hP hD hS => ?_)
  have hP : va_P G vwCl [(h0, .inr (10, [.ref tp, .int 0, .int (-1), .ref ps, .ref sp, .ref tk, .ref dr, .ref pr, .ref da, .ref nw, .ref im, .int 1, .ref ac, .ref ke, .ref si, .ref tx, .ref an, .ref dw]))] H := hP
  have hD : va_D A [(h0, .inr (10, [.ref tp, .int 0, .int (-1), .ref ps, .ref sp, .ref tk, .ref dr, .ref pr, .ref da, .ref nw, .ref im, .int 1, .ref ac, .ref ke, .ref si, .ref tx, .ref an, .ref dw]))] := hD
  have hP9 := hP.sub (ws' := []) [] rfl
  have hD9 := hD.sub (ws' := []) [] (by decide) rfl
  refine W.widen (k := 0) (n := 0) (Nat.le_of_ble_eq_true rfl) (Nat.le_of_ble_eq_true rfl) ?_
  exact W.vret hx hb hr (fun t ht hW => ⟨⟨(), rfl, trivial, by rw [ht]; exact hP9, by first | exact hD9 | (rw [hAe]; exact hD9)⟩, hS.F ht⟩) hS.2.2 dX10_image_16

set_option maxHeartbeats 400000 in
set_option maxRecDepth 100000 in
theorem c_Draws_begin (l : Launch) (G : va_G) (y : Nat → ClassId) (sz : Nat) (dw : Nat) (z : Int32) (a : Int32)  : Met l yX2_begin wsX2_begin ({ frames := 0, cells := 0, slots := 0, locals := 0 }) (nq_P G y sz [.ref dw, .int a] [(dw, .inr (2, [.int z]))]) (va_Qv (fun (_ : Unit) => True) (fun (u : Unit) t9 => va_P G vwCl ([(dw, .inr (2, [.int a]))]) t9.heap ∧ va_D (va_A [(dw, .inr (2, [.int z]))] sz) ([(dw, .inr (2, [.int a]))])) (va_A [(dw, .inr (2, [.int z]))] sz)) 0 0 (va_A [(dw, .inr (2, [.int z]))] sz) := by
  refine Met.ofW (cc := cX2_begin) (maxL := 2) (ret := none) (by decide) rfl ?_
  intro p e s m args below meth c s₁ B hml hv
  obtain ⟨rfl, hsz, hP, hK, hD0⟩ := hv
  have hx := B.exec
  have hb := B.bytes
  have hr := B.returns
  have hts := atoms_spec (ws := wsX2_begin) B.pre
  have hown : s.vm.findClass RX2 = some m.cls := findClass_of_methodNamed B.named
  have hlocks := B.notSynchronized
  subst hsz
  have hD := hD0.self (sz := s.heap.size)
  generalize hAe : va_A [(dw, .inr (2, [.int z]))] s.heap.size = A at hD ⊢
  have hA : ∀ q : Nat, s.heap.size ≤ q → A q := fun q h => by rw [← hAe]; exact Or.inr h
  have hS : va_S A s.heap s.heap [] := va_S.rf
  have hP : va_P G vwCl [(dw, .inr (2, [.int z]))] s.heap := hP
  have inX2 : ∀ w ∈ wsX20, w ∈ wsX2_begin := by decide +kernel
  have hl := lv_entry ([.ref dw, .int a]) (n := 2) (Nat.le_of_ble_eq_true rfl)
  rw [lg_entry_eq]
  generalize (lg_sl ([.ref dw, .int a]) ++ List.replicate (2 - (lg_sl ([.ref dw, .int a])).length) Slot.unset).toArray = ls at hl ⊢
  have hl : lv_has ls 2 [(0, .ref dw), (1, .int a)] := hl
  refine lv_aload_n hx hb dX2_begin_0 rfl (lv_at hl 0 rfl) ?_
  refine lv_iload_n hx hb dX2_begin_1 rfl (lv_at hl 1 rfl) ?_
  refine va_put (D := G) (ci := 2) (v := .int a) (ty := .int) (C := RX2) (T := TX2) (N := 1) hx hb hts inX2 tyX2 tyX2_ok nmX2 hown hK.1 hP hD hS 0 rfl rfl 0 (by decide) (hts (.fieldLink RX2 7 "NestQuery$Draws" "seed" "I") (by decide +kernel)) (fun _ h9 => h9) rfl (by decide +kernel) rfl rfl (Nat.le_of_ble_eq_true rfl) dX2_begin_2 (fun H locs hP hD hS => ?_)
  have hP : va_P G vwCl [(dw, .inr (2, [.int a]))] H := hP
  have hD : va_D A [(dw, .inr (2, [.int a]))] := hD
  have hP9 := hP.sub (ws' := [(dw, .inr (2, [.int a]))]) [0] rfl
  have hD9 := hD.sub (ws' := [(dw, .inr (2, [.int a]))]) [0] (by decide) rfl
  refine W.widen (k := 0) (n := 0) (Nat.le_of_ble_eq_true rfl) (Nat.le_of_ble_eq_true rfl) ?_
  exact W.vret hx hb hr (fun t ht hW => ⟨⟨(), rfl, trivial, by rw [ht]; exact hP9, by first | exact hD9 | (rw [hAe]; exact hD9)⟩, hS.F ht⟩) hS.2.2 dX2_begin_5

set_option maxHeartbeats 400000 in
set_option maxRecDepth 100000 in
theorem c_next5 (l : Launch) (G : va_G) (y : Nat → ClassId) (sz : Nat) (dw : Nat) (z : Int32)  : Met l yX2_next wsX2_next ({ frames := 0, cells := 0, slots := 0, locals := 0 }) (nq_P G y sz [.ref dw, .int 5] [(dw, .inr (2, [.int z]))]) (va_Qi (fun (r : Int32) (_ : Int32) => True) (fun (u : Int32) t9 => va_P G vwCl ([(dw, .inr (2, [.int u]))]) t9.heap ∧ va_D (va_A [(dw, .inr (2, [.int z]))] sz) ([(dw, .inr (2, [.int u]))])) (va_A [(dw, .inr (2, [.int z]))] sz)) 0 0 (va_A [(dw, .inr (2, [.int z]))] sz) := by
  refine Met.ofW (cc := cX2_next) (maxL := 2) (ret := (some .int)) (by decide) rfl ?_
  intro p e s m args below meth c s₁ B hml hv
  obtain ⟨rfl, hsz, hP, hK, hD0⟩ := hv
  have hx := B.exec
  have hb := B.bytes
  have hr := B.returns
  have hts := atoms_spec (ws := wsX2_next) B.pre
  have hown : s.vm.findClass RX2 = some m.cls := findClass_of_methodNamed B.named
  have hlocks := B.notSynchronized
  subst hsz
  have hD := hD0.self (sz := s.heap.size)
  generalize hAe : va_A [(dw, .inr (2, [.int z]))] s.heap.size = A at hD ⊢
  have hA : ∀ q : Nat, s.heap.size ≤ q → A q := fun q h => by rw [← hAe]; exact Or.inr h
  have hS : va_S A s.heap s.heap [] := va_S.rf
  have hP : va_P G vwCl [(dw, .inr (2, [.int z]))] s.heap := hP
  have inX2 : ∀ w ∈ wsX20, w ∈ wsX2_next := by decide +kernel
  have hl := lv_entry ([.ref dw, .int 5]) (n := 2) (Nat.le_of_ble_eq_true rfl)
  rw [lg_entry_eq]
  generalize (lg_sl ([.ref dw, .int 5]) ++ List.replicate (2 - (lg_sl ([.ref dw, .int 5])).length) Slot.unset).toArray = ls at hl ⊢
  have hl : lv_has ls 2 [(0, .ref dw), (1, .int 5)] := hl
  refine lv_aload_n hx hb dX2_next_0 rfl (lv_at hl 0 rfl) ?_
  refine lv_aload_n hx hb dX2_next_1 rfl (lv_at hl 0 rfl) ?_
  refine va_get (D := G) (ci := 2) (v := .int z) (C := RX2) (T := TX2) (N := 1) hx hb hts inX2 hown hK.1 hP 0 rfl rfl 0 (by decide) (hts (.fieldLink RX2 7 "NestQuery$Draws" "seed" "I") (by decide +kernel)) (fun _ h9 => h9) rfl dX2_next_2 ?_
  refine lv_ldc (v := 1103515245) hx hb hown (hts (.constant RX2 13 1103515245) (by decide +kernel)) dX2_next_5 ?_
  refine lv_imul hx hb dX2_next_7 ?_
  refine lv_topi (fun w_1 _ => ?_)
  refine lv_sipush (v := 12345) hx hb dX2_next_8 (by decide) ?_
  refine lv_iadd hx hb dX2_next_11 ?_
  refine lv_topi (fun w_2 _ => ?_)
  refine va_put (D := G) (ci := 2) (v := .int w_2) (ty := .int) (C := RX2) (T := TX2) (N := 1) hx hb hts inX2 tyX2 tyX2_ok nmX2 hown hK.1 hP hD hS 0 rfl rfl 0 (by decide) (hts (.fieldLink RX2 7 "NestQuery$Draws" "seed" "I") (by decide +kernel)) (fun _ h9 => h9) rfl (by decide +kernel) rfl rfl (Nat.le_of_ble_eq_true rfl) dX2_next_12 (fun H locs hP hD hS => ?_)
  have hP : va_P G vwCl [(dw, .inr (2, [.int w_2]))] H := hP
  have hD : va_D A [(dw, .inr (2, [.int w_2]))] := hD
  refine lv_iload_n hx hb dX2_next_15 rfl (lv_at hl 1 rfl) ?_
  refine lv_iconst (v := 1) hx hb dX2_next_16 (by decide) ?_
  refine lv_icmp_ge (tgt := 24) hx hb dX2_next_17 (by decide) (fun _ => ?_) (fun c_3 => absurd c_3 (by decide))
  refine lv_aload_n hx hb dX2_next_24 rfl (lv_at hl 0 rfl) ?_
  refine va_get (D := G) (ci := 2) (v := .int w_2) (C := RX2) (T := TX2) (N := 1) hx hb hts inX2 hown hK.1 hP 0 rfl rfl 0 (by decide) (hts (.fieldLink RX2 7 "NestQuery$Draws" "seed" "I") (by decide +kernel)) (fun _ h9 => h9) rfl dX2_next_25 ?_
  refine lv_bipush (v := 16) hx hb dX2_next_28 (by decide) ?_
  refine lv_iushr hx hb dX2_next_30 rfl ?_
  refine lv_topi (fun w_4 _ => ?_)
  refine lv_sipush (v := 32767) hx hb dX2_next_31 (by decide) ?_
  refine lv_iand hx hb dX2_next_34 ?_
  refine lv_topi (fun w_5 _ => ?_)
  refine lv_iload_n hx hb dX2_next_35 rfl (lv_at hl 1 rfl) ?_
  refine lv_irem hx hb dX2_next_36 (by decide) ?_
  refine lv_topi (fun w_6 _ => ?_)
  have hP9 := hP.sub (ws' := [(dw, .inr (2, [.int w_2]))]) [0] rfl
  have hD9 := hD.sub (ws' := [(dw, .inr (2, [.int w_2]))]) [0] (by decide) rfl
  refine W.widen (k := 0) (n := 0) (Nat.le_of_ble_eq_true rfl) (Nat.le_of_ble_eq_true rfl) ?_
  exact W.iret (v := w_6) hx hb hr (fun t ht hW => ⟨⟨w_6, (w_2), rfl, trivial, by rw [ht]; exact hP9, by first | exact hD9 | (rw [hAe]; exact hD9)⟩, hS.F ht⟩) hS.2.2 dX2_next_37

set_option maxHeartbeats 400000 in
set_option maxRecDepth 100000 in
theorem c_next4 (l : Launch) (G : va_G) (y : Nat → ClassId) (sz : Nat) (dw : Nat) (z : Int32)  : Met l yX2_next wsX2_next ({ frames := 0, cells := 0, slots := 0, locals := 0 }) (nq_P G y sz [.ref dw, .int 4] [(dw, .inr (2, [.int z]))]) (va_Qi (fun (r : Int32) (_ : Int32) => True) (fun (u : Int32) t9 => va_P G vwCl ([(dw, .inr (2, [.int u]))]) t9.heap ∧ va_D (va_A [(dw, .inr (2, [.int z]))] sz) ([(dw, .inr (2, [.int u]))])) (va_A [(dw, .inr (2, [.int z]))] sz)) 0 0 (va_A [(dw, .inr (2, [.int z]))] sz) := by
  refine Met.ofW (cc := cX2_next) (maxL := 2) (ret := (some .int)) (by decide) rfl ?_
  intro p e s m args below meth c s₁ B hml hv
  obtain ⟨rfl, hsz, hP, hK, hD0⟩ := hv
  have hx := B.exec
  have hb := B.bytes
  have hr := B.returns
  have hts := atoms_spec (ws := wsX2_next) B.pre
  have hown : s.vm.findClass RX2 = some m.cls := findClass_of_methodNamed B.named
  have hlocks := B.notSynchronized
  subst hsz
  have hD := hD0.self (sz := s.heap.size)
  generalize hAe : va_A [(dw, .inr (2, [.int z]))] s.heap.size = A at hD ⊢
  have hA : ∀ q : Nat, s.heap.size ≤ q → A q := fun q h => by rw [← hAe]; exact Or.inr h
  have hS : va_S A s.heap s.heap [] := va_S.rf
  have hP : va_P G vwCl [(dw, .inr (2, [.int z]))] s.heap := hP
  have inX2 : ∀ w ∈ wsX20, w ∈ wsX2_next := by decide +kernel
  have hl := lv_entry ([.ref dw, .int 4]) (n := 2) (Nat.le_of_ble_eq_true rfl)
  rw [lg_entry_eq]
  generalize (lg_sl ([.ref dw, .int 4]) ++ List.replicate (2 - (lg_sl ([.ref dw, .int 4])).length) Slot.unset).toArray = ls at hl ⊢
  have hl : lv_has ls 2 [(0, .ref dw), (1, .int 4)] := hl
  refine lv_aload_n hx hb dX2_next_0 rfl (lv_at hl 0 rfl) ?_
  refine lv_aload_n hx hb dX2_next_1 rfl (lv_at hl 0 rfl) ?_
  refine va_get (D := G) (ci := 2) (v := .int z) (C := RX2) (T := TX2) (N := 1) hx hb hts inX2 hown hK.1 hP 0 rfl rfl 0 (by decide) (hts (.fieldLink RX2 7 "NestQuery$Draws" "seed" "I") (by decide +kernel)) (fun _ h9 => h9) rfl dX2_next_2 ?_
  refine lv_ldc (v := 1103515245) hx hb hown (hts (.constant RX2 13 1103515245) (by decide +kernel)) dX2_next_5 ?_
  refine lv_imul hx hb dX2_next_7 ?_
  refine lv_topi (fun w_1 _ => ?_)
  refine lv_sipush (v := 12345) hx hb dX2_next_8 (by decide) ?_
  refine lv_iadd hx hb dX2_next_11 ?_
  refine lv_topi (fun w_2 _ => ?_)
  refine va_put (D := G) (ci := 2) (v := .int w_2) (ty := .int) (C := RX2) (T := TX2) (N := 1) hx hb hts inX2 tyX2 tyX2_ok nmX2 hown hK.1 hP hD hS 0 rfl rfl 0 (by decide) (hts (.fieldLink RX2 7 "NestQuery$Draws" "seed" "I") (by decide +kernel)) (fun _ h9 => h9) rfl (by decide +kernel) rfl rfl (Nat.le_of_ble_eq_true rfl) dX2_next_12 (fun H locs hP hD hS => ?_)
  have hP : va_P G vwCl [(dw, .inr (2, [.int w_2]))] H := hP
  have hD : va_D A [(dw, .inr (2, [.int w_2]))] := hD
  refine lv_iload_n hx hb dX2_next_15 rfl (lv_at hl 1 rfl) ?_
  refine lv_iconst (v := 1) hx hb dX2_next_16 (by decide) ?_
  refine lv_icmp_ge (tgt := 24) hx hb dX2_next_17 (by decide) (fun _ => ?_) (fun c_3 => absurd c_3 (by decide))
  refine lv_aload_n hx hb dX2_next_24 rfl (lv_at hl 0 rfl) ?_
  refine va_get (D := G) (ci := 2) (v := .int w_2) (C := RX2) (T := TX2) (N := 1) hx hb hts inX2 hown hK.1 hP 0 rfl rfl 0 (by decide) (hts (.fieldLink RX2 7 "NestQuery$Draws" "seed" "I") (by decide +kernel)) (fun _ h9 => h9) rfl dX2_next_25 ?_
  refine lv_bipush (v := 16) hx hb dX2_next_28 (by decide) ?_
  refine lv_iushr hx hb dX2_next_30 rfl ?_
  refine lv_topi (fun w_4 _ => ?_)
  refine lv_sipush (v := 32767) hx hb dX2_next_31 (by decide) ?_
  refine lv_iand hx hb dX2_next_34 ?_
  refine lv_topi (fun w_5 _ => ?_)
  refine lv_iload_n hx hb dX2_next_35 rfl (lv_at hl 1 rfl) ?_
  refine lv_irem hx hb dX2_next_36 (by decide) ?_
  refine lv_topi (fun w_6 _ => ?_)
  have hP9 := hP.sub (ws' := [(dw, .inr (2, [.int w_2]))]) [0] rfl
  have hD9 := hD.sub (ws' := [(dw, .inr (2, [.int w_2]))]) [0] (by decide) rfl
  refine W.widen (k := 0) (n := 0) (Nat.le_of_ble_eq_true rfl) (Nat.le_of_ble_eq_true rfl) ?_
  exact W.iret (v := w_6) hx hb hr (fun t ht hW => ⟨⟨w_6, (w_2), rfl, trivial, by rw [ht]; exact hP9, by first | exact hD9 | (rw [hAe]; exact hD9)⟩, hS.F ht⟩) hS.2.2 dX2_next_37

set_option maxHeartbeats 400000 in
set_option maxRecDepth 100000 in
theorem c_next21 (l : Launch) (G : va_G) (y : Nat → ClassId) (sz : Nat) (dw : Nat) (z : Int32)  : Met l yX2_next wsX2_next ({ frames := 0, cells := 0, slots := 0, locals := 0 }) (nq_P G y sz [.ref dw, .int 21] [(dw, .inr (2, [.int z]))]) (va_Qi (fun (r : Int32) (_ : Int32) => True) (fun (u : Int32) t9 => va_P G vwCl ([(dw, .inr (2, [.int u]))]) t9.heap ∧ va_D (va_A [(dw, .inr (2, [.int z]))] sz) ([(dw, .inr (2, [.int u]))])) (va_A [(dw, .inr (2, [.int z]))] sz)) 0 0 (va_A [(dw, .inr (2, [.int z]))] sz) := by
  refine Met.ofW (cc := cX2_next) (maxL := 2) (ret := (some .int)) (by decide) rfl ?_
  intro p e s m args below meth c s₁ B hml hv
  obtain ⟨rfl, hsz, hP, hK, hD0⟩ := hv
  have hx := B.exec
  have hb := B.bytes
  have hr := B.returns
  have hts := atoms_spec (ws := wsX2_next) B.pre
  have hown : s.vm.findClass RX2 = some m.cls := findClass_of_methodNamed B.named
  have hlocks := B.notSynchronized
  subst hsz
  have hD := hD0.self (sz := s.heap.size)
  generalize hAe : va_A [(dw, .inr (2, [.int z]))] s.heap.size = A at hD ⊢
  have hA : ∀ q : Nat, s.heap.size ≤ q → A q := fun q h => by rw [← hAe]; exact Or.inr h
  have hS : va_S A s.heap s.heap [] := va_S.rf
  have hP : va_P G vwCl [(dw, .inr (2, [.int z]))] s.heap := hP
  have inX2 : ∀ w ∈ wsX20, w ∈ wsX2_next := by decide +kernel
  have hl := lv_entry ([.ref dw, .int 21]) (n := 2) (Nat.le_of_ble_eq_true rfl)
  rw [lg_entry_eq]
  generalize (lg_sl ([.ref dw, .int 21]) ++ List.replicate (2 - (lg_sl ([.ref dw, .int 21])).length) Slot.unset).toArray = ls at hl ⊢
  have hl : lv_has ls 2 [(0, .ref dw), (1, .int 21)] := hl
  refine lv_aload_n hx hb dX2_next_0 rfl (lv_at hl 0 rfl) ?_
  refine lv_aload_n hx hb dX2_next_1 rfl (lv_at hl 0 rfl) ?_
  refine va_get (D := G) (ci := 2) (v := .int z) (C := RX2) (T := TX2) (N := 1) hx hb hts inX2 hown hK.1 hP 0 rfl rfl 0 (by decide) (hts (.fieldLink RX2 7 "NestQuery$Draws" "seed" "I") (by decide +kernel)) (fun _ h9 => h9) rfl dX2_next_2 ?_
  refine lv_ldc (v := 1103515245) hx hb hown (hts (.constant RX2 13 1103515245) (by decide +kernel)) dX2_next_5 ?_
  refine lv_imul hx hb dX2_next_7 ?_
  refine lv_topi (fun w_1 _ => ?_)
  refine lv_sipush (v := 12345) hx hb dX2_next_8 (by decide) ?_
  refine lv_iadd hx hb dX2_next_11 ?_
  refine lv_topi (fun w_2 _ => ?_)
  refine va_put (D := G) (ci := 2) (v := .int w_2) (ty := .int) (C := RX2) (T := TX2) (N := 1) hx hb hts inX2 tyX2 tyX2_ok nmX2 hown hK.1 hP hD hS 0 rfl rfl 0 (by decide) (hts (.fieldLink RX2 7 "NestQuery$Draws" "seed" "I") (by decide +kernel)) (fun _ h9 => h9) rfl (by decide +kernel) rfl rfl (Nat.le_of_ble_eq_true rfl) dX2_next_12 (fun H locs hP hD hS => ?_)
  have hP : va_P G vwCl [(dw, .inr (2, [.int w_2]))] H := hP
  have hD : va_D A [(dw, .inr (2, [.int w_2]))] := hD
  refine lv_iload_n hx hb dX2_next_15 rfl (lv_at hl 1 rfl) ?_
  refine lv_iconst (v := 1) hx hb dX2_next_16 (by decide) ?_
  refine lv_icmp_ge (tgt := 24) hx hb dX2_next_17 (by decide) (fun _ => ?_) (fun c_3 => absurd c_3 (by decide))
  refine lv_aload_n hx hb dX2_next_24 rfl (lv_at hl 0 rfl) ?_
  refine va_get (D := G) (ci := 2) (v := .int w_2) (C := RX2) (T := TX2) (N := 1) hx hb hts inX2 hown hK.1 hP 0 rfl rfl 0 (by decide) (hts (.fieldLink RX2 7 "NestQuery$Draws" "seed" "I") (by decide +kernel)) (fun _ h9 => h9) rfl dX2_next_25 ?_
  refine lv_bipush (v := 16) hx hb dX2_next_28 (by decide) ?_
  refine lv_iushr hx hb dX2_next_30 rfl ?_
  refine lv_topi (fun w_4 _ => ?_)
  refine lv_sipush (v := 32767) hx hb dX2_next_31 (by decide) ?_
  refine lv_iand hx hb dX2_next_34 ?_
  refine lv_topi (fun w_5 _ => ?_)
  refine lv_iload_n hx hb dX2_next_35 rfl (lv_at hl 1 rfl) ?_
  refine lv_irem hx hb dX2_next_36 (by decide) ?_
  refine lv_topi (fun w_6 _ => ?_)
  have hP9 := hP.sub (ws' := [(dw, .inr (2, [.int w_2]))]) [0] rfl
  have hD9 := hD.sub (ws' := [(dw, .inr (2, [.int w_2]))]) [0] (by decide) rfl
  refine W.widen (k := 0) (n := 0) (Nat.le_of_ble_eq_true rfl) (Nat.le_of_ble_eq_true rfl) ?_
  exact W.iret (v := w_6) hx hb hr (fun t ht hW => ⟨⟨w_6, (w_2), rfl, trivial, by rw [ht]; exact hP9, by first | exact hD9 | (rw [hAe]; exact hD9)⟩, hS.F ht⟩) hS.2.2 dX2_next_37

set_option maxHeartbeats 400000 in
set_option maxRecDepth 100000 in
theorem c_next1 (l : Launch) (G : va_G) (y : Nat → ClassId) (sz : Nat) (dw : Nat) (z : Int32)  : Met l yX2_next wsX2_next ({ frames := 0, cells := 0, slots := 0, locals := 0 }) (nq_P G y sz [.ref dw, .int 1] [(dw, .inr (2, [.int z]))]) (va_Qi (fun (r : Int32) (_ : Int32) => True) (fun (u : Int32) t9 => va_P G vwCl ([(dw, .inr (2, [.int u]))]) t9.heap ∧ va_D (va_A [(dw, .inr (2, [.int z]))] sz) ([(dw, .inr (2, [.int u]))])) (va_A [(dw, .inr (2, [.int z]))] sz)) 0 0 (va_A [(dw, .inr (2, [.int z]))] sz) := by
  refine Met.ofW (cc := cX2_next) (maxL := 2) (ret := (some .int)) (by decide) rfl ?_
  intro p e s m args below meth c s₁ B hml hv
  obtain ⟨rfl, hsz, hP, hK, hD0⟩ := hv
  have hx := B.exec
  have hb := B.bytes
  have hr := B.returns
  have hts := atoms_spec (ws := wsX2_next) B.pre
  have hown : s.vm.findClass RX2 = some m.cls := findClass_of_methodNamed B.named
  have hlocks := B.notSynchronized
  subst hsz
  have hD := hD0.self (sz := s.heap.size)
  generalize hAe : va_A [(dw, .inr (2, [.int z]))] s.heap.size = A at hD ⊢
  have hA : ∀ q : Nat, s.heap.size ≤ q → A q := fun q h => by rw [← hAe]; exact Or.inr h
  have hS : va_S A s.heap s.heap [] := va_S.rf
  have hP : va_P G vwCl [(dw, .inr (2, [.int z]))] s.heap := hP
  have inX2 : ∀ w ∈ wsX20, w ∈ wsX2_next := by decide +kernel
  have hl := lv_entry ([.ref dw, .int 1]) (n := 2) (Nat.le_of_ble_eq_true rfl)
  rw [lg_entry_eq]
  generalize (lg_sl ([.ref dw, .int 1]) ++ List.replicate (2 - (lg_sl ([.ref dw, .int 1])).length) Slot.unset).toArray = ls at hl ⊢
  have hl : lv_has ls 2 [(0, .ref dw), (1, .int 1)] := hl
  refine lv_aload_n hx hb dX2_next_0 rfl (lv_at hl 0 rfl) ?_
  refine lv_aload_n hx hb dX2_next_1 rfl (lv_at hl 0 rfl) ?_
  refine va_get (D := G) (ci := 2) (v := .int z) (C := RX2) (T := TX2) (N := 1) hx hb hts inX2 hown hK.1 hP 0 rfl rfl 0 (by decide) (hts (.fieldLink RX2 7 "NestQuery$Draws" "seed" "I") (by decide +kernel)) (fun _ h9 => h9) rfl dX2_next_2 ?_
  refine lv_ldc (v := 1103515245) hx hb hown (hts (.constant RX2 13 1103515245) (by decide +kernel)) dX2_next_5 ?_
  refine lv_imul hx hb dX2_next_7 ?_
  refine lv_topi (fun w_1 _ => ?_)
  refine lv_sipush (v := 12345) hx hb dX2_next_8 (by decide) ?_
  refine lv_iadd hx hb dX2_next_11 ?_
  refine lv_topi (fun w_2 _ => ?_)
  refine va_put (D := G) (ci := 2) (v := .int w_2) (ty := .int) (C := RX2) (T := TX2) (N := 1) hx hb hts inX2 tyX2 tyX2_ok nmX2 hown hK.1 hP hD hS 0 rfl rfl 0 (by decide) (hts (.fieldLink RX2 7 "NestQuery$Draws" "seed" "I") (by decide +kernel)) (fun _ h9 => h9) rfl (by decide +kernel) rfl rfl (Nat.le_of_ble_eq_true rfl) dX2_next_12 (fun H locs hP hD hS => ?_)
  have hP : va_P G vwCl [(dw, .inr (2, [.int w_2]))] H := hP
  have hD : va_D A [(dw, .inr (2, [.int w_2]))] := hD
  refine lv_iload_n hx hb dX2_next_15 rfl (lv_at hl 1 rfl) ?_
  refine lv_iconst (v := 1) hx hb dX2_next_16 (by decide) ?_
  refine lv_icmp_ge (tgt := 24) hx hb dX2_next_17 (by decide) (fun _ => ?_) (fun c_3 => absurd c_3 (by decide))
  refine lv_aload_n hx hb dX2_next_24 rfl (lv_at hl 0 rfl) ?_
  refine va_get (D := G) (ci := 2) (v := .int w_2) (C := RX2) (T := TX2) (N := 1) hx hb hts inX2 hown hK.1 hP 0 rfl rfl 0 (by decide) (hts (.fieldLink RX2 7 "NestQuery$Draws" "seed" "I") (by decide +kernel)) (fun _ h9 => h9) rfl dX2_next_25 ?_
  refine lv_bipush (v := 16) hx hb dX2_next_28 (by decide) ?_
  refine lv_iushr hx hb dX2_next_30 rfl ?_
  refine lv_topi (fun w_4 _ => ?_)
  refine lv_sipush (v := 32767) hx hb dX2_next_31 (by decide) ?_
  refine lv_iand hx hb dX2_next_34 ?_
  refine lv_topi (fun w_5 _ => ?_)
  refine lv_iload_n hx hb dX2_next_35 rfl (lv_at hl 1 rfl) ?_
  refine lv_irem hx hb dX2_next_36 (by decide) ?_
  refine lv_topi (fun w_6 _ => ?_)
  have hP9 := hP.sub (ws' := [(dw, .inr (2, [.int w_2]))]) [0] rfl
  have hD9 := hD.sub (ws' := [(dw, .inr (2, [.int w_2]))]) [0] (by decide) rfl
  refine W.widen (k := 0) (n := 0) (Nat.le_of_ble_eq_true rfl) (Nat.le_of_ble_eq_true rfl) ?_
  exact W.iret (v := w_6) hx hb hr (fun t ht hW => ⟨⟨w_6, (w_2), rfl, trivial, by rw [ht]; exact hP9, by first | exact hD9 | (rw [hAe]; exact hD9)⟩, hS.F ht⟩) hS.2.2 dX2_next_37

set_option maxHeartbeats 400000 in
set_option maxRecDepth 100000 in
theorem c_oneYear (l : Launch) (G : va_G) (y : Nat → ClassId) (sz : Nat) (h0 : Nat) (tp : Nat) (ps : Nat) (sp : Nat) (tk : Nat) (dr : Nat) (pr : Nat) (da : Nat) (nw : Nat) (im : Nat) (ac : Nat) (ke : Nat) (si : Nat) (tx : Nat) (an : Nat) (dw : Nat) (ac1 : Nat) (ac2 : Nat) (ac3 : Nat) (nwt : Nat) (nwb : Nat) (nwn : Nat) (nwi : Nat) (nwr : Nat) (nwtk : Nat) (nwtv : Nat) (nwte : Nat) (nwtd : Nat) (z : Int32)  : Met l yX10_oneYear wsX10_oneYear ({ frames := 2, cells := 0, slots := 0, locals := 48 }) (nq_P G y sz [.ref h0] [(h0, .inr (10, [.ref tp, .int 0, .int (-1), .ref ps, .ref sp, .ref tk, .ref dr, .ref pr, .ref da, .ref nw, .ref im, .int 0, .ref ac, .ref ke, .ref si, .ref tx, .ref an, .ref dw])), (ps, .inl (y 3, 4, .inr (.inr (.inr (.inr (fun _ => none)))))), (ac, .inr (0, [.ref nw, .ref ac1, .ref ac2, .ref ac3])), (nw, .inr (6, [.ref nwt, .ref nwb, .int 0, .ref nwn, .ref nwi, .int 0, .ref nwr])), (nwt, .inr (9, [.ref nwtk, .ref nwtv, .ref nwte, .ref nwtd, .int 1])), (nwtk, .inl (y 0, 60, .inl (upd (fun _ => 0) 0 3))), (dw, .inr (2, [.int z]))]) (va_Qi (fun (r : Int32) (_ : Int32) => r = (-1)) (fun (u : Int32) t9 => va_P G vwCl ([(h0, .inr (10, [.ref tp, .int 0, .int (-1), .ref ps, .ref sp, .ref tk, .ref dr, .ref pr, .ref da, .ref nw, .ref im, .int 0, .ref ac, .ref ke, .ref si, .ref tx, .ref an, .ref dw])), (ps, .inl (y 3, 4, .inr (.inr (.inr (.inr (fun _ => none)))))), (ac, .inr (0, [.ref nw, .ref ac1, .ref ac2, .ref ac3])), (nw, .inr (6, [.ref nwt, .ref nwb, .int 0, .ref nwn, .ref nwi, .int 0, .ref nwr])), (nwt, .inr (9, [.ref nwtk, .ref nwtv, .ref nwte, .ref nwtd, .int 1])), (nwtk, .inl (y 0, 60, .inl (upd (fun _ => 0) 0 3))), (dw, .inr (2, [.int u]))]) t9.heap ∧ va_D (va_A [(h0, .inr (10, [.ref tp, .int 0, .int (-1), .ref ps, .ref sp, .ref tk, .ref dr, .ref pr, .ref da, .ref nw, .ref im, .int 0, .ref ac, .ref ke, .ref si, .ref tx, .ref an, .ref dw])), (ps, .inl (y 3, 4, .inr (.inr (.inr (.inr (fun _ => none)))))), (ac, .inr (0, [.ref nw, .ref ac1, .ref ac2, .ref ac3])), (nw, .inr (6, [.ref nwt, .ref nwb, .int 0, .ref nwn, .ref nwi, .int 0, .ref nwr])), (nwt, .inr (9, [.ref nwtk, .ref nwtv, .ref nwte, .ref nwtd, .int 1])), (nwtk, .inl (y 0, 60, .inl (upd (fun _ => 0) 0 3))), (dw, .inr (2, [.int z]))] sz) ([(h0, .inr (10, [.ref tp, .int 0, .int (-1), .ref ps, .ref sp, .ref tk, .ref dr, .ref pr, .ref da, .ref nw, .ref im, .int 0, .ref ac, .ref ke, .ref si, .ref tx, .ref an, .ref dw])), (ps, .inl (y 3, 4, .inr (.inr (.inr (.inr (fun _ => none)))))), (ac, .inr (0, [.ref nw, .ref ac1, .ref ac2, .ref ac3])), (nw, .inr (6, [.ref nwt, .ref nwb, .int 0, .ref nwn, .ref nwi, .int 0, .ref nwr])), (nwt, .inr (9, [.ref nwtk, .ref nwtv, .ref nwte, .ref nwtd, .int 1])), (nwtk, .inl (y 0, 60, .inl (upd (fun _ => 0) 0 3))), (dw, .inr (2, [.int u]))])) (va_A [(h0, .inr (10, [.ref tp, .int 0, .int (-1), .ref ps, .ref sp, .ref tk, .ref dr, .ref pr, .ref da, .ref nw, .ref im, .int 0, .ref ac, .ref ke, .ref si, .ref tx, .ref an, .ref dw])), (ps, .inl (y 3, 4, .inr (.inr (.inr (.inr (fun _ => none)))))), (ac, .inr (0, [.ref nw, .ref ac1, .ref ac2, .ref ac3])), (nw, .inr (6, [.ref nwt, .ref nwb, .int 0, .ref nwn, .ref nwi, .int 0, .ref nwr])), (nwt, .inr (9, [.ref nwtk, .ref nwtv, .ref nwte, .ref nwtd, .int 1])), (nwtk, .inl (y 0, 60, .inl (upd (fun _ => 0) 0 3))), (dw, .inr (2, [.int z]))] sz)) 0 0 (va_A [(h0, .inr (10, [.ref tp, .int 0, .int (-1), .ref ps, .ref sp, .ref tk, .ref dr, .ref pr, .ref da, .ref nw, .ref im, .int 0, .ref ac, .ref ke, .ref si, .ref tx, .ref an, .ref dw])), (ps, .inl (y 3, 4, .inr (.inr (.inr (.inr (fun _ => none)))))), (ac, .inr (0, [.ref nw, .ref ac1, .ref ac2, .ref ac3])), (nw, .inr (6, [.ref nwt, .ref nwb, .int 0, .ref nwn, .ref nwi, .int 0, .ref nwr])), (nwt, .inr (9, [.ref nwtk, .ref nwtv, .ref nwte, .ref nwtd, .int 1])), (nwtk, .inl (y 0, 60, .inl (upd (fun _ => 0) 0 3))), (dw, .inr (2, [.int z]))] sz) := by
  refine Met.ofW (cc := cX10_oneYear) (maxL := 3) (ret := (some .int)) (by decide) rfl ?_
  intro p e s m args below meth c s₁ B hml hv
  obtain ⟨rfl, hsz, hP, hK, hD0⟩ := hv
  have hx := B.exec
  have hb := B.bytes
  have hr := B.returns
  have hts := atoms_spec (ws := wsX10_oneYear) B.pre
  have hown : s.vm.findClass RX10 = some m.cls := findClass_of_methodNamed B.named
  have hlocks := B.notSynchronized
  subst hsz
  have hD := hD0.self (sz := s.heap.size)
  generalize hAe : va_A [(h0, .inr (10, [.ref tp, .int 0, .int (-1), .ref ps, .ref sp, .ref tk, .ref dr, .ref pr, .ref da, .ref nw, .ref im, .int 0, .ref ac, .ref ke, .ref si, .ref tx, .ref an, .ref dw])), (ps, .inl (y 3, 4, .inr (.inr (.inr (.inr (fun _ => none)))))), (ac, .inr (0, [.ref nw, .ref ac1, .ref ac2, .ref ac3])), (nw, .inr (6, [.ref nwt, .ref nwb, .int 0, .ref nwn, .ref nwi, .int 0, .ref nwr])), (nwt, .inr (9, [.ref nwtk, .ref nwtv, .ref nwte, .ref nwtd, .int 1])), (nwtk, .inl (y 0, 60, .inl (upd (fun _ => 0) 0 3))), (dw, .inr (2, [.int z]))] s.heap.size = A at hD ⊢
  have hA : ∀ q : Nat, s.heap.size ≤ q → A q := fun q h => by rw [← hAe]; exact Or.inr h
  have hS : va_S A s.heap s.heap [] := va_S.rf
  have hP : va_P G vwCl [(h0, .inr (10, [.ref tp, .int 0, .int (-1), .ref ps, .ref sp, .ref tk, .ref dr, .ref pr, .ref da, .ref nw, .ref im, .int 0, .ref ac, .ref ke, .ref si, .ref tx, .ref an, .ref dw])), (ps, .inl (y 3, 4, .inr (.inr (.inr (.inr (fun _ => none)))))), (ac, .inr (0, [.ref nw, .ref ac1, .ref ac2, .ref ac3])), (nw, .inr (6, [.ref nwt, .ref nwb, .int 0, .ref nwn, .ref nwi, .int 0, .ref nwr])), (nwt, .inr (9, [.ref nwtk, .ref nwtv, .ref nwte, .ref nwtd, .int 1])), (nwtk, .inl (y 0, 60, .inl (upd (fun _ => 0) 0 3))), (dw, .inr (2, [.int z]))] s.heap := hP
  have inX10 : ∀ w ∈ wsX100, w ∈ wsX10_oneYear := by decide +kernel
  have inX6 : ∀ w ∈ wsX60, w ∈ wsX10_oneYear := by decide +kernel
  have inX9 : ∀ w ∈ wsX90, w ∈ wsX10_oneYear := by decide +kernel
  have hl := lv_entry ([.ref h0]) (n := 3) (Nat.le_of_ble_eq_true rfl)
  rw [lg_entry_eq]
  generalize (lg_sl ([.ref h0]) ++ List.replicate (3 - (lg_sl ([.ref h0])).length) Slot.unset).toArray = ls at hl ⊢
  have hl : lv_has ls 3 [(0, .ref h0)] := hl
  refine lv_aload_n hx hb dX10_oneYear_0 rfl (lv_at hl 0 rfl) ?_
  refine va_get (D := G) (ci := 10) (v := .ref dw) (C := RX10) (T := TX10) (N := 18) hx hb hts inX10 hown hK.1 hP 0 rfl rfl 17 (by decide) (hts (.fieldLink RX10 103 "NestQuery" "draws" "LNestQuery$Draws;") (by decide +kernel)) (fun _ h9 => h9) rfl dX10_oneYear_1 ?_
  refine lv_iconst (v := 5) hx hb dX10_oneYear_4 (by decide) ?_
  refine nq_wri (wr := [(h0, .inr (10, [.ref tp, .int 0, .int (-1), .ref ps, .ref sp, .ref tk, .ref dr, .ref pr, .ref da, .ref nw, .ref im, .int 0, .ref ac, .ref ke, .ref si, .ref tx, .ref an, .ref dw])), (ps, .inl (y 3, 4, .inr (.inr (.inr (.inr (fun _ => none)))))), (ac, .inr (0, [.ref nw, .ref ac1, .ref ac2, .ref ac3])), (nw, .inr (6, [.ref nwt, .ref nwb, .int 0, .ref nwn, .ref nwi, .int 0, .ref nwr])), (nwt, .inr (9, [.ref nwtk, .ref nwtv, .ref nwte, .ref nwtd, .int 1])), (nwtk, .inl (y 0, 60, .inl (upd (fun _ => 0) 0 3)))]) (va_runV (As := [.int 5]) (rest := []) ⟨hx, hb, hml, hown, hts⟩ (c_next5 l G y s.heap.size dw z ) (cwV 1 hts gX10_oneYear_X2_next rfl rfl rfl (by decide +kernel) ⟨Nat.le_of_ble_eq_true rfl, Nat.le_of_ble_eq_true rfl⟩) (nq_PV hK hP hD [6] rfl rfl 6 rfl rfl) rfl rfl hl.1 rfl (lv_room (Nat.le_of_ble_eq_true rfl)) dX10_oneYear_5 ⟨Nat.le_of_ble_eq_true rfl, Nat.le_of_ble_eq_true rfl⟩) hP hD hS hA [6] [0, 1, 2, 3, 4, 5] rfl rfl (by decide) (by decide) (fun r_3 u_1 H locs hw_2 hP hD hS => ?_)
  have hP : va_P G vwCl [(h0, .inr (10, [.ref tp, .int 0, .int (-1), .ref ps, .ref sp, .ref tk, .ref dr, .ref pr, .ref da, .ref nw, .ref im, .int 0, .ref ac, .ref ke, .ref si, .ref tx, .ref an, .ref dw])), (ps, .inl (y 3, 4, .inr (.inr (.inr (.inr (fun _ => none)))))), (ac, .inr (0, [.ref nw, .ref ac1, .ref ac2, .ref ac3])), (nw, .inr (6, [.ref nwt, .ref nwb, .int 0, .ref nwn, .ref nwi, .int 0, .ref nwr])), (nwt, .inr (9, [.ref nwtk, .ref nwtv, .ref nwte, .ref nwtd, .int 1])), (nwtk, .inl (y 0, 60, .inl (upd (fun _ => 0) 0 3))), (dw, .inr (2, [.int u_1]))] H := hP
  have hD : va_D A [(h0, .inr (10, [.ref tp, .int 0, .int (-1), .ref ps, .ref sp, .ref tk, .ref dr, .ref pr, .ref da, .ref nw, .ref im, .int 0, .ref ac, .ref ke, .ref si, .ref tx, .ref an, .ref dw])), (ps, .inl (y 3, 4, .inr (.inr (.inr (.inr (fun _ => none)))))), (ac, .inr (0, [.ref nw, .ref ac1, .ref ac2, .ref ac3])), (nw, .inr (6, [.ref nwt, .ref nwb, .int 0, .ref nwn, .ref nwi, .int 0, .ref nwr])), (nwt, .inr (9, [.ref nwtk, .ref nwtv, .ref nwte, .ref nwtd, .int 1])), (nwtk, .inl (y 0, 60, .inl (upd (fun _ => 0) 0 3))), (dw, .inr (2, [.int u_1]))] := hD
  refine lv_istore_n (lv' := [(1, .int r_3), (0, .ref h0)]) hx hb dX10_oneYear_8 rfl hl (by decide) rfl (fun ls hl => ?_)
  refine lv_iload_n hx hb dX10_oneYear_9 rfl (lv_at hl 0 rfl) ?_
  refine lv_if_ne (tgt := 40) hx hb dX10_oneYear_10 (by decide) (fun c_4 => ?_) (fun c_4 => ?_)
  · refine lv_iload_n hx hb dX10_oneYear_40 rfl (lv_at hl 0 rfl) ?_
    refine lv_iconst (v := 4) hx hb dX10_oneYear_41 (by decide) ?_
    refine lv_icmp_ge (tgt := 61) hx hb dX10_oneYear_42 (by decide) (fun c_5 => ?_) (fun c_5 => ?_)
    · refine lv_aload_n hx hb dX10_oneYear_61 rfl (lv_at hl 1 rfl) ?_
      refine va_get (D := G) (ci := 10) (v := .ref dw) (C := RX10) (T := TX10) (N := 18) hx hb hts inX10 hown hK.1 hP 0 rfl rfl 17 (by decide) (hts (.fieldLink RX10 103 "NestQuery" "draws" "LNestQuery$Draws;") (by decide +kernel)) (fun _ h9 => h9) rfl dX10_oneYear_62 ?_
      refine lv_aload_n hx hb dX10_oneYear_65 rfl (lv_at hl 1 rfl) ?_
      refine va_get (D := G) (ci := 10) (v := .ref nw) (C := RX10) (T := TX10) (N := 18) hx hb hts inX10 hown hK.1 hP 0 rfl rfl 9 (by decide) (hts (.fieldLink RX10 63 "NestQuery" "now" "LNestQuery$State;") (by decide +kernel)) (fun _ h9 => h9) rfl dX10_oneYear_66 ?_
      refine va_getN (D := G) (ci := 6) (v := .ref nwt) (C := RX6) (T := TX6) (N := 7) hx hb hts inX6 hown hK.1 hP 3 rfl rfl 0 (by decide) (nl_13 hK) (fun _ h9 => h9) rfl dX10_oneYear_69 ?_
      refine va_getN (D := G) (ci := 9) (v := .int 1) (C := RX9) (T := TX9) (N := 5) hx hb hts inX9 hown hK.1 hP 4 rfl rfl 4 (by decide) (nl_11 hK) (fun _ h9 => h9) rfl dX10_oneYear_72 ?_
      refine nq_wri (wr := [(h0, .inr (10, [.ref tp, .int 0, .int (-1), .ref ps, .ref sp, .ref tk, .ref dr, .ref pr, .ref da, .ref nw, .ref im, .int 0, .ref ac, .ref ke, .ref si, .ref tx, .ref an, .ref dw])), (ps, .inl (y 3, 4, .inr (.inr (.inr (.inr (fun _ => none)))))), (ac, .inr (0, [.ref nw, .ref ac1, .ref ac2, .ref ac3])), (nw, .inr (6, [.ref nwt, .ref nwb, .int 0, .ref nwn, .ref nwi, .int 0, .ref nwr])), (nwt, .inr (9, [.ref nwtk, .ref nwtv, .ref nwte, .ref nwtd, .int 1])), (nwtk, .inl (y 0, 60, .inl (upd (fun _ => 0) 0 3)))]) (va_runV (As := [.int 1]) (rest := []) ⟨hx, hb, hml, hown, hts⟩ (c_next1 l G y H.size dw u_1 ) (cwV 1 hts gX10_oneYear_X2_next rfl rfl rfl (by decide +kernel) ⟨Nat.le_of_ble_eq_true rfl, Nat.le_of_ble_eq_true rfl⟩) (nq_PV hK hP hD [6] rfl rfl 6 rfl rfl) rfl rfl hl.1 rfl (lv_room (Nat.le_of_ble_eq_true rfl)) dX10_oneYear_75 ⟨Nat.le_of_ble_eq_true rfl, Nat.le_of_ble_eq_true rfl⟩) hP hD hS hA [6] [0, 1, 2, 3, 4, 5] rfl rfl (by decide) (by decide) (fun r_8 u_6 H locs hw_7 hP hD hS => ?_)
      have hP : va_P G vwCl [(h0, .inr (10, [.ref tp, .int 0, .int (-1), .ref ps, .ref sp, .ref tk, .ref dr, .ref pr, .ref da, .ref nw, .ref im, .int 0, .ref ac, .ref ke, .ref si, .ref tx, .ref an, .ref dw])), (ps, .inl (y 3, 4, .inr (.inr (.inr (.inr (fun _ => none)))))), (ac, .inr (0, [.ref nw, .ref ac1, .ref ac2, .ref ac3])), (nw, .inr (6, [.ref nwt, .ref nwb, .int 0, .ref nwn, .ref nwi, .int 0, .ref nwr])), (nwt, .inr (9, [.ref nwtk, .ref nwtv, .ref nwte, .ref nwtd, .int 1])), (nwtk, .inl (y 0, 60, .inl (upd (fun _ => 0) 0 3))), (dw, .inr (2, [.int u_6]))] H := hP
      have hD : va_D A [(h0, .inr (10, [.ref tp, .int 0, .int (-1), .ref ps, .ref sp, .ref tk, .ref dr, .ref pr, .ref da, .ref nw, .ref im, .int 0, .ref ac, .ref ke, .ref si, .ref tx, .ref an, .ref dw])), (ps, .inl (y 3, 4, .inr (.inr (.inr (.inr (fun _ => none)))))), (ac, .inr (0, [.ref nw, .ref ac1, .ref ac2, .ref ac3])), (nw, .inr (6, [.ref nwt, .ref nwb, .int 0, .ref nwn, .ref nwi, .int 0, .ref nwr])), (nwt, .inr (9, [.ref nwtk, .ref nwtv, .ref nwte, .ref nwtd, .int 1])), (nwtk, .inl (y 0, 60, .inl (upd (fun _ => 0) 0 3))), (dw, .inr (2, [.int u_6]))] := hD
      refine lv_istore_n (lv' := [(2, .int r_8), (1, .int r_3), (0, .ref h0)]) hx hb dX10_oneYear_78 rfl hl (by decide) rfl (fun ls hl => ?_)
      refine lv_aload_n hx hb dX10_oneYear_79 rfl (lv_at hl 2 rfl) ?_
      refine va_get (D := G) (ci := 10) (v := .ref ac) (C := RX10) (T := TX10) (N := 18) hx hb hts inX10 hown hK.1 hP 0 rfl rfl 12 (by decide) (hts (.fieldLink RX10 75 "NestQuery" "acts" "LNestQuery$Acts;") (by decide +kernel)) (fun _ h9 => h9) rfl dX10_oneYear_80 ?_
      refine lv_iload_n hx hb dX10_oneYear_83 rfl (lv_at hl 0 rfl) ?_
      refine lv_aload_n hx hb dX10_oneYear_84 rfl (lv_at hl 2 rfl) ?_
      refine va_get (D := G) (ci := 10) (v := .ref dw) (C := RX10) (T := TX10) (N := 18) hx hb hts inX10 hown hK.1 hP 0 rfl rfl 17 (by decide) (hts (.fieldLink RX10 103 "NestQuery" "draws" "LNestQuery$Draws;") (by decide +kernel)) (fun _ h9 => h9) rfl dX10_oneYear_85 ?_
      refine lv_aload_n hx hb dX10_oneYear_88 rfl (lv_at hl 2 rfl) ?_
      refine va_get (D := G) (ci := 10) (v := .ref nw) (C := RX10) (T := TX10) (N := 18) hx hb hts inX10 hown hK.1 hP 0 rfl rfl 9 (by decide) (hts (.fieldLink RX10 63 "NestQuery" "now" "LNestQuery$State;") (by decide +kernel)) (fun _ h9 => h9) rfl dX10_oneYear_89 ?_
      refine va_getN (D := G) (ci := 6) (v := .ref nwt) (C := RX6) (T := TX6) (N := 7) hx hb hts inX6 hown hK.1 hP 3 rfl rfl 0 (by decide) (nl_13 hK) (fun _ h9 => h9) rfl dX10_oneYear_92 ?_
      refine va_getN (D := G) (ci := 9) (v := .int 1) (C := RX9) (T := TX9) (N := 5) hx hb hts inX9 hown hK.1 hP 4 rfl rfl 4 (by decide) (nl_11 hK) (fun _ h9 => h9) rfl dX10_oneYear_95 ?_
      refine nq_wri (wr := [(h0, .inr (10, [.ref tp, .int 0, .int (-1), .ref ps, .ref sp, .ref tk, .ref dr, .ref pr, .ref da, .ref nw, .ref im, .int 0, .ref ac, .ref ke, .ref si, .ref tx, .ref an, .ref dw])), (ps, .inl (y 3, 4, .inr (.inr (.inr (.inr (fun _ => none)))))), (ac, .inr (0, [.ref nw, .ref ac1, .ref ac2, .ref ac3])), (nw, .inr (6, [.ref nwt, .ref nwb, .int 0, .ref nwn, .ref nwi, .int 0, .ref nwr])), (nwt, .inr (9, [.ref nwtk, .ref nwtv, .ref nwte, .ref nwtd, .int 1])), (nwtk, .inl (y 0, 60, .inl (upd (fun _ => 0) 0 3)))]) (va_runV (As := [.int 1]) (rest := [.int r_8, .ref ac]) ⟨hx, hb, hml, hown, hts⟩ (c_next1 l G y H.size dw u_6 ) (cwV 1 hts gX10_oneYear_X2_next rfl rfl rfl (by decide +kernel) ⟨Nat.le_of_ble_eq_true rfl, Nat.le_of_ble_eq_true rfl⟩) (nq_PV hK hP hD [6] rfl rfl 6 rfl rfl) rfl rfl hl.1 rfl (lv_room (Nat.le_of_ble_eq_true rfl)) dX10_oneYear_98 ⟨Nat.le_of_ble_eq_true rfl, Nat.le_of_ble_eq_true rfl⟩) hP hD hS hA [6] [0, 1, 2, 3, 4, 5] rfl rfl (by decide) (by decide) (fun r_11 u_9 H locs hw_10 hP hD hS => ?_)
      have hP : va_P G vwCl [(h0, .inr (10, [.ref tp, .int 0, .int (-1), .ref ps, .ref sp, .ref tk, .ref dr, .ref pr, .ref da, .ref nw, .ref im, .int 0, .ref ac, .ref ke, .ref si, .ref tx, .ref an, .ref dw])), (ps, .inl (y 3, 4, .inr (.inr (.inr (.inr (fun _ => none)))))), (ac, .inr (0, [.ref nw, .ref ac1, .ref ac2, .ref ac3])), (nw, .inr (6, [.ref nwt, .ref nwb, .int 0, .ref nwn, .ref nwi, .int 0, .ref nwr])), (nwt, .inr (9, [.ref nwtk, .ref nwtv, .ref nwte, .ref nwtd, .int 1])), (nwtk, .inl (y 0, 60, .inl (upd (fun _ => 0) 0 3))), (dw, .inr (2, [.int u_9]))] H := hP
      have hD : va_D A [(h0, .inr (10, [.ref tp, .int 0, .int (-1), .ref ps, .ref sp, .ref tk, .ref dr, .ref pr, .ref da, .ref nw, .ref im, .int 0, .ref ac, .ref ke, .ref si, .ref tx, .ref an, .ref dw])), (ps, .inl (y 3, 4, .inr (.inr (.inr (.inr (fun _ => none)))))), (ac, .inr (0, [.ref nw, .ref ac1, .ref ac2, .ref ac3])), (nw, .inr (6, [.ref nwt, .ref nwb, .int 0, .ref nwn, .ref nwi, .int 0, .ref nwr])), (nwt, .inr (9, [.ref nwtk, .ref nwtv, .ref nwte, .ref nwtd, .int 1])), (nwtk, .inl (y 0, 60, .inl (upd (fun _ => 0) 0 3))), (dw, .inr (2, [.int u_9]))] := hD
      refine lv_iconst (v := 0) hx hb dX10_oneYear_101 (by decide) ?_
      refine nq_rdi (va_runV (As := [.int r_8, .int r_11, .int 0]) (rest := []) ⟨hx, hb, hml, hown, hts⟩ (c_moveThing l G y H.size ac nw ac1 ac2 ac3 nwt nwb nwn nwi nwr nwtk nwtv nwte nwtd r_8 r_11 0 ) (cwV 3 hts gX10_oneYear_X0_moveThing rfl rfl rfl (by decide +kernel) ⟨Nat.le_of_ble_eq_true rfl, Nat.le_of_ble_eq_true rfl⟩) (nq_PV hK hP hD [2, 3, 4, 5] rfl rfl 2 rfl rfl) rfl rfl hl.1 rfl (lv_room (Nat.le_of_ble_eq_true rfl)) dX10_oneYear_102 ⟨Nat.le_of_ble_eq_true rfl, Nat.le_of_ble_eq_true rfl⟩) hP hS hA (fun r_12 H locs hw_13 hP hS => ?_)
      subst hw_13
      have hP9 := hP.sub (ws' := [(h0, .inr (10, [.ref tp, .int 0, .int (-1), .ref ps, .ref sp, .ref tk, .ref dr, .ref pr, .ref da, .ref nw, .ref im, .int 0, .ref ac, .ref ke, .ref si, .ref tx, .ref an, .ref dw])), (ps, .inl (y 3, 4, .inr (.inr (.inr (.inr (fun _ => none)))))), (ac, .inr (0, [.ref nw, .ref ac1, .ref ac2, .ref ac3])), (nw, .inr (6, [.ref nwt, .ref nwb, .int 0, .ref nwn, .ref nwi, .int 0, .ref nwr])), (nwt, .inr (9, [.ref nwtk, .ref nwtv, .ref nwte, .ref nwtd, .int 1])), (nwtk, .inl (y 0, 60, .inl (upd (fun _ => 0) 0 3))), (dw, .inr (2, [.int u_9]))]) [0, 1, 2, 3, 4, 5, 6] rfl
      have hD9 := hD.sub (ws' := [(h0, .inr (10, [.ref tp, .int 0, .int (-1), .ref ps, .ref sp, .ref tk, .ref dr, .ref pr, .ref da, .ref nw, .ref im, .int 0, .ref ac, .ref ke, .ref si, .ref tx, .ref an, .ref dw])), (ps, .inl (y 3, 4, .inr (.inr (.inr (.inr (fun _ => none)))))), (ac, .inr (0, [.ref nw, .ref ac1, .ref ac2, .ref ac3])), (nw, .inr (6, [.ref nwt, .ref nwb, .int 0, .ref nwn, .ref nwi, .int 0, .ref nwr])), (nwt, .inr (9, [.ref nwtk, .ref nwtv, .ref nwte, .ref nwtd, .int 1])), (nwtk, .inl (y 0, 60, .inl (upd (fun _ => 0) 0 3))), (dw, .inr (2, [.int u_9]))]) [0, 1, 2, 3, 4, 5, 6] (by decide) rfl
      refine W.widen (k := 0) (n := 0) (Nat.le_of_ble_eq_true rfl) (Nat.le_of_ble_eq_true rfl) ?_
      exact W.iret (v := (-1)) hx hb hr (fun t ht hW => ⟨⟨(-1), (u_9), rfl, rfl, by rw [ht]; exact hP9, by first | exact hD9 | (rw [hAe]; exact hD9)⟩, hS.F ht⟩) hS.2.2 dX10_oneYear_105
    · refine lv_aload_n hx hb dX10_oneYear_45 rfl (lv_at hl 1 rfl) ?_
      refine lv_aload_n hx hb dX10_oneYear_46 rfl (lv_at hl 1 rfl) ?_
      refine va_get (D := G) (ci := 10) (v := .ref dw) (C := RX10) (T := TX10) (N := 18) hx hb hts inX10 hown hK.1 hP 0 rfl rfl 17 (by decide) (hts (.fieldLink RX10 103 "NestQuery" "draws" "LNestQuery$Draws;") (by decide +kernel)) (fun _ h9 => h9) rfl dX10_oneYear_47 ?_
      refine lv_iconst (v := 4) hx hb dX10_oneYear_50 (by decide) ?_
      refine nq_wri (wr := [(h0, .inr (10, [.ref tp, .int 0, .int (-1), .ref ps, .ref sp, .ref tk, .ref dr, .ref pr, .ref da, .ref nw, .ref im, .int 0, .ref ac, .ref ke, .ref si, .ref tx, .ref an, .ref dw])), (ps, .inl (y 3, 4, .inr (.inr (.inr (.inr (fun _ => none)))))), (ac, .inr (0, [.ref nw, .ref ac1, .ref ac2, .ref ac3])), (nw, .inr (6, [.ref nwt, .ref nwb, .int 0, .ref nwn, .ref nwi, .int 0, .ref nwr])), (nwt, .inr (9, [.ref nwtk, .ref nwtv, .ref nwte, .ref nwtd, .int 1])), (nwtk, .inl (y 0, 60, .inl (upd (fun _ => 0) 0 3)))]) (va_runV (As := [.int 4]) (rest := [.ref h0]) ⟨hx, hb, hml, hown, hts⟩ (c_next4 l G y H.size dw u_1 ) (cwV 1 hts gX10_oneYear_X2_next rfl rfl rfl (by decide +kernel) ⟨Nat.le_of_ble_eq_true rfl, Nat.le_of_ble_eq_true rfl⟩) (nq_PV hK hP hD [6] rfl rfl 6 rfl rfl) rfl rfl hl.1 rfl (lv_room (Nat.le_of_ble_eq_true rfl)) dX10_oneYear_51 ⟨Nat.le_of_ble_eq_true rfl, Nat.le_of_ble_eq_true rfl⟩) hP hD hS hA [6] [0, 1, 2, 3, 4, 5] rfl rfl (by decide) (by decide) (fun r_16 u_14 H locs hw_15 hP hD hS => ?_)
      have hP : va_P G vwCl [(h0, .inr (10, [.ref tp, .int 0, .int (-1), .ref ps, .ref sp, .ref tk, .ref dr, .ref pr, .ref da, .ref nw, .ref im, .int 0, .ref ac, .ref ke, .ref si, .ref tx, .ref an, .ref dw])), (ps, .inl (y 3, 4, .inr (.inr (.inr (.inr (fun _ => none)))))), (ac, .inr (0, [.ref nw, .ref ac1, .ref ac2, .ref ac3])), (nw, .inr (6, [.ref nwt, .ref nwb, .int 0, .ref nwn, .ref nwi, .int 0, .ref nwr])), (nwt, .inr (9, [.ref nwtk, .ref nwtv, .ref nwte, .ref nwtd, .int 1])), (nwtk, .inl (y 0, 60, .inl (upd (fun _ => 0) 0 3))), (dw, .inr (2, [.int u_14]))] H := hP
      have hD : va_D A [(h0, .inr (10, [.ref tp, .int 0, .int (-1), .ref ps, .ref sp, .ref tk, .ref dr, .ref pr, .ref da, .ref nw, .ref im, .int 0, .ref ac, .ref ke, .ref si, .ref tx, .ref an, .ref dw])), (ps, .inl (y 3, 4, .inr (.inr (.inr (.inr (fun _ => none)))))), (ac, .inr (0, [.ref nw, .ref ac1, .ref ac2, .ref ac3])), (nw, .inr (6, [.ref nwt, .ref nwb, .int 0, .ref nwn, .ref nwi, .int 0, .ref nwr])), (nwt, .inr (9, [.ref nwtk, .ref nwtv, .ref nwte, .ref nwtd, .int 1])), (nwtk, .inl (y 0, 60, .inl (upd (fun _ => 0) 0 3))), (dw, .inr (2, [.int u_14]))] := hD
      refine lv_iload_n hx hb dX10_oneYear_54 rfl (lv_at hl 0 rfl) ?_
      refine lv_iconst (v := 1) hx hb dX10_oneYear_55 (by decide) ?_
      refine lv_isub hx hb dX10_oneYear_56 ?_
      refine lv_topi (fun w_17 _ => ?_)
      refine nq_rdi (va_runV (As := [.int r_16, .int w_17]) (rest := []) ⟨hx, hb, hml, hown, hts⟩ (c_changing l G y H.size h0 tp ps sp tk dr pr da nw im ac ke si tx an dw r_16 w_17 ) (cwV 2 hts gX10_oneYear_X10_changing rfl rfl rfl (by decide +kernel) ⟨Nat.le_of_ble_eq_true rfl, Nat.le_of_ble_eq_true rfl⟩) (nq_PV hK hP hD [0, 1] rfl rfl 0 rfl rfl) rfl rfl hl.1 rfl (lv_room (Nat.le_of_ble_eq_true rfl)) dX10_oneYear_57 ⟨Nat.le_of_ble_eq_true rfl, Nat.le_of_ble_eq_true rfl⟩) hP hS hA (fun r_18 H locs hw_19 hP hS => ?_)
      subst hw_19
      have hP9 := hP.sub (ws' := [(h0, .inr (10, [.ref tp, .int 0, .int (-1), .ref ps, .ref sp, .ref tk, .ref dr, .ref pr, .ref da, .ref nw, .ref im, .int 0, .ref ac, .ref ke, .ref si, .ref tx, .ref an, .ref dw])), (ps, .inl (y 3, 4, .inr (.inr (.inr (.inr (fun _ => none)))))), (ac, .inr (0, [.ref nw, .ref ac1, .ref ac2, .ref ac3])), (nw, .inr (6, [.ref nwt, .ref nwb, .int 0, .ref nwn, .ref nwi, .int 0, .ref nwr])), (nwt, .inr (9, [.ref nwtk, .ref nwtv, .ref nwte, .ref nwtd, .int 1])), (nwtk, .inl (y 0, 60, .inl (upd (fun _ => 0) 0 3))), (dw, .inr (2, [.int u_14]))]) [0, 1, 2, 3, 4, 5, 6] rfl
      have hD9 := hD.sub (ws' := [(h0, .inr (10, [.ref tp, .int 0, .int (-1), .ref ps, .ref sp, .ref tk, .ref dr, .ref pr, .ref da, .ref nw, .ref im, .int 0, .ref ac, .ref ke, .ref si, .ref tx, .ref an, .ref dw])), (ps, .inl (y 3, 4, .inr (.inr (.inr (.inr (fun _ => none)))))), (ac, .inr (0, [.ref nw, .ref ac1, .ref ac2, .ref ac3])), (nw, .inr (6, [.ref nwt, .ref nwb, .int 0, .ref nwn, .ref nwi, .int 0, .ref nwr])), (nwt, .inr (9, [.ref nwtk, .ref nwtv, .ref nwte, .ref nwtd, .int 1])), (nwtk, .inl (y 0, 60, .inl (upd (fun _ => 0) 0 3))), (dw, .inr (2, [.int u_14]))]) [0, 1, 2, 3, 4, 5, 6] (by decide) rfl
      refine W.widen (k := 0) (n := 0) (Nat.le_of_ble_eq_true rfl) (Nat.le_of_ble_eq_true rfl) ?_
      exact W.iret (v := (-1)) hx hb hr (fun t ht hW => ⟨⟨(-1), (u_14), rfl, rfl, by rw [ht]; exact hP9, by first | exact hD9 | (rw [hAe]; exact hD9)⟩, hS.F ht⟩) hS.2.2 dX10_oneYear_60
  · subst c_4
    refine lv_aload_n hx hb dX10_oneYear_13 rfl (lv_at hl 1 rfl) ?_
    refine va_get (D := G) (ci := 10) (v := .ref dw) (C := RX10) (T := TX10) (N := 18) hx hb hts inX10 hown hK.1 hP 0 rfl rfl 17 (by decide) (hts (.fieldLink RX10 103 "NestQuery" "draws" "LNestQuery$Draws;") (by decide +kernel)) (fun _ h9 => h9) rfl dX10_oneYear_14 ?_
    refine lv_iconst (v := 4) hx hb dX10_oneYear_17 (by decide) ?_
    refine nq_wri (wr := [(h0, .inr (10, [.ref tp, .int 0, .int (-1), .ref ps, .ref sp, .ref tk, .ref dr, .ref pr, .ref da, .ref nw, .ref im, .int 0, .ref ac, .ref ke, .ref si, .ref tx, .ref an, .ref dw])), (ps, .inl (y 3, 4, .inr (.inr (.inr (.inr (fun _ => none)))))), (ac, .inr (0, [.ref nw, .ref ac1, .ref ac2, .ref ac3])), (nw, .inr (6, [.ref nwt, .ref nwb, .int 0, .ref nwn, .ref nwi, .int 0, .ref nwr])), (nwt, .inr (9, [.ref nwtk, .ref nwtv, .ref nwte, .ref nwtd, .int 1])), (nwtk, .inl (y 0, 60, .inl (upd (fun _ => 0) 0 3)))]) (va_runV (As := [.int 4]) (rest := []) ⟨hx, hb, hml, hown, hts⟩ (c_next4 l G y H.size dw u_1 ) (cwV 1 hts gX10_oneYear_X2_next rfl rfl rfl (by decide +kernel) ⟨Nat.le_of_ble_eq_true rfl, Nat.le_of_ble_eq_true rfl⟩) (nq_PV hK hP hD [6] rfl rfl 6 rfl rfl) rfl rfl hl.1 rfl (lv_room (Nat.le_of_ble_eq_true rfl)) dX10_oneYear_18 ⟨Nat.le_of_ble_eq_true rfl, Nat.le_of_ble_eq_true rfl⟩) hP hD hS hA [6] [0, 1, 2, 3, 4, 5] rfl rfl (by decide) (by decide) (fun r_22 u_20 H locs hw_21 hP hD hS => ?_)
    have hP : va_P G vwCl [(h0, .inr (10, [.ref tp, .int 0, .int (-1), .ref ps, .ref sp, .ref tk, .ref dr, .ref pr, .ref da, .ref nw, .ref im, .int 0, .ref ac, .ref ke, .ref si, .ref tx, .ref an, .ref dw])), (ps, .inl (y 3, 4, .inr (.inr (.inr (.inr (fun _ => none)))))), (ac, .inr (0, [.ref nw, .ref ac1, .ref ac2, .ref ac3])), (nw, .inr (6, [.ref nwt, .ref nwb, .int 0, .ref nwn, .ref nwi, .int 0, .ref nwr])), (nwt, .inr (9, [.ref nwtk, .ref nwtv, .ref nwte, .ref nwtd, .int 1])), (nwtk, .inl (y 0, 60, .inl (upd (fun _ => 0) 0 3))), (dw, .inr (2, [.int u_20]))] H := hP
    have hD : va_D A [(h0, .inr (10, [.ref tp, .int 0, .int (-1), .ref ps, .ref sp, .ref tk, .ref dr, .ref pr, .ref da, .ref nw, .ref im, .int 0, .ref ac, .ref ke, .ref si, .ref tx, .ref an, .ref dw])), (ps, .inl (y 3, 4, .inr (.inr (.inr (.inr (fun _ => none)))))), (ac, .inr (0, [.ref nw, .ref ac1, .ref ac2, .ref ac3])), (nw, .inr (6, [.ref nwt, .ref nwb, .int 0, .ref nwn, .ref nwi, .int 0, .ref nwr])), (nwt, .inr (9, [.ref nwtk, .ref nwtv, .ref nwte, .ref nwtd, .int 1])), (nwtk, .inl (y 0, 60, .inl (upd (fun _ => 0) 0 3))), (dw, .inr (2, [.int u_20]))] := hD
    refine lv_istore_n (lv' := [(2, .int r_22), (1, .int 0), (0, .ref h0)]) hx hb dX10_oneYear_21 rfl hl (by decide) rfl (fun ls hl => ?_)
    refine lv_aload_n hx hb dX10_oneYear_22 rfl (lv_at hl 2 rfl) ?_
    refine lv_iload_n hx hb dX10_oneYear_23 rfl (lv_at hl 0 rfl) ?_
    refine lv_aload_n hx hb dX10_oneYear_24 rfl (lv_at hl 2 rfl) ?_
    refine va_get (D := G) (ci := 10) (v := .ref dw) (C := RX10) (T := TX10) (N := 18) hx hb hts inX10 hown hK.1 hP 0 rfl rfl 17 (by decide) (hts (.fieldLink RX10 103 "NestQuery" "draws" "LNestQuery$Draws;") (by decide +kernel)) (fun _ h9 => h9) rfl dX10_oneYear_25 ?_
    refine lv_bipush (v := 21) hx hb dX10_oneYear_28 (by decide) ?_
    refine nq_wri (wr := [(h0, .inr (10, [.ref tp, .int 0, .int (-1), .ref ps, .ref sp, .ref tk, .ref dr, .ref pr, .ref da, .ref nw, .ref im, .int 0, .ref ac, .ref ke, .ref si, .ref tx, .ref an, .ref dw])), (ps, .inl (y 3, 4, .inr (.inr (.inr (.inr (fun _ => none)))))), (ac, .inr (0, [.ref nw, .ref ac1, .ref ac2, .ref ac3])), (nw, .inr (6, [.ref nwt, .ref nwb, .int 0, .ref nwn, .ref nwi, .int 0, .ref nwr])), (nwt, .inr (9, [.ref nwtk, .ref nwtv, .ref nwte, .ref nwtd, .int 1])), (nwtk, .inl (y 0, 60, .inl (upd (fun _ => 0) 0 3)))]) (va_runV (As := [.int 21]) (rest := [.int r_22, .ref h0]) ⟨hx, hb, hml, hown, hts⟩ (c_next21 l G y H.size dw u_20 ) (cwV 1 hts gX10_oneYear_X2_next rfl rfl rfl (by decide +kernel) ⟨Nat.le_of_ble_eq_true rfl, Nat.le_of_ble_eq_true rfl⟩) (nq_PV hK hP hD [6] rfl rfl 6 rfl rfl) rfl rfl hl.1 rfl (lv_room (Nat.le_of_ble_eq_true rfl)) dX10_oneYear_30 ⟨Nat.le_of_ble_eq_true rfl, Nat.le_of_ble_eq_true rfl⟩) hP hD hS hA [6] [0, 1, 2, 3, 4, 5] rfl rfl (by decide) (by decide) (fun r_25 u_23 H locs hw_24 hP hD hS => ?_)
    have hP : va_P G vwCl [(h0, .inr (10, [.ref tp, .int 0, .int (-1), .ref ps, .ref sp, .ref tk, .ref dr, .ref pr, .ref da, .ref nw, .ref im, .int 0, .ref ac, .ref ke, .ref si, .ref tx, .ref an, .ref dw])), (ps, .inl (y 3, 4, .inr (.inr (.inr (.inr (fun _ => none)))))), (ac, .inr (0, [.ref nw, .ref ac1, .ref ac2, .ref ac3])), (nw, .inr (6, [.ref nwt, .ref nwb, .int 0, .ref nwn, .ref nwi, .int 0, .ref nwr])), (nwt, .inr (9, [.ref nwtk, .ref nwtv, .ref nwte, .ref nwtd, .int 1])), (nwtk, .inl (y 0, 60, .inl (upd (fun _ => 0) 0 3))), (dw, .inr (2, [.int u_23]))] H := hP
    have hD : va_D A [(h0, .inr (10, [.ref tp, .int 0, .int (-1), .ref ps, .ref sp, .ref tk, .ref dr, .ref pr, .ref da, .ref nw, .ref im, .int 0, .ref ac, .ref ke, .ref si, .ref tx, .ref an, .ref dw])), (ps, .inl (y 3, 4, .inr (.inr (.inr (.inr (fun _ => none)))))), (ac, .inr (0, [.ref nw, .ref ac1, .ref ac2, .ref ac3])), (nw, .inr (6, [.ref nwt, .ref nwb, .int 0, .ref nwn, .ref nwi, .int 0, .ref nwr])), (nwt, .inr (9, [.ref nwtk, .ref nwtv, .ref nwte, .ref nwtd, .int 1])), (nwtk, .inl (y 0, 60, .inl (upd (fun _ => 0) 0 3))), (dw, .inr (2, [.int u_23]))] := hD
    refine lv_bipush (v := 10) hx hb dX10_oneYear_33 (by decide) ?_
    refine lv_isub hx hb dX10_oneYear_35 ?_
    refine lv_topi (fun w_26 _ => ?_)
    refine nq_rdi (va_runV (As := [.int r_22, .int w_26]) (rest := []) ⟨hx, hb, hml, hown, hts⟩ (c_adding l G y H.size h0 tp ps sp tk dr pr da nw im ac ke si tx an dw r_22 w_26 ) (cwV 2 hts gX10_oneYear_X10_adding rfl rfl rfl (by decide +kernel) ⟨Nat.le_of_ble_eq_true rfl, Nat.le_of_ble_eq_true rfl⟩) (nq_PV hK hP hD [0, 1] rfl rfl 0 rfl rfl) rfl rfl hl.1 rfl (lv_room (Nat.le_of_ble_eq_true rfl)) dX10_oneYear_36 ⟨Nat.le_of_ble_eq_true rfl, Nat.le_of_ble_eq_true rfl⟩) hP hS hA (fun r_27 H locs hw_28 hP hS => ?_)
    subst hw_28
    have hP9 := hP.sub (ws' := [(h0, .inr (10, [.ref tp, .int 0, .int (-1), .ref ps, .ref sp, .ref tk, .ref dr, .ref pr, .ref da, .ref nw, .ref im, .int 0, .ref ac, .ref ke, .ref si, .ref tx, .ref an, .ref dw])), (ps, .inl (y 3, 4, .inr (.inr (.inr (.inr (fun _ => none)))))), (ac, .inr (0, [.ref nw, .ref ac1, .ref ac2, .ref ac3])), (nw, .inr (6, [.ref nwt, .ref nwb, .int 0, .ref nwn, .ref nwi, .int 0, .ref nwr])), (nwt, .inr (9, [.ref nwtk, .ref nwtv, .ref nwte, .ref nwtd, .int 1])), (nwtk, .inl (y 0, 60, .inl (upd (fun _ => 0) 0 3))), (dw, .inr (2, [.int u_23]))]) [0, 1, 2, 3, 4, 5, 6] rfl
    have hD9 := hD.sub (ws' := [(h0, .inr (10, [.ref tp, .int 0, .int (-1), .ref ps, .ref sp, .ref tk, .ref dr, .ref pr, .ref da, .ref nw, .ref im, .int 0, .ref ac, .ref ke, .ref si, .ref tx, .ref an, .ref dw])), (ps, .inl (y 3, 4, .inr (.inr (.inr (.inr (fun _ => none)))))), (ac, .inr (0, [.ref nw, .ref ac1, .ref ac2, .ref ac3])), (nw, .inr (6, [.ref nwt, .ref nwb, .int 0, .ref nwn, .ref nwi, .int 0, .ref nwr])), (nwt, .inr (9, [.ref nwtk, .ref nwtv, .ref nwte, .ref nwtd, .int 1])), (nwtk, .inl (y 0, 60, .inl (upd (fun _ => 0) 0 3))), (dw, .inr (2, [.int u_23]))]) [0, 1, 2, 3, 4, 5, 6] (by decide) rfl
    refine W.widen (k := 0) (n := 0) (Nat.le_of_ble_eq_true rfl) (Nat.le_of_ble_eq_true rfl) ?_
    exact W.iret (v := (-1)) hx hb hr (fun t ht hW => ⟨⟨(-1), (u_23), rfl, rfl, by rw [ht]; exact hP9, by first | exact hD9 | (rw [hAe]; exact hD9)⟩, hS.F ht⟩) hS.2.2 dX10_oneYear_39

set_option maxHeartbeats 400000 in
set_option maxRecDepth 100000 in
theorem x_years (l : Launch) (hl0 : l.stackTraces = false) (G : va_G) (y : Nat → ClassId) (sz : Nat) (h0 : Nat) (tp : Nat) (ps : Nat) (sp : Nat) (tk : Nat) (dr : Nat) (pr : Nat) (da : Nat) (nw : Nat) (im : Nat) (ac : Nat) (ke : Nat) (si : Nat) (tx : Nat) (an : Nat) (dw : Nat) (ac1 : Nat) (ac2 : Nat) (ac3 : Nat) (nwt : Nat) (nwb : Nat) (nwn : Nat) (nwi : Nat) (nwr : Nat) (nwtk : Nat) (nwtv : Nat) (nwte : Nat) (nwtd : Nat) (a : Int32) (n : Int32) (i : Int32)  : vx_Met l yX10_years wsX10_years ({ frames := 6, cells := 1, slots := 6, locals := 100 }) (nq_PX G y sz [.ref h0, .int a, .int n, .int i] [(h0, .inr (10, [.ref tp, .int 0, .int (-1), .ref ps, .ref sp, .ref tk, .ref dr, .ref pr, .ref da, .ref nw, .ref im, .int 0, .ref ac, .ref ke, .ref si, .ref tx, .ref an, .ref dw])), (ps, .inl (y 3, 4, .inr (.inr (.inr (.inr (fun _ => none)))))), (ac, .inr (0, [.ref nw, .ref ac1, .ref ac2, .ref ac3])), (nw, .inr (6, [.ref nwt, .ref nwb, .int 0, .ref nwn, .ref nwi, .int 0, .ref nwr])), (nwt, .inr (9, [.ref nwtk, .ref nwtv, .ref nwte, .ref nwtd, .int 1])), (nwtk, .inl (y 0, 60, .inl (upd (fun _ => 0) 0 3))), (dw, .inr (2, [.int 0]))]) (va_Qi (fun (r : Int32) (_ : Unit) => (sp_years a n i).1 = 0 ∧ r = (sp_years a n i).2) (fun (u : Unit) t9 => va_P G vwCl ([]) t9.heap ∧ va_D (va_A [(h0, .inr (10, [.ref tp, .int 0, .int (-1), .ref ps, .ref sp, .ref tk, .ref dr, .ref pr, .ref da, .ref nw, .ref im, .int 0, .ref ac, .ref ke, .ref si, .ref tx, .ref an, .ref dw])), (ps, .inl (y 3, 4, .inr (.inr (.inr (.inr (fun _ => none)))))), (ac, .inr (0, [.ref nw, .ref ac1, .ref ac2, .ref ac3])), (nw, .inr (6, [.ref nwt, .ref nwb, .int 0, .ref nwn, .ref nwi, .int 0, .ref nwr])), (nwt, .inr (9, [.ref nwtk, .ref nwtv, .ref nwte, .ref nwtd, .int 1])), (nwtk, .inl (y 0, 60, .inl (upd (fun _ => 0) 0 3))), (dw, .inr (2, [.int 0]))] sz) ([])) (va_A [(h0, .inr (10, [.ref tp, .int 0, .int (-1), .ref ps, .ref sp, .ref tk, .ref dr, .ref pr, .ref da, .ref nw, .ref im, .int 0, .ref ac, .ref ke, .ref si, .ref tx, .ref an, .ref dw])), (ps, .inl (y 3, 4, .inr (.inr (.inr (.inr (fun _ => none)))))), (ac, .inr (0, [.ref nw, .ref ac1, .ref ac2, .ref ac3])), (nw, .inr (6, [.ref nwt, .ref nwb, .int 0, .ref nwn, .ref nwi, .int 0, .ref nwr])), (nwt, .inr (9, [.ref nwtk, .ref nwtv, .ref nwte, .ref nwtd, .int 1])), (nwtk, .inl (y 0, 60, .inl (upd (fun _ => 0) 0 3))), (dw, .inr (2, [.int 0]))] sz)) (vx_X (fun (_ : Unit) => True) (fun E _ _ => (E = nq_NSE ∧ (sp_years a n i).1 = 1) ∨ (E = nq_IAE ∧ (sp_years a n i).1 = 2)) (va_A [(h0, .inr (10, [.ref tp, .int 0, .int (-1), .ref ps, .ref sp, .ref tk, .ref dr, .ref pr, .ref da, .ref nw, .ref im, .int 0, .ref ac, .ref ke, .ref si, .ref tx, .ref an, .ref dw])), (ps, .inl (y 3, 4, .inr (.inr (.inr (.inr (fun _ => none)))))), (ac, .inr (0, [.ref nw, .ref ac1, .ref ac2, .ref ac3])), (nw, .inr (6, [.ref nwt, .ref nwb, .int 0, .ref nwn, .ref nwi, .int 0, .ref nwr])), (nwt, .inr (9, [.ref nwtk, .ref nwtv, .ref nwte, .ref nwtd, .int 1])), (nwtk, .inl (y 0, 60, .inl (upd (fun _ => 0) 0 3))), (dw, .inr (2, [.int 0]))] sz)) 1 6 (va_A [(h0, .inr (10, [.ref tp, .int 0, .int (-1), .ref ps, .ref sp, .ref tk, .ref dr, .ref pr, .ref da, .ref nw, .ref im, .int 0, .ref ac, .ref ke, .ref si, .ref tx, .ref an, .ref dw])), (ps, .inl (y 3, 4, .inr (.inr (.inr (.inr (fun _ => none)))))), (ac, .inr (0, [.ref nw, .ref ac1, .ref ac2, .ref ac3])), (nw, .inr (6, [.ref nwt, .ref nwb, .int 0, .ref nwn, .ref nwi, .int 0, .ref nwr])), (nwt, .inr (9, [.ref nwtk, .ref nwtv, .ref nwte, .ref nwtd, .int 1])), (nwtk, .inl (y 0, 60, .inl (upd (fun _ => 0) 0 3))), (dw, .inr (2, [.int 0]))] sz) := by
  refine vx_ofW (cc := cX10_years) (maxL := 6) (ret := (some .int)) (by decide) rfl ?_
  intro p e s m args below meth c s₁ B hml htab hv
  obtain ⟨rfl, hsz, hP, hK, hD0, hXs⟩ := hv
  have hx := B.exec
  have hb := B.bytes
  have hr := B.returns
  have hts := atoms_spec (ws := wsX10_years) B.pre
  have hown : s.vm.findClass RX10 = some m.cls := findClass_of_methodNamed B.named
  have hlocks := B.notSynchronized
  subst hsz
  have hD := hD0.self (sz := s.heap.size)
  generalize hAe : va_A [(h0, .inr (10, [.ref tp, .int 0, .int (-1), .ref ps, .ref sp, .ref tk, .ref dr, .ref pr, .ref da, .ref nw, .ref im, .int 0, .ref ac, .ref ke, .ref si, .ref tx, .ref an, .ref dw])), (ps, .inl (y 3, 4, .inr (.inr (.inr (.inr (fun _ => none)))))), (ac, .inr (0, [.ref nw, .ref ac1, .ref ac2, .ref ac3])), (nw, .inr (6, [.ref nwt, .ref nwb, .int 0, .ref nwn, .ref nwi, .int 0, .ref nwr])), (nwt, .inr (9, [.ref nwtk, .ref nwtv, .ref nwte, .ref nwtd, .int 1])), (nwtk, .inl (y 0, 60, .inl (upd (fun _ => 0) 0 3))), (dw, .inr (2, [.int 0]))] s.heap.size = A at hD hXs ⊢
  have hA : ∀ q : Nat, s.heap.size ≤ q → A q := fun q h => by rw [← hAe]; exact Or.inr h
  have hS : va_S A s.heap s.heap [] := va_S.rf
  have hP : va_P G vwCl [(h0, .inr (10, [.ref tp, .int 0, .int (-1), .ref ps, .ref sp, .ref tk, .ref dr, .ref pr, .ref da, .ref nw, .ref im, .int 0, .ref ac, .ref ke, .ref si, .ref tx, .ref an, .ref dw])), (ps, .inl (y 3, 4, .inr (.inr (.inr (.inr (fun _ => none)))))), (ac, .inr (0, [.ref nw, .ref ac1, .ref ac2, .ref ac3])), (nw, .inr (6, [.ref nwt, .ref nwb, .int 0, .ref nwn, .ref nwi, .int 0, .ref nwr])), (nwt, .inr (9, [.ref nwtk, .ref nwtv, .ref nwte, .ref nwtd, .int 1])), (nwtk, .inl (y 0, 60, .inl (upd (fun _ => 0) 0 3))), (dw, .inr (2, [.int 0]))] s.heap := hP
  have inX10 : ∀ w ∈ wsX100, w ∈ wsX10_years := by decide +kernel
  have inX6 : ∀ w ∈ wsX60, w ∈ wsX10_years := by decide +kernel
  have inX9 : ∀ w ∈ wsX90, w ∈ wsX10_years := by decide +kernel
  have hl := lv_entry ([.ref h0, .int a, .int n, .int i]) (n := 6) (Nat.le_of_ble_eq_true rfl)
  rw [lg_entry_eq]
  generalize (lg_sl ([.ref h0, .int a, .int n, .int i]) ++ List.replicate (6 - (lg_sl ([.ref h0, .int a, .int n, .int i])).length) Slot.unset).toArray = ls at hl ⊢
  have hl : lv_has ls 6 [(0, .ref h0), (1, .int a), (2, .int n), (3, .int i)] := hl
  refine lv_iload_n hx hb dX10_years_0 rfl (lv_at hl 3 rfl) ?_
  refine lv_if_lt (tgt := 9) hx hb dX10_years_1 (by decide) (fun c_1 => ?_) (fun c_1 => ?_)
  · have hz_3 := nq_xeU (k := 0) (nq_hlt c_1 (j := (-1)) (by decide)) (by decide)
    have hz_4 := (nq_plt (k := 0) (nq_hlt c_1 (j := (-1)) (by decide)) (by decide) : i < 0)
    have hz_5 := (nq_ngt (k := 2) (nq_hlt c_1 (j := (-1)) (by decide)) (by decide) : ¬ 2 < i)
    exact nq_throwNW (BX := fun E => (E = nq_NSE ∧ (sp_years a n i).1 = 1) ∨ (E = nq_IAE ∧ (sp_years a n i).1 = 2)) (text := "no such question about years") hx hb hl0 hown hts (by first | exact fun w h => List.mem_cons_of_mem _ (List.mem_append_right _ h) | exact fun w h => List.mem_cons_of_mem _ (List.mem_append_left _ (List.mem_append_right _ h)) | decide +kernel) (by decide +kernel) (by decide +kernel) hXs hS (hl.1.trans hml.symm) htab hlocks (List.mem_of_getElem? (i := 12) rfl) dX10_years_9 dX10_years_12 dX10_years_13 dX10_years_16 dX10_years_19 (Nat.le_of_ble_eq_true rfl) (Nat.le_of_ble_eq_true rfl) (Nat.le_of_ble_eq_true rfl) (Nat.le_of_ble_eq_true rfl) (Or.inl (⟨rfl, by simp [sp_years, hz_3, hz_4, hz_5]⟩)) (Nat.le_of_ble_eq_true rfl) (Nat.le_of_ble_eq_true rfl)
  · refine lv_iload_n hx hb dX10_years_4 rfl (lv_at hl 3 rfl) ?_
    refine lv_iconst (v := 2) hx hb dX10_years_5 (by decide) ?_
    refine lv_icmp_le (tgt := 20) hx hb dX10_years_6 (by decide) (fun c_6 => ?_) (fun c_6 => ?_)
    · refine lv_iload_n hx hb dX10_years_20 rfl (lv_at hl 2 rfl) ?_
      refine lv_if_lt (tgt := 30) hx hb dX10_years_21 (by decide) (fun c_7 => ?_) (fun c_7 => ?_)
      · have hz_9 := (nq_nlt (k := 0) c_1 (by decide) : ¬ i < 0)
        have hz_10 := (nq_ngt (k := 2) (nq_hle c_6) (by decide) : ¬ 2 < i)
        have hz_11 := (nq_plt (k := 0) (nq_hlt c_7 (j := (-1)) (by decide)) (by decide) : n < 0)
        have hz_12 := (nq_ngt (k := 20) (nq_hlt c_7 (j := (-1)) (by decide)) (by decide) : ¬ 20 < n)
        exact nq_throwIW (BX := fun E => (E = nq_NSE ∧ (sp_years a n i).1 = 1) ∨ (E = nq_IAE ∧ (sp_years a n i).1 = 2)) (text := "no such number of years") hx hb hl0 hown hts (by first | exact fun w h => List.mem_cons_of_mem _ (List.mem_append_right _ h) | exact fun w h => List.mem_cons_of_mem _ (List.mem_append_left _ (List.mem_append_right _ h)) | decide +kernel) (by decide +kernel) (by decide +kernel) hXs hS (hl.1.trans hml.symm) htab hlocks (List.mem_of_getElem? (i := 13) rfl) dX10_years_30 dX10_years_33 dX10_years_34 dX10_years_37 dX10_years_40 (Nat.le_of_ble_eq_true rfl) (Nat.le_of_ble_eq_true rfl) (Nat.le_of_ble_eq_true rfl) (Nat.le_of_ble_eq_true rfl) (Or.inr (⟨rfl, by simp [sp_years, hz_9, hz_10, hz_11, hz_12]⟩)) (Nat.le_of_ble_eq_true rfl) (Nat.le_of_ble_eq_true rfl)
      · refine lv_iload_n hx hb dX10_years_24 rfl (lv_at hl 2 rfl) ?_
        refine lv_bipush (v := 20) hx hb dX10_years_25 (by decide) ?_
        refine lv_icmp_le (tgt := 41) hx hb dX10_years_27 (by decide) (fun c_13 => ?_) (fun c_13 => ?_)
        · refine lv_aload_n hx hb dX10_years_41 rfl (lv_at hl 0 rfl) ?_
          refine va_get (D := G) (ci := 10) (v := .ref dw) (C := RX10) (T := TX10) (N := 18) hx hb hts inX10 hown hK.1 hP 0 rfl rfl 17 (by decide) (hts (.fieldLink RX10 103 "NestQuery" "draws" "LNestQuery$Draws;") (by decide +kernel)) (fun _ h9 => h9) rfl dX10_years_42 ?_
          refine lv_iload_n hx hb dX10_years_45 rfl (lv_at hl 1 rfl) ?_
          refine nq_wrv (wr := [(h0, .inr (10, [.ref tp, .int 0, .int (-1), .ref ps, .ref sp, .ref tk, .ref dr, .ref pr, .ref da, .ref nw, .ref im, .int 0, .ref ac, .ref ke, .ref si, .ref tx, .ref an, .ref dw])), (ps, .inl (y 3, 4, .inr (.inr (.inr (.inr (fun _ => none)))))), (ac, .inr (0, [.ref nw, .ref ac1, .ref ac2, .ref ac3])), (nw, .inr (6, [.ref nwt, .ref nwb, .int 0, .ref nwn, .ref nwi, .int 0, .ref nwr])), (nwt, .inr (9, [.ref nwtk, .ref nwtv, .ref nwte, .ref nwtd, .int 1])), (nwtk, .inl (y 0, 60, .inl (upd (fun _ => 0) 0 3)))]) (va_runV (As := [.int a]) (rest := []) ⟨hx, hb, hml, hown, hts⟩ (c_Draws_begin l G y s.heap.size dw 0 a ) (cwV 1 hts gX10_years_X2_begin rfl rfl rfl (by decide +kernel) ⟨Nat.le_of_ble_eq_true rfl, Nat.le_of_ble_eq_true rfl⟩) (nq_PV hK hP hD [6] rfl rfl 6 rfl rfl) rfl rfl hl.1 rfl (lv_room (Nat.le_of_ble_eq_true rfl)) dX10_years_46 ⟨Nat.le_of_ble_eq_true rfl, Nat.le_of_ble_eq_true rfl⟩) hP hD hS hA [6] [0, 1, 2, 3, 4, 5] rfl rfl (by decide) (by decide) (fun u_14 H locs hw_15 hP hD hS => ?_)
          have hP : va_P G vwCl [(h0, .inr (10, [.ref tp, .int 0, .int (-1), .ref ps, .ref sp, .ref tk, .ref dr, .ref pr, .ref da, .ref nw, .ref im, .int 0, .ref ac, .ref ke, .ref si, .ref tx, .ref an, .ref dw])), (ps, .inl (y 3, 4, .inr (.inr (.inr (.inr (fun _ => none)))))), (ac, .inr (0, [.ref nw, .ref ac1, .ref ac2, .ref ac3])), (nw, .inr (6, [.ref nwt, .ref nwb, .int 0, .ref nwn, .ref nwi, .int 0, .ref nwr])), (nwt, .inr (9, [.ref nwtk, .ref nwtv, .ref nwte, .ref nwtd, .int 1])), (nwtk, .inl (y 0, 60, .inl (upd (fun _ => 0) 0 3))), (dw, .inr (2, [.int a]))] H := hP
          have hD : va_D A [(h0, .inr (10, [.ref tp, .int 0, .int (-1), .ref ps, .ref sp, .ref tk, .ref dr, .ref pr, .ref da, .ref nw, .ref im, .int 0, .ref ac, .ref ke, .ref si, .ref tx, .ref an, .ref dw])), (ps, .inl (y 3, 4, .inr (.inr (.inr (.inr (fun _ => none)))))), (ac, .inr (0, [.ref nw, .ref ac1, .ref ac2, .ref ac3])), (nw, .inr (6, [.ref nwt, .ref nwb, .int 0, .ref nwn, .ref nwi, .int 0, .ref nwr])), (nwt, .inr (9, [.ref nwtk, .ref nwtv, .ref nwte, .ref nwtd, .int 1])), (nwtk, .inl (y 0, 60, .inl (upd (fun _ => 0) 0 3))), (dw, .inr (2, [.int a]))] := hD
          refine lv_iconst (v := 0) hx hb dX10_years_49 (by decide) ?_
          refine lv_istore (lv' := [(4, .int 0), (0, .ref h0), (1, .int a), (2, .int n), (3, .int i)]) hx hb dX10_years_50 hl (by decide) rfl (fun ls hl => ?_)
          refine lv_iconst (v := 0) hx hb dX10_years_52 (by decide) ?_
          refine lv_istore (lv' := [(5, .int 0), (4, .int 0), (0, .ref h0), (1, .int a), (2, .int n), (3, .int i)]) hx hb dX10_years_53 hl (by decide) rfl (fun ls hl => ?_)
          refine nq_loop (σ := (Int32)) (I := fun (k9 : Int32) (x9 : (Int32)) (H9 : Heap) (l9 : List Loc) (ls9 : Array Slot) => ¬ k9 < 0 ∧ va_P G vwCl [(h0, .inr (10, [.ref tp, .int 0, .int (-1), .ref ps, .ref sp, .ref tk, .ref dr, .ref pr, .ref da, .ref nw, .ref im, .int 0, .ref ac, .ref ke, .ref si, .ref tx, .ref an, .ref dw])), (ps, .inl (y 3, 4, .inr (.inr (.inr (.inr (fun _ => none)))))), (ac, .inr (0, [.ref nw, .ref ac1, .ref ac2, .ref ac3])), (nw, .inr (6, [.ref nwt, .ref nwb, .int 0, .ref nwn, .ref nwi, .int 0, .ref nwr])), (nwt, .inr (9, [.ref nwtk, .ref nwtv, .ref nwte, .ref nwtd, .int 1])), (nwtk, .inl (y 0, 60, .inl (upd (fun _ => 0) 0 3))), (dw, .inr (2, [.int x9]))] H9 ∧ va_D A [(h0, .inr (10, [.ref tp, .int 0, .int (-1), .ref ps, .ref sp, .ref tk, .ref dr, .ref pr, .ref da, .ref nw, .ref im, .int 0, .ref ac, .ref ke, .ref si, .ref tx, .ref an, .ref dw])), (ps, .inl (y 3, 4, .inr (.inr (.inr (.inr (fun _ => none)))))), (ac, .inr (0, [.ref nw, .ref ac1, .ref ac2, .ref ac3])), (nw, .inr (6, [.ref nwt, .ref nwb, .int 0, .ref nwn, .ref nwi, .int 0, .ref nwr])), (nwt, .inr (9, [.ref nwtk, .ref nwtv, .ref nwte, .ref nwtd, .int 1])), (nwtk, .inl (y 0, 60, .inl (upd (fun _ => 0) 0 3))), (dw, .inr (2, [.int x9]))] ∧ va_S A s.heap H9 l9 ∧ lv_has ls9 6 [(5, .int k9), (4, .int 0), (0, .ref h0), (1, .int a), (2, .int n), (3, .int i)]) (B := n.toInt) ?_ 0 (a) ⟨by decide, hP, hD, hS, hl⟩ (nq_le0 c_7)
          intro k_55 x_55 H locs ls hI_55 hB_55 ih_55
          obtain ⟨zdw0_55, ex_55⟩ : ∃ z, z = x_55 := ⟨_, rfl⟩
          subst ex_55
          obtain ⟨hk_55, hP, hD, hS, hl⟩ := hI_55
          have hP : va_P G vwCl [(h0, .inr (10, [.ref tp, .int 0, .int (-1), .ref ps, .ref sp, .ref tk, .ref dr, .ref pr, .ref da, .ref nw, .ref im, .int 0, .ref ac, .ref ke, .ref si, .ref tx, .ref an, .ref dw])), (ps, .inl (y 3, 4, .inr (.inr (.inr (.inr (fun _ => none)))))), (ac, .inr (0, [.ref nw, .ref ac1, .ref ac2, .ref ac3])), (nw, .inr (6, [.ref nwt, .ref nwb, .int 0, .ref nwn, .ref nwi, .int 0, .ref nwr])), (nwt, .inr (9, [.ref nwtk, .ref nwtv, .ref nwte, .ref nwtd, .int 1])), (nwtk, .inl (y 0, 60, .inl (upd (fun _ => 0) 0 3))), (dw, .inr (2, [.int zdw0_55]))] H := hP
          have hD : va_D A [(h0, .inr (10, [.ref tp, .int 0, .int (-1), .ref ps, .ref sp, .ref tk, .ref dr, .ref pr, .ref da, .ref nw, .ref im, .int 0, .ref ac, .ref ke, .ref si, .ref tx, .ref an, .ref dw])), (ps, .inl (y 3, 4, .inr (.inr (.inr (.inr (fun _ => none)))))), (ac, .inr (0, [.ref nw, .ref ac1, .ref ac2, .ref ac3])), (nw, .inr (6, [.ref nwt, .ref nwb, .int 0, .ref nwn, .ref nwi, .int 0, .ref nwr])), (nwt, .inr (9, [.ref nwtk, .ref nwtv, .ref nwte, .ref nwtd, .int 1])), (nwtk, .inl (y 0, 60, .inl (upd (fun _ => 0) 0 3))), (dw, .inr (2, [.int zdw0_55]))] := hD
          have hl : lv_has ls 6 [(5, .int k_55), (4, .int 0), (0, .ref h0), (1, .int a), (2, .int n), (3, .int i)] := hl
          refine lv_iload hx hb dX10_years_55 (lv_at hl 0 rfl) ?_
          refine lv_iload_n hx hb dX10_years_57 rfl (lv_at hl 4 rfl) ?_
          refine lv_icmp_ge (tgt := 78) hx hb dX10_years_58 (by decide) (fun c_17 => ?_) (fun c_17 => ?_)
          · refine lv_iload_n hx hb dX10_years_78 rfl (lv_at hl 5 rfl) ?_
            refine lv_iconst (v := 2) hx hb dX10_years_79 (by decide) ?_
            refine lv_icmp_ne (tgt := 86) hx hb dX10_years_80 (by decide) (fun c_18 => ?_) (fun c_18 => ?_)
            · refine lv_iload_n hx hb dX10_years_86 rfl (lv_at hl 5 rfl) ?_
              refine lv_if_ne (tgt := 103) hx hb dX10_years_87 (by decide) (fun c_19 => ?_) (fun c_19 => ?_)
              · have e_20 : i = 1 := nq_pin 1 (nq_up c_1 c_19 (j := 1) (by decide)) (nq_dn (nq_hle c_6) c_18 (j := 1) (by decide))
                subst e_20
                refine lv_aload_n hx hb dX10_years_103 rfl (lv_at hl 2 rfl) ?_
                refine va_get (D := G) (ci := 10) (v := .ref nw) (C := RX10) (T := TX10) (N := 18) hx hb hts inX10 hown hK.1 hP 0 rfl rfl 9 (by decide) (hts (.fieldLink RX10 63 "NestQuery" "now" "LNestQuery$State;") (by decide +kernel)) (fun _ h9 => h9) rfl dX10_years_104 ?_
                refine va_getN (D := G) (ci := 6) (v := .ref nwt) (C := RX6) (T := TX6) (N := 7) hx hb hts inX6 hown hK.1 hP 3 rfl rfl 0 (by decide) (nl_13 hK) (fun _ h9 => h9) rfl dX10_years_107 ?_
                refine nq_rdi (va_runV (As := []) (rest := []) ⟨hx, hb, hml, hown, hts⟩ (c_sum l G y H.size nwt nwtk nwtv nwte nwtd (upd (fun _ => 0) 0 3) (pk_us)) (cwV 0 hts gX10_years_X9_sum rfl rfl rfl (by decide +kernel) ⟨Nat.le_of_ble_eq_true rfl, Nat.le_of_ble_eq_true rfl⟩) (nq_PV hK hP hD [4, 5] rfl rfl 4 rfl rfl) rfl rfl hl.1 rfl (lv_room (Nat.le_of_ble_eq_true rfl)) dX10_years_110 ⟨Nat.le_of_ble_eq_true rfl, Nat.le_of_ble_eq_true rfl⟩) hP hS hA (fun r_21 H locs hw_22 hP hS => ?_)
                subst hw_22
                have hz_24 := nq_xeL (k := 0) (nq_up c_1 c_19 (j := 1) (by decide)) (by decide)
                have hz_25 := (nq_nlt (k := 0) (nq_up c_1 c_19 (j := 1) (by decide)) (by decide) : ¬ i < 0)
                have hz_26 := (nq_ngt (k := 2) (nq_dn (nq_hle c_6) c_18 (j := 1) (by decide)) (by decide) : ¬ 2 < i)
                have hz_27 := (nq_nlt (k := 0) c_7 (by decide) : ¬ n < 0)
                have hz_28 := (nq_ngt (k := 20) (nq_hle c_13) (by decide) : ¬ 20 < n)
                have hP9 := hP.sub (ws' := []) [] rfl
                have hD9 := hD.sub (ws' := []) [] (by decide) rfl
                refine vx_ret ?_
                refine W.widen (k := 1) (n := 6) (Nat.le_of_ble_eq_true rfl) (Nat.le_of_ble_eq_true rfl) ?_
                exact W.iret (v := 0) hx hb hr (fun t ht hW => ⟨⟨0, (), rfl, ⟨by simp [sp_years, c_18, c_19, hz_24, hz_25, hz_26, hz_27, hz_28], by simp [sp_years, c_18, c_19, hz_24, hz_25, hz_26, hz_27, hz_28]⟩, by rw [ht]; exact hP9, by first | exact hD9 | (rw [hAe]; exact hD9)⟩, hS.F ht⟩) hS.2.2 dX10_years_113
              · subst c_19
                refine lv_aload_n hx hb dX10_years_90 rfl (lv_at hl 2 rfl) ?_
                refine va_get (D := G) (ci := 10) (v := .ref nw) (C := RX10) (T := TX10) (N := 18) hx hb hts inX10 hown hK.1 hP 0 rfl rfl 9 (by decide) (hts (.fieldLink RX10 63 "NestQuery" "now" "LNestQuery$State;") (by decide +kernel)) (fun _ h9 => h9) rfl dX10_years_91 ?_
                refine va_getN (D := G) (ci := 6) (v := .ref nwt) (C := RX6) (T := TX6) (N := 7) hx hb hts inX6 hown hK.1 hP 3 rfl rfl 0 (by decide) (nl_13 hK) (fun _ h9 => h9) rfl dX10_years_94 ?_
                refine va_getN (D := G) (ci := 9) (v := .int 1) (C := RX9) (T := TX9) (N := 5) hx hb hts inX9 hown hK.1 hP 4 rfl rfl 4 (by decide) (nl_11 hK) (fun _ h9 => h9) rfl dX10_years_97 ?_
                refine lv_goto (tgt := 113) hx hb dX10_years_100 (by decide) ?_
                have hz_30 := (nq_nlt (k := 0) c_1 (by decide) : ¬ i < 0)
                have hz_31 := (nq_ngt (k := 2) (nq_dn (nq_hle c_6) c_18 (j := 1) (by decide)) (by decide) : ¬ 2 < i)
                have hz_32 := (nq_nlt (k := 0) c_7 (by decide) : ¬ n < 0)
                have hz_33 := (nq_ngt (k := 20) (nq_hle c_13) (by decide) : ¬ 20 < n)
                have hP9 := hP.sub (ws' := []) [] rfl
                have hD9 := hD.sub (ws' := []) [] (by decide) rfl
                refine vx_ret ?_
                refine W.widen (k := 1) (n := 6) (Nat.le_of_ble_eq_true rfl) (Nat.le_of_ble_eq_true rfl) ?_
                exact W.iret (v := 1) hx hb hr (fun t ht hW => ⟨⟨1, (), rfl, ⟨by simp [sp_years, c_18, hz_30, hz_31, hz_32, hz_33], by simp [sp_years, c_18, hz_30, hz_31, hz_32, hz_33]⟩, by rw [ht]; exact hP9, by first | exact hD9 | (rw [hAe]; exact hD9)⟩, hS.F ht⟩) hS.2.2 dX10_years_113
            · subst c_18
              refine lv_iload hx hb dX10_years_83 (lv_at hl 1 rfl) ?_
              have hz_35 := (nq_nlt (k := 0) c_1 (by decide) : ¬ i < 0)
              have hz_36 := (nq_ngt (k := 2) (nq_hle c_6) (by decide) : ¬ 2 < i)
              have hz_37 := (nq_nlt (k := 0) c_7 (by decide) : ¬ n < 0)
              have hz_38 := (nq_ngt (k := 20) (nq_hle c_13) (by decide) : ¬ 20 < n)
              have hP9 := hP.sub (ws' := []) [] rfl
              have hD9 := hD.sub (ws' := []) [] (by decide) rfl
              refine vx_ret ?_
              refine W.widen (k := 1) (n := 6) (Nat.le_of_ble_eq_true rfl) (Nat.le_of_ble_eq_true rfl) ?_
              exact W.iret (v := 0) hx hb hr (fun t ht hW => ⟨⟨0, (), rfl, ⟨by simp [sp_years, hz_35, hz_36, hz_37, hz_38], by simp [sp_years, hz_35, hz_36, hz_37, hz_38]⟩, by rw [ht]; exact hP9, by first | exact hD9 | (rw [hAe]; exact hD9)⟩, hS.F ht⟩) hS.2.2 dX10_years_85
          · refine lv_aload_n hx hb dX10_years_61 rfl (lv_at hl 2 rfl) ?_
            refine nq_wri (wr := []) (va_runV (As := []) (rest := []) ⟨hx, hb, hml, hown, hts⟩ (c_oneYear l G y H.size h0 tp ps sp tk dr pr da nw im ac ke si tx an dw ac1 ac2 ac3 nwt nwb nwn nwi nwr nwtk nwtv nwte nwtd zdw0_55 ) (cwV 0 hts gX10_years_X10_oneYear rfl rfl rfl (by decide +kernel) ⟨Nat.le_of_ble_eq_true rfl, Nat.le_of_ble_eq_true rfl⟩) (nq_PV hK hP hD [0, 1, 2, 3, 4, 5, 6] rfl rfl 0 rfl rfl) rfl rfl hl.1 rfl (lv_room (Nat.le_of_ble_eq_true rfl)) dX10_years_62 ⟨Nat.le_of_ble_eq_true rfl, Nat.le_of_ble_eq_true rfl⟩) hP hD hS hA [0, 1, 2, 3, 4, 5, 6] [] rfl rfl (by decide) (by decide) (fun r_41 u_39 H locs hw_40 hP hD hS => ?_)
            have hP : va_P G vwCl [(h0, .inr (10, [.ref tp, .int 0, .int (-1), .ref ps, .ref sp, .ref tk, .ref dr, .ref pr, .ref da, .ref nw, .ref im, .int 0, .ref ac, .ref ke, .ref si, .ref tx, .ref an, .ref dw])), (ps, .inl (y 3, 4, .inr (.inr (.inr (.inr (fun _ => none)))))), (ac, .inr (0, [.ref nw, .ref ac1, .ref ac2, .ref ac3])), (nw, .inr (6, [.ref nwt, .ref nwb, .int 0, .ref nwn, .ref nwi, .int 0, .ref nwr])), (nwt, .inr (9, [.ref nwtk, .ref nwtv, .ref nwte, .ref nwtd, .int 1])), (nwtk, .inl (y 0, 60, .inl (upd (fun _ => 0) 0 3))), (dw, .inr (2, [.int u_39]))] H := hP
            have hD : va_D A [(h0, .inr (10, [.ref tp, .int 0, .int (-1), .ref ps, .ref sp, .ref tk, .ref dr, .ref pr, .ref da, .ref nw, .ref im, .int 0, .ref ac, .ref ke, .ref si, .ref tx, .ref an, .ref dw])), (ps, .inl (y 3, 4, .inr (.inr (.inr (.inr (fun _ => none)))))), (ac, .inr (0, [.ref nw, .ref ac1, .ref ac2, .ref ac3])), (nw, .inr (6, [.ref nwt, .ref nwb, .int 0, .ref nwn, .ref nwi, .int 0, .ref nwr])), (nwt, .inr (9, [.ref nwtk, .ref nwtv, .ref nwte, .ref nwtd, .int 1])), (nwtk, .inl (y 0, 60, .inl (upd (fun _ => 0) 0 3))), (dw, .inr (2, [.int u_39]))] := hD
            subst hw_40
            refine lv_iconst (v := (-1)) hx hb dX10_years_65 (by decide) ?_
            refine lv_icmp_eq (tgt := 72) hx hb dX10_years_66 (by decide) (fun _ => ?_) (fun c_42 => absurd c_42 (by decide))
            refine lv_iinc (v := k_55 + Int32.ofInt 1) (lv' := [(5, .int (k_55 + Int32.ofInt 1)), (4, .int 0), (0, .ref h0), (1, .int a), (2, .int n), (3, .int i)]) hx hb dX10_years_72 hl (k := 0) rfl (rfl) (by decide) rfl (fun ls hl => ?_)
            refine lv_goto (tgt := 55) hx hb dX10_years_75 (by decide) ?_
            exact ih_55 (k_55 + Int32.ofInt 1) (u_39) _ _ _ ⟨nq_nn (nq_inc hk_55 (nq_ltV c_17) (nq_mx n)) hk_55, hP.sub [0, 1, 2, 3, 4, 5, 6] rfl, hD.sub [0, 1, 2, 3, 4, 5, 6] (by decide) rfl, hS, lv_sub hl [0, 1, 2, 3, 4, 5] rfl⟩ (nq_inc hk_55 (nq_ltV c_17) (nq_mx n)) (nq_leB (nq_inc hk_55 (nq_ltV c_17) (nq_mx n)) (nq_ltV c_17))
        · have hz_44 := (nq_nlt (k := 0) c_1 (by decide) : ¬ i < 0)
          have hz_45 := (nq_ngt (k := 2) (nq_hle c_6) (by decide) : ¬ 2 < i)
          have hz_46 := (nq_nlt (k := 0) (nq_lnle c_13 (j := 21) (by decide)) (by decide) : ¬ n < 0)
          have hz_47 := (nq_pgt (k := 20) (nq_lnle c_13 (j := 21) (by decide)) (by decide) : 20 < n)
          exact nq_throwIW (BX := fun E => (E = nq_NSE ∧ (sp_years a n i).1 = 1) ∨ (E = nq_IAE ∧ (sp_years a n i).1 = 2)) (text := "no such number of years") hx hb hl0 hown hts (by first | exact fun w h => List.mem_cons_of_mem _ (List.mem_append_right _ h) | exact fun w h => List.mem_cons_of_mem _ (List.mem_append_left _ (List.mem_append_right _ h)) | decide +kernel) (by decide +kernel) (by decide +kernel) hXs hS (hl.1.trans hml.symm) htab hlocks (List.mem_of_getElem? (i := 13) rfl) dX10_years_30 dX10_years_33 dX10_years_34 dX10_years_37 dX10_years_40 (Nat.le_of_ble_eq_true rfl) (Nat.le_of_ble_eq_true rfl) (Nat.le_of_ble_eq_true rfl) (Nat.le_of_ble_eq_true rfl) (Or.inr (⟨rfl, by simp [sp_years, hz_44, hz_45, hz_46, hz_47]⟩)) (Nat.le_of_ble_eq_true rfl) (Nat.le_of_ble_eq_true rfl)
    · have hz_49 := nq_xeL (k := 0) (nq_lnle c_6 (j := 3) (by decide)) (by decide)
      have hz_50 := (nq_nlt (k := 0) (nq_lnle c_6 (j := 3) (by decide)) (by decide) : ¬ i < 0)
      have hz_51 := (nq_pgt (k := 2) (nq_lnle c_6 (j := 3) (by decide)) (by decide) : 2 < i)
      exact nq_throwNW (BX := fun E => (E = nq_NSE ∧ (sp_years a n i).1 = 1) ∨ (E = nq_IAE ∧ (sp_years a n i).1 = 2)) (text := "no such question about years") hx hb hl0 hown hts (by first | exact fun w h => List.mem_cons_of_mem _ (List.mem_append_right _ h) | exact fun w h => List.mem_cons_of_mem _ (List.mem_append_left _ (List.mem_append_right _ h)) | decide +kernel) (by decide +kernel) (by decide +kernel) hXs hS (hl.1.trans hml.symm) htab hlocks (List.mem_of_getElem? (i := 12) rfl) dX10_years_9 dX10_years_12 dX10_years_13 dX10_years_16 dX10_years_19 (Nat.le_of_ble_eq_true rfl) (Nat.le_of_ble_eq_true rfl) (Nat.le_of_ble_eq_true rfl) (Nat.le_of_ble_eq_true rfl) (Or.inl (⟨rfl, by simp [sp_years, hz_49, hz_50, hz_51]⟩)) (Nat.le_of_ble_eq_true rfl) (Nat.le_of_ble_eq_true rfl)
