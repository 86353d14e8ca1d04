set_option maxHeartbeats 400000 in
set_option maxRecDepth 100000 in
theorem c_bitCount (l : Launch) (G : va_G) (y : Nat → ClassId) (sz : Nat)   : Met l yJ6_bitCount_0f7a4 wsJ6_bitCount_0f7a4 ({ frames := 0, cells := 0, slots := 0, locals := 0 }) (nq_P G y sz [.int 0] []) (va_Qi (fun (r : Int32) (_ : Unit) => r = 0) (fun _ _ => True) (va_A [] sz)) 0 0 (va_A [] sz) := by
  refine Met.ofW (cc := cJ6_bitCount_0f7a4) (maxL := 1) (ret := (some .int)) (by decide) rfl ?_
  intro p e s m args below meth c s₁ B hml hv
  obtain ⟨rfl, hsz, hP, hK, hD0⟩ := hv
  have hx := B.exec
  have hb := B.bytes
  have hr := B.returns
  have hts := atoms_spec (ws := wsJ6_bitCount_0f7a4) B.pre
  have hown : s.vm.findClass RJ6 = some m.cls := findClass_of_methodNamed B.named
  have hlocks := B.notSynchronized
  subst hsz
  have hD := hD0
  have hA : ∀ q : Nat, s.heap.size ≤ q → va_A [] s.heap.size q := fun q h => Or.inr h
  have hS : va_S (va_A [] s.heap.size) s.heap s.heap [] := va_S.rf
  have hP : va_P G vwCl [] s.heap := hP
  have hl := lv_entry ([.int 0]) (n := 1) (Nat.le_of_ble_eq_true rfl)
  rw [lg_entry_eq]
  generalize (lg_sl ([.int 0]) ++ List.replicate (1 - (lg_sl ([.int 0])).length) Slot.unset).toArray = ls at hl ⊢
  have hl : lv_has ls 1 [(0, .int 0)] := hl
  refine lv_iload_n hx hb dJ6_bitCount_0f7a4_0 rfl (lv_at hl 0 rfl) ?_
  refine lv_iload_n hx hb dJ6_bitCount_0f7a4_1 rfl (lv_at hl 0 rfl) ?_
  refine lv_iconst (v := 1) hx hb dJ6_bitCount_0f7a4_2 (by decide) ?_
  refine lv_iushr (v := 0) hx hb dJ6_bitCount_0f7a4_3 (by decide) ?_
  refine lv_ldcw (v := 1431655765) hx hb hown (hts (.constant RJ6 265 1431655765) (by decide +kernel)) dJ6_bitCount_0f7a4_4 ?_
  refine lv_iand hx hb dJ6_bitCount_0f7a4_7 ?_
  refine nq_top (z := 0) (by decide) ?_
  refine lv_isub hx hb dJ6_bitCount_0f7a4_8 ?_
  refine nq_top (z := 0) (by decide) ?_
  refine lv_istore_n (lv' := [(0, .int 0)]) hx hb dJ6_bitCount_0f7a4_9 rfl hl (by decide) rfl (fun ls hl => ?_)
  refine lv_iload_n hx hb dJ6_bitCount_0f7a4_10 rfl (lv_at hl 0 rfl) ?_
  refine lv_ldcw (v := 858993459) hx hb hown (hts (.constant RJ6 266 858993459) (by decide +kernel)) dJ6_bitCount_0f7a4_11 ?_
  refine lv_iand hx hb dJ6_bitCount_0f7a4_14 ?_
  refine nq_top (z := 0) (by decide) ?_
  refine lv_iload_n hx hb dJ6_bitCount_0f7a4_15 rfl (lv_at hl 0 rfl) ?_
  refine lv_iconst (v := 2) hx hb dJ6_bitCount_0f7a4_16 (by decide) ?_
  refine lv_iushr (v := 0) hx hb dJ6_bitCount_0f7a4_17 (by decide) ?_
  refine lv_ldcw (v := 858993459) hx hb hown (hts (.constant RJ6 266 858993459) (by decide +kernel)) dJ6_bitCount_0f7a4_18 ?_
  refine lv_iand hx hb dJ6_bitCount_0f7a4_21 ?_
  refine nq_top (z := 0) (by decide) ?_
  refine lv_iadd hx hb dJ6_bitCount_0f7a4_22 ?_
  refine nq_top (z := 0) (by decide) ?_
  refine lv_istore_n (lv' := [(0, .int 0)]) hx hb dJ6_bitCount_0f7a4_23 rfl hl (by decide) rfl (fun ls hl => ?_)
  refine lv_iload_n hx hb dJ6_bitCount_0f7a4_24 rfl (lv_at hl 0 rfl) ?_
  refine lv_iload_n hx hb dJ6_bitCount_0f7a4_25 rfl (lv_at hl 0 rfl) ?_
  refine lv_iconst (v := 4) hx hb dJ6_bitCount_0f7a4_26 (by decide) ?_
  refine lv_iushr (v := 0) hx hb dJ6_bitCount_0f7a4_27 (by decide) ?_
  refine lv_iadd hx hb dJ6_bitCount_0f7a4_28 ?_
  refine nq_top (z := 0) (by decide) ?_
  refine lv_ldcw (v := 252645135) hx hb hown (hts (.constant RJ6 267 252645135) (by decide +kernel)) dJ6_bitCount_0f7a4_29 ?_
  refine lv_iand hx hb dJ6_bitCount_0f7a4_32 ?_
  refine nq_top (z := 0) (by decide) ?_
  refine lv_istore_n (lv' := [(0, .int 0)]) hx hb dJ6_bitCount_0f7a4_33 rfl hl (by decide) rfl (fun ls hl => ?_)
  refine lv_iload_n hx hb dJ6_bitCount_0f7a4_34 rfl (lv_at hl 0 rfl) ?_
  refine lv_iload_n hx hb dJ6_bitCount_0f7a4_35 rfl (lv_at hl 0 rfl) ?_
  refine lv_bipush (v := 8) hx hb dJ6_bitCount_0f7a4_36 (by decide) ?_
  refine lv_iushr (v := 0) hx hb dJ6_bitCount_0f7a4_38 (by decide) ?_
  refine lv_iadd hx hb dJ6_bitCount_0f7a4_39 ?_
  refine nq_top (z := 0) (by decide) ?_
  refine lv_istore_n (lv' := [(0, .int 0)]) hx hb dJ6_bitCount_0f7a4_40 rfl hl (by decide) rfl (fun ls hl => ?_)
  refine lv_iload_n hx hb dJ6_bitCount_0f7a4_41 rfl (lv_at hl 0 rfl) ?_
  refine lv_iload_n hx hb dJ6_bitCount_0f7a4_42 rfl (lv_at hl 0 rfl) ?_
  refine lv_bipush (v := 16) hx hb dJ6_bitCount_0f7a4_43 (by decide) ?_
  refine lv_iushr (v := 0) hx hb dJ6_bitCount_0f7a4_45 (by decide) ?_
  refine lv_iadd hx hb dJ6_bitCount_0f7a4_46 ?_
  refine nq_top (z := 0) (by decide) ?_
  refine lv_istore_n (lv' := [(0, .int 0)]) hx hb dJ6_bitCount_0f7a4_47 rfl hl (by decide) rfl (fun ls hl => ?_)
  refine lv_iload_n hx hb dJ6_bitCount_0f7a4_48 rfl (lv_at hl 0 rfl) ?_
  refine lv_bipush (v := 63) hx hb dJ6_bitCount_0f7a4_49 (by decide) ?_
  refine lv_iand hx hb dJ6_bitCount_0f7a4_51 ?_
  refine nq_top (z := 0) (by decide) ?_
  refine W.widen (k := 0) (n := 0) (Nat.le_of_ble_eq_true rfl) (Nat.le_of_ble_eq_true rfl) ?_
  exact W.iret (v := 0) hx hb hr (fun t ht hW => ⟨⟨0, (), rfl, rfl, trivial⟩, hS.F ht⟩) hS.2.2 dJ6_bitCount_0f7a4_52

set_option maxHeartbeats 400000 in
set_option maxRecDepth 100000 in
theorem x_look (l : Launch) (G : va_G) (y : Nat → ClassId) (sz : Nat) (h0 : Nat) (tp : Nat) (ps : Nat) (sp : Nat) (tk : Nat) (dr : Nat) (pr : Nat) (da : Nat) (nw : Nat) (im : Nat) (ac : Nat) (ke : Nat) (si : Nat) (tx : Nat) (an : Nat) (dw : Nat) (nwt : Nat) (nwb : Nat) (nwn : Nat) (nwi : Nat) (nwr : Nat) (nwtk : Nat) (nwtv : Nat) (nwte : Nat) (nwtd : Nat)  : Met l yX10_look wsX10_look ({ frames := 2, cells := 0, slots := 0, locals := 44 }) (nq_P G y sz [.ref h0] [(h0, .inr (10, [.ref tp, .int 0, .int (-1), .ref ps, .ref sp, .ref tk, .ref dr, .ref pr, .ref da, .ref nw, .ref im, .int 0, .ref ac, .ref ke, .ref si, .ref tx, .ref an, .ref dw])), (ps, .inl (y 3, 4, .inr (.inr (.inr (.inr (fun _ => none)))))), (an, .inl (y 1, 4, .inr (.inl (fun _ => 0)))), (nw, .inr (6, [.ref nwt, .ref nwb, .int 0, .ref nwn, .ref nwi, .int 0, .ref nwr])), (nwt, .inr (9, [.ref nwtk, .ref nwtv, .ref nwte, .ref nwtd, .int 1]))]) (va_Qi (fun (r : Int32) (_ : Unit) => r = (-1)) (fun (u : Unit) t9 => va_P G vwCl ([]) t9.heap ∧ va_D (va_A [(h0, .inr (10, [.ref tp, .int 0, .int (-1), .ref ps, .ref sp, .ref tk, .ref dr, .ref pr, .ref da, .ref nw, .ref im, .int 0, .ref ac, .ref ke, .ref si, .ref tx, .ref an, .ref dw])), (ps, .inl (y 3, 4, .inr (.inr (.inr (.inr (fun _ => none)))))), (an, .inl (y 1, 4, .inr (.inl (fun _ => 0)))), (nw, .inr (6, [.ref nwt, .ref nwb, .int 0, .ref nwn, .ref nwi, .int 0, .ref nwr])), (nwt, .inr (9, [.ref nwtk, .ref nwtv, .ref nwte, .ref nwtd, .int 1]))] sz) ([])) (va_A [(h0, .inr (10, [.ref tp, .int 0, .int (-1), .ref ps, .ref sp, .ref tk, .ref dr, .ref pr, .ref da, .ref nw, .ref im, .int 0, .ref ac, .ref ke, .ref si, .ref tx, .ref an, .ref dw])), (ps, .inl (y 3, 4, .inr (.inr (.inr (.inr (fun _ => none)))))), (an, .inl (y 1, 4, .inr (.inl (fun _ => 0)))), (nw, .inr (6, [.ref nwt, .ref nwb, .int 0, .ref nwn, .ref nwi, .int 0, .ref nwr])), (nwt, .inr (9, [.ref nwtk, .ref nwtv, .ref nwte, .ref nwtd, .int 1]))] sz)) 0 0 (va_A [(h0, .inr (10, [.ref tp, .int 0, .int (-1), .ref ps, .ref sp, .ref tk, .ref dr, .ref pr, .ref da, .ref nw, .ref im, .int 0, .ref ac, .ref ke, .ref si, .ref tx, .ref an, .ref dw])), (ps, .inl (y 3, 4, .inr (.inr (.inr (.inr (fun _ => none)))))), (an, .inl (y 1, 4, .inr (.inl (fun _ => 0)))), (nw, .inr (6, [.ref nwt, .ref nwb, .int 0, .ref nwn, .ref nwi, .int 0, .ref nwr])), (nwt, .inr (9, [.ref nwtk, .ref nwtv, .ref nwte, .ref nwtd, .int 1]))] sz) := by
  refine Met.ofW (cc := cX10_look) (maxL := 8) (ret := (some .int)) (by decide) rfl ?_
  intro p e s m args below meth c s₁ B hml hv
  obtain ⟨rfl, hsz, hP, hK, hD0⟩ := hv
  have hx := B.exec
  have hb := B.bytes
  have hr := B.returns
  have hts := atoms_spec (ws := wsX10_look) B.pre
  have hown : s.vm.findClass RX10 = some m.cls := findClass_of_methodNamed B.named
  have hlocks := B.notSynchronized
  subst hsz
  have hD := hD0.self (sz := s.heap.size)
  generalize hAe : va_A [(h0, .inr (10, [.ref tp, .int 0, .int (-1), .ref ps, .ref sp, .ref tk, .ref dr, .ref pr, .ref da, .ref nw, .ref im, .int 0, .ref ac, .ref ke, .ref si, .ref tx, .ref an, .ref dw])), (ps, .inl (y 3, 4, .inr (.inr (.inr (.inr (fun _ => none)))))), (an, .inl (y 1, 4, .inr (.inl (fun _ => 0)))), (nw, .inr (6, [.ref nwt, .ref nwb, .int 0, .ref nwn, .ref nwi, .int 0, .ref nwr])), (nwt, .inr (9, [.ref nwtk, .ref nwtv, .ref nwte, .ref nwtd, .int 1]))] s.heap.size = A at hD ⊢
  have hA : ∀ q : Nat, s.heap.size ≤ q → A q := fun q h => by rw [← hAe]; exact Or.inr h
  have hS : va_S A s.heap s.heap [] := va_S.rf
  have hP : va_P G vwCl [(h0, .inr (10, [.ref tp, .int 0, .int (-1), .ref ps, .ref sp, .ref tk, .ref dr, .ref pr, .ref da, .ref nw, .ref im, .int 0, .ref ac, .ref ke, .ref si, .ref tx, .ref an, .ref dw])), (ps, .inl (y 3, 4, .inr (.inr (.inr (.inr (fun _ => none)))))), (an, .inl (y 1, 4, .inr (.inl (fun _ => 0)))), (nw, .inr (6, [.ref nwt, .ref nwb, .int 0, .ref nwn, .ref nwi, .int 0, .ref nwr])), (nwt, .inr (9, [.ref nwtk, .ref nwtv, .ref nwte, .ref nwtd, .int 1]))] s.heap := hP
  have inX10 : ∀ w ∈ wsX100, w ∈ wsX10_look := by decide +kernel
  have inX6 : ∀ w ∈ wsX60, w ∈ wsX10_look := by decide +kernel
  have inX9 : ∀ w ∈ wsX90, w ∈ wsX10_look := by decide +kernel
  have hl := lv_entry ([.ref h0]) (n := 8) (Nat.le_of_ble_eq_true rfl)
  rw [lg_entry_eq]
  generalize (lg_sl ([.ref h0]) ++ List.replicate (8 - (lg_sl ([.ref h0])).length) Slot.unset).toArray = ls at hl ⊢
  have hl : lv_has ls 8 [(0, .ref h0)] := hl
  refine lv_aload_n hx hb dX10_look_0 rfl (lv_at hl 0 rfl) ?_
  refine nq_wri (wr := [(nw, .inr (6, [.ref nwt, .ref nwb, .int 0, .ref nwn, .ref nwi, .int 0, .ref nwr])), (nwt, .inr (9, [.ref nwtk, .ref nwtv, .ref nwte, .ref nwtd, .int 1]))]) (va_runV (As := []) (rest := []) ⟨hx, hb, hml, hown, hts⟩ (c_pathsThatFit l G y s.heap.size h0 tp ps sp tk dr pr da nw im ac ke si tx an dw ) (cwV 0 hts gX10_look_X10_pathsThatFit rfl rfl rfl (by decide +kernel) ⟨Nat.le_of_ble_eq_true rfl, Nat.le_of_ble_eq_true rfl⟩) (nq_PV hK hP hD [0, 1, 2] rfl rfl 0 rfl rfl) rfl rfl hl.1 rfl (lv_room (Nat.le_of_ble_eq_true rfl)) dX10_look_1 ⟨Nat.le_of_ble_eq_true rfl, Nat.le_of_ble_eq_true rfl⟩) hP hD hS hA [0, 1, 2] [3, 4] rfl rfl (by decide) (by decide) (fun r_3 u_1 H locs hw_2 hP hD hS => ?_)
  have hP : va_P G vwCl [(nw, .inr (6, [.ref nwt, .ref nwb, .int 0, .ref nwn, .ref nwi, .int 0, .ref nwr])), (nwt, .inr (9, [.ref nwtk, .ref nwtv, .ref nwte, .ref nwtd, .int 1])), (h0, .inr (10, [.ref tp, .int 0, .int (-1), .ref ps, .ref sp, .ref tk, .ref dr, .ref pr, .ref da, .ref nw, .ref im, .int 0, .ref ac, .ref ke, .ref si, .ref tx, .ref an, .ref dw])), (ps, .inl (y 3, 4, .inr (.inr (.inr (.inr (fun _ => none)))))), (an, .inl (y 1, 4, .inr (.inl (vp_updL (vp_updL (vp_updL (vp_updL (fun _ => 0) 0 0) 1 0) 2 0) 3 0))))] H := hP
  have hD : va_D A [(nw, .inr (6, [.ref nwt, .ref nwb, .int 0, .ref nwn, .ref nwi, .int 0, .ref nwr])), (nwt, .inr (9, [.ref nwtk, .ref nwtv, .ref nwte, .ref nwtd, .int 1])), (h0, .inr (10, [.ref tp, .int 0, .int (-1), .ref ps, .ref sp, .ref tk, .ref dr, .ref pr, .ref da, .ref nw, .ref im, .int 0, .ref ac, .ref ke, .ref si, .ref tx, .ref an, .ref dw])), (ps, .inl (y 3, 4, .inr (.inr (.inr (.inr (fun _ => none)))))), (an, .inl (y 1, 4, .inr (.inl (vp_updL (vp_updL (vp_updL (vp_updL (fun _ => 0) 0 0) 1 0) 2 0) 3 0))))] := hD
  subst hw_2
  refine lv_istore_n (lv' := [(1, .int 0), (0, .ref h0)]) hx hb dX10_look_4 rfl hl (by decide) rfl (fun ls hl => ?_)
  refine lv_iload_n hx hb dX10_look_5 rfl (lv_at hl 0 rfl) ?_
  refine nq_rdi (va_runS (As := [.int 0]) (rest := []) ⟨hx, hb, hml, hown, hts⟩ (c_bitCount l G y H.size  ) (va_cwS 1 hts gX10_look_J6_bitCount_0f7a4 rfl rfl rfl (by decide +kernel) ⟨Nat.le_of_ble_eq_true rfl, Nat.le_of_ble_eq_true rfl⟩) (nq_PS hK hP hD [] rfl rfl) rfl rfl hl.1 rfl (lv_room (Nat.le_of_ble_eq_true rfl)) dX10_look_6 ⟨Nat.le_of_ble_eq_true rfl, Nat.le_of_ble_eq_true rfl⟩) hP hS hA (fun r_4 H locs hw_5 hP hS => ?_)
  subst hw_5
  refine lv_istore_n (lv' := [(2, .int 0), (1, .int 0), (0, .ref h0)]) hx hb dX10_look_9 rfl hl (by decide) rfl (fun ls hl => ?_)
  refine lv_iconst (v := (-1)) hx hb dX10_look_10 (by decide) ?_
  refine lv_istore_n (lv' := [(3, .int (-1)), (2, .int 0), (1, .int 0), (0, .ref h0)]) hx hb dX10_look_11 rfl hl (by decide) rfl (fun ls hl => ?_)
  refine lv_iconst (v := 0) hx hb dX10_look_12 (by decide) ?_
  refine lv_istore (lv' := [(4, .int 0), (3, .int (-1)), (2, .int 0), (1, .int 0), (0, .ref h0)]) hx hb dX10_look_13 hl (by decide) rfl (fun ls hl => ?_)
  refine lv_iconst (v := 0) hx hb dX10_look_15 (by decide) ?_
  refine lv_istore (lv' := [(5, .int 0), (4, .int 0), (3, .int (-1)), (2, .int 0), (1, .int 0), (0, .ref h0)]) hx hb dX10_look_16 hl (by decide) rfl (fun ls hl => ?_)
  refine lv_iload hx hb dX10_look_18 (lv_at hl 0 rfl) ?_
  refine lv_aload_n hx hb dX10_look_20 rfl (lv_at hl 5 rfl) ?_
  refine va_get (D := G) (ci := 10) (v := .ref nw) (C := RX10) (T := TX10) (N := 18) hx hb hts inX10 hown hK.1 hP 2 rfl rfl 9 (by decide) (hts (.fieldLink RX10 63 "NestQuery" "now" "LNestQuery$State;") (by decide +kernel)) (fun _ h9 => h9) rfl dX10_look_21 ?_
  refine va_getN (D := G) (ci := 6) (v := .ref nwt) (C := RX6) (T := TX6) (N := 7) hx hb hts inX6 hown hK.1 hP 0 rfl rfl 0 (by decide) (nl_13 hK) (fun _ h9 => h9) rfl dX10_look_24 ?_
  refine va_getN (D := G) (ci := 9) (v := .int 1) (C := RX9) (T := TX9) (N := 5) hx hb hts inX9 hown hK.1 hP 1 rfl rfl 4 (by decide) (nl_11 hK) (fun _ h9 => h9) rfl dX10_look_27 ?_
  refine lv_icmp_ge (tgt := 73) hx hb dX10_look_30 (by decide) (fun c_6 => absurd c_6 (by decide)) (fun _ => ?_)
  refine lv_aload_n hx hb dX10_look_33 rfl (lv_at hl 5 rfl) ?_
  refine lv_iload hx hb dX10_look_34 (lv_at hl 0 rfl) ?_
  refine lv_iload_n hx hb dX10_look_36 rfl (lv_at hl 4 rfl) ?_
  refine nq_rdi (va_runV (As := [.int 0, .int 0]) (rest := []) ⟨hx, hb, hml, hown, hts⟩ (c_foundAmong l G y H.size h0 tp ps sp tk dr pr da nw im ac ke si tx an dw (vp_updL (vp_updL (vp_updL (vp_updL (fun _ => 0) 0 0) 1 0) 2 0) 3 0) ) (cwV 2 hts gX10_look_X10_foundAmong rfl rfl rfl (by decide +kernel) ⟨Nat.le_of_ble_eq_true rfl, Nat.le_of_ble_eq_true rfl⟩) (nq_PV hK hP hD [2, 4] rfl rfl 2 rfl rfl) rfl rfl hl.1 rfl (lv_room (Nat.le_of_ble_eq_true rfl)) dX10_look_37 ⟨Nat.le_of_ble_eq_true rfl, Nat.le_of_ble_eq_true rfl⟩) hP hS hA (fun r_7 H locs hw_8 hP hS => ?_)
  subst hw_8
  refine lv_istore (lv' := [(6, .int 0), (5, .int 0), (4, .int 0), (3, .int (-1)), (2, .int 0), (1, .int 0), (0, .ref h0)]) hx hb dX10_look_40 hl (by decide) rfl (fun ls hl => ?_)
  refine lv_iload hx hb dX10_look_42 (lv_at hl 0 rfl) ?_
  refine lv_iload_n hx hb dX10_look_44 rfl (lv_at hl 4 rfl) ?_
  refine lv_iload hx hb dX10_look_45 (lv_at hl 0 rfl) ?_
  refine lv_isub hx hb dX10_look_47 ?_
  refine nq_top (z := 0) (by decide) ?_
  refine va_mmin hx hb (by rw [hml]; exact hl.1.symm) hown (hts (.methodLink RX10 358 Lib.Math.min.name) (by decide +kernel)) (hts (.static Lib.Math.min.name) (by decide +kernel)) (hts (.initialized "java/lang/Math") (by decide +kernel)) (hts (.code Lib.Math.min.name Lib.Math.min.code 2 (some .int)) (by decide +kernel)) (Nat.le_of_ble_eq_true rfl) (Nat.le_of_ble_eq_true rfl) (Nat.zero_le _) (Nat.zero_le _) dX10_look_48 ?_
  refine nq_top (z := 0) (by decide) ?_
  refine lv_istore (lv' := [(7, .int 0), (6, .int 0), (5, .int 0), (4, .int 0), (3, .int (-1)), (2, .int 0), (1, .int 0), (0, .ref h0)]) hx hb dX10_look_51 hl (by decide) rfl (fun ls hl => ?_)
  refine lv_iload hx hb dX10_look_53 (lv_at hl 0 rfl) ?_
  refine lv_iload hx hb dX10_look_55 (lv_at hl 3 rfl) ?_
  refine lv_icmp_le (tgt := 67) hx hb dX10_look_57 (by decide) (fun _ => ?_) (fun c_9 => absurd c_9 (by decide))
  refine lv_iinc (v := 1) (lv' := [(5, .int 1), (7, .int 0), (6, .int 0), (4, .int 0), (3, .int (-1)), (2, .int 0), (1, .int 0), (0, .ref h0)]) hx hb dX10_look_67 hl (k := 2) rfl (by decide) (by decide) rfl (fun ls hl => ?_)
  refine lv_goto (tgt := 18) hx hb dX10_look_70 (by decide) ?_
  refine lv_iload hx hb dX10_look_18 (lv_at hl 0 rfl) ?_
  refine lv_aload_n hx hb dX10_look_20 rfl (lv_at hl 7 rfl) ?_
  refine va_get (D := G) (ci := 10) (v := .ref nw) (C := RX10) (T := TX10) (N := 18) hx hb hts inX10 hown hK.1 hP 2 rfl rfl 9 (by decide) (hts (.fieldLink RX10 63 "NestQuery" "now" "LNestQuery$State;") (by decide +kernel)) (fun _ h9 => h9) rfl dX10_look_21 ?_
  refine va_getN (D := G) (ci := 6) (v := .ref nwt) (C := RX6) (T := TX6) (N := 7) hx hb hts inX6 hown hK.1 hP 0 rfl rfl 0 (by decide) (nl_13 hK) (fun _ h9 => h9) rfl dX10_look_24 ?_
  refine va_getN (D := G) (ci := 9) (v := .int 1) (C := RX9) (T := TX9) (N := 5) hx hb hts inX9 hown hK.1 hP 1 rfl rfl 4 (by decide) (nl_11 hK) (fun _ h9 => h9) rfl dX10_look_27 ?_
  refine lv_icmp_ge (tgt := 73) hx hb dX10_look_30 (by decide) (fun _ => ?_) (fun c_10 => absurd c_10 (by decide))
  refine lv_iload_n hx hb dX10_look_73 rfl (lv_at hl 4 rfl) ?_
  have hP9 := hP.sub (ws' := []) [] rfl
  have hD9 := hD.sub (ws' := []) [] (by decide) rfl
  refine W.widen (k := 0) (n := 0) (Nat.le_of_ble_eq_true rfl) (Nat.le_of_ble_eq_true rfl) ?_
  exact W.iret (v := (-1)) hx hb hr (fun t ht hW => ⟨⟨(-1), (), rfl, rfl, by rw [ht]; exact hP9, by first | exact hD9 | (rw [hAe]; exact hD9)⟩, hS.F ht⟩) hS.2.2 dX10_look_74

set_option maxHeartbeats 400000 in
set_option maxRecDepth 100000 in
theorem c_become (l : Launch) (G : va_G) (y : Nat → ClassId) (sz : Nat) (imt : Nat) (imtk : Nat) (imtv : Nat) (imte : Nat) (imtd : Nat) (nwt : Nat) (nwtk : Nat) (nwtv : Nat) (nwte : Nat) (nwtd : Nat) (fimtk : Nat → Int32) (fimtv : Nat → Int32) (fimte : Nat → Int32) (fimtd : Nat → Int32) (fnwtk : Nat → Int32) (fnwtv : Nat → Int32) (fnwte : Nat → Int32) (fnwtd : Nat → Int32)  : Met l yX9_become wsX9_become ({ frames := 1, cells := 0, slots := 0, locals := 60 }) (nq_P G y sz [.ref imt, .ref nwt] [(imt, .inr (9, [.ref imtk, .ref imtv, .ref imte, .ref imtd, .int 0])), (imtk, .inl (y 0, 60, .inl fimtk)), (imtv, .inl (y 0, 60, .inl fimtv)), (imte, .inl (y 0, 60, .inl fimte)), (imtd, .inl (y 0, 60, .inl fimtd)), (nwt, .inr (9, [.ref nwtk, .ref nwtv, .ref nwte, .ref nwtd, .int 1])), (nwtk, .inl (y 0, 60, .inl fnwtk)), (nwtv, .inl (y 0, 60, .inl fnwtv)), (nwte, .inl (y 0, 60, .inl fnwte)), (nwtd, .inl (y 0, 60, .inl fnwtd))]) (va_Qv (fun (_ : Unit) => True) (fun (u : Unit) t9 => va_P G vwCl ([]) t9.heap ∧ va_D (va_A [(imt, .inr (9, [.ref imtk, .ref imtv, .ref imte, .ref imtd, .int 0])), (imtk, .inl (y 0, 60, .inl fimtk)), (imtv, .inl (y 0, 60, .inl fimtv)), (imte, .inl (y 0, 60, .inl fimte)), (imtd, .inl (y 0, 60, .inl fimtd)), (nwt, .inr (9, [.ref nwtk, .ref nwtv, .ref nwte, .ref nwtd, .int 1])), (nwtk, .inl (y 0, 60, .inl fnwtk)), (nwtv, .inl (y 0, 60, .inl fnwtv)), (nwte, .inl (y 0, 60, .inl fnwte)), (nwtd, .inl (y 0, 60, .inl fnwtd))] sz) ([])) (va_A [(imt, .inr (9, [.ref imtk, .ref imtv, .ref imte, .ref imtd, .int 0])), (imtk, .inl (y 0, 60, .inl fimtk)), (imtv, .inl (y 0, 60, .inl fimtv)), (imte, .inl (y 0, 60, .inl fimte)), (imtd, .inl (y 0, 60, .inl fimtd)), (nwt, .inr (9, [.ref nwtk, .ref nwtv, .ref nwte, .ref nwtd, .int 1])), (nwtk, .inl (y 0, 60, .inl fnwtk)), (nwtv, .inl (y 0, 60, .inl fnwtv)), (nwte, .inl (y 0, 60, .inl fnwte)), (nwtd, .inl (y 0, 60, .inl fnwtd))] sz)) 0 0 (va_A [(imt, .inr (9, [.ref imtk, .ref imtv, .ref imte, .ref imtd, .int 0])), (imtk, .inl (y 0, 60, .inl fimtk)), (imtv, .inl (y 0, 60, .inl fimtv)), (imte, .inl (y 0, 60, .inl fimte)), (imtd, .inl (y 0, 60, .inl fimtd)), (nwt, .inr (9, [.ref nwtk, .ref nwtv, .ref nwte, .ref nwtd, .int 1])), (nwtk, .inl (y 0, 60, .inl fnwtk)), (nwtv, .inl (y 0, 60, .inl fnwtv)), (nwte, .inl (y 0, 60, .inl fnwte)), (nwtd, .inl (y 0, 60, .inl fnwtd))] sz) := by
  refine Met.ofW (cc := cX9_become) (maxL := 3) (ret := none) (by decide) rfl ?_
  intro p e s m args below meth c s₁ B hml hv
  obtain ⟨rfl, hsz, hP, hK, hD0⟩ := hv
  have hx := B.exec
  have hb := B.bytes
  have hr := B.returns
  have hts := atoms_spec (ws := wsX9_become) B.pre
  have hown : s.vm.findClass RX9 = some m.cls := findClass_of_methodNamed B.named
  have hlocks := B.notSynchronized
  subst hsz
  have hD := hD0.self (sz := s.heap.size)
  generalize hAe : va_A [(imt, .inr (9, [.ref imtk, .ref imtv, .ref imte, .ref imtd, .int 0])), (imtk, .inl (y 0, 60, .inl fimtk)), (imtv, .inl (y 0, 60, .inl fimtv)), (imte, .inl (y 0, 60, .inl fimte)), (imtd, .inl (y 0, 60, .inl fimtd)), (nwt, .inr (9, [.ref nwtk, .ref nwtv, .ref nwte, .ref nwtd, .int 1])), (nwtk, .inl (y 0, 60, .inl fnwtk)), (nwtv, .inl (y 0, 60, .inl fnwtv)), (nwte, .inl (y 0, 60, .inl fnwte)), (nwtd, .inl (y 0, 60, .inl fnwtd))] s.heap.size = A at hD ⊢
  have hA : ∀ q : Nat, s.heap.size ≤ q → A q := fun q h => by rw [← hAe]; exact Or.inr h
  have hS : va_S A s.heap s.heap [] := va_S.rf
  have hP : va_P G vwCl [(imt, .inr (9, [.ref imtk, .ref imtv, .ref imte, .ref imtd, .int 0])), (imtk, .inl (y 0, 60, .inl fimtk)), (imtv, .inl (y 0, 60, .inl fimtv)), (imte, .inl (y 0, 60, .inl fimte)), (imtd, .inl (y 0, 60, .inl fimtd)), (nwt, .inr (9, [.ref nwtk, .ref nwtv, .ref nwte, .ref nwtd, .int 1])), (nwtk, .inl (y 0, 60, .inl fnwtk)), (nwtv, .inl (y 0, 60, .inl fnwtv)), (nwte, .inl (y 0, 60, .inl fnwte)), (nwtd, .inl (y 0, 60, .inl fnwtd))] s.heap := hP
  have inX9 : ∀ w ∈ wsX90, w ∈ wsX9_become := by decide +kernel
  have hl := lv_entry ([.ref imt, .ref nwt]) (n := 3) (Nat.le_of_ble_eq_true rfl)
  rw [lg_entry_eq]
  generalize (lg_sl ([.ref imt, .ref nwt]) ++ List.replicate (3 - (lg_sl ([.ref imt, .ref nwt])).length) Slot.unset).toArray = ls at hl ⊢
  have hl : lv_has ls 3 [(0, .ref imt), (1, .ref nwt)] := hl
  refine lv_aload_n hx hb dX9_become_0 rfl (lv_at hl 1 rfl) ?_
  refine va_get (D := G) (ci := 9) (v := .int 1) (C := RX9) (T := TX9) (N := 5) hx hb hts inX9 hown hK.1 hP 5 rfl rfl 4 (by decide) (hts (.fieldLink RX9 24 "NestQuery$Tree" "size" "I") (by decide +kernel)) (fun _ h9 => h9) rfl dX9_become_1 ?_
  refine lv_istore_n (lv' := [(2, .int 1), (0, .ref imt), (1, .ref nwt)]) hx hb dX9_become_4 rfl hl (by decide) rfl (fun ls hl => ?_)
  refine lv_iload_n hx hb dX9_become_5 rfl (lv_at hl 0 rfl) ?_
  refine lv_if_lt (tgt := 88) hx hb dX9_become_6 (by decide) (fun c_1 => absurd c_1 (by decide)) (fun _ => ?_)
  refine lv_iload_n hx hb dX9_become_9 rfl (lv_at hl 0 rfl) ?_
  refine lv_aload_n hx hb dX9_become_10 rfl (lv_at hl 1 rfl) ?_
  refine va_get (D := G) (ci := 9) (v := .ref imtk) (C := RX9) (T := TX9) (N := 5) hx hb hts inX9 hown hK.1 hP 0 rfl rfl 0 (by decide) (hts (.fieldLink RX9 9 "NestQuery$Tree" "kinds" "[I") (by decide +kernel)) (fun _ h9 => h9) rfl dX9_become_11 ?_
  refine va_alen hx hb hK.1 hP 1 0 rfl rfl (v := 60) rfl dX9_become_14 ?_
  refine lv_icmp_gt (tgt := 88) hx hb dX9_become_15 (by decide) (fun c_2 => absurd c_2 (by decide)) (fun _ => ?_)
  refine lv_iload_n hx hb dX9_become_18 rfl (lv_at hl 0 rfl) ?_
  refine lv_aload_n hx hb dX9_become_19 rfl (lv_at hl 2 rfl) ?_
  refine va_get (D := G) (ci := 9) (v := .ref nwtk) (C := RX9) (T := TX9) (N := 5) hx hb hts inX9 hown hK.1 hP 5 rfl rfl 0 (by decide) (hts (.fieldLink RX9 9 "NestQuery$Tree" "kinds" "[I") (by decide +kernel)) (fun _ h9 => h9) rfl dX9_become_20 ?_
  refine va_alen hx hb hK.1 hP 6 0 rfl rfl (v := 60) rfl dX9_become_23 ?_
  refine lv_icmp_gt (tgt := 88) hx hb dX9_become_24 (by decide) (fun c_3 => absurd c_3 (by decide)) (fun _ => ?_)
  refine lv_aload_n hx hb dX9_become_27 rfl (lv_at hl 2 rfl) ?_
  refine va_get (D := G) (ci := 9) (v := .ref nwtk) (C := RX9) (T := TX9) (N := 5) hx hb hts inX9 hown hK.1 hP 5 rfl rfl 0 (by decide) (hts (.fieldLink RX9 9 "NestQuery$Tree" "kinds" "[I") (by decide +kernel)) (fun _ h9 => h9) rfl dX9_become_28 ?_
  refine lv_iconst (v := 0) hx hb dX9_become_31 (by decide) ?_
  refine lv_aload_n hx hb dX9_become_32 rfl (lv_at hl 1 rfl) ?_
  refine va_get (D := G) (ci := 9) (v := .ref imtk) (C := RX9) (T := TX9) (N := 5) hx hb hts inX9 hown hK.1 hP 0 rfl rfl 0 (by decide) (hts (.fieldLink RX9 9 "NestQuery$Tree" "kinds" "[I") (by decide +kernel)) (fun _ h9 => h9) rfl dX9_become_33 ?_
  refine lv_iconst (v := 0) hx hb dX9_become_36 (by decide) ?_
  refine lv_iload_n hx hb dX9_become_37 rfl (lv_at hl 0 rfl) ?_
  refine va_copyi hx hb (by rw [hml]; exact hl.1.symm) hown (hts (.methodLink RX9 60 arraycopyName) (by decide +kernel)) (hts (.native arraycopyName) (by decide +kernel)) (hts (.static arraycopyName) (by decide +kernel)) (hts (.initialized "java/lang/System") (by decide +kernel)) hK.1 hP hD hS 6 1 0 0 rfl rfl rfl rfl rfl (sp := 0) (dp := 0) (n := 1) (by decide) (by decide) (by decide) (by decide) (by decide) (fun _ _ => rfl) (Nat.le_of_ble_eq_true rfl) (Nat.le_of_ble_eq_true rfl) dX9_become_38 (fun H locs hP hD hS => ?_)
  have hP : va_P G vwCl [(imt, .inr (9, [.ref imtk, .ref imtv, .ref imte, .ref imtd, .int 0])), (imtk, .inl (y 0, 60, .inl (va_cpy fnwtk fimtk 0 0 1))), (imtv, .inl (y 0, 60, .inl fimtv)), (imte, .inl (y 0, 60, .inl fimte)), (imtd, .inl (y 0, 60, .inl fimtd)), (nwt, .inr (9, [.ref nwtk, .ref nwtv, .ref nwte, .ref nwtd, .int 1])), (nwtk, .inl (y 0, 60, .inl fnwtk)), (nwtv, .inl (y 0, 60, .inl fnwtv)), (nwte, .inl (y 0, 60, .inl fnwte)), (nwtd, .inl (y 0, 60, .inl fnwtd))] H := hP
  have hD : va_D A [(imt, .inr (9, [.ref imtk, .ref imtv, .ref imte, .ref imtd, .int 0])), (imtk, .inl (y 0, 60, .inl (va_cpy fnwtk fimtk 0 0 1))), (imtv, .inl (y 0, 60, .inl fimtv)), (imte, .inl (y 0, 60, .inl fimte)), (imtd, .inl (y 0, 60, .inl fimtd)), (nwt, .inr (9, [.ref nwtk, .ref nwtv, .ref nwte, .ref nwtd, .int 1])), (nwtk, .inl (y 0, 60, .inl fnwtk)), (nwtv, .inl (y 0, 60, .inl fnwtv)), (nwte, .inl (y 0, 60, .inl fnwte)), (nwtd, .inl (y 0, 60, .inl fnwtd))] := hD
  refine lv_aload_n hx hb dX9_become_41 rfl (lv_at hl 2 rfl) ?_
  refine va_get (D := G) (ci := 9) (v := .ref nwtv) (C := RX9) (T := TX9) (N := 5) hx hb hts inX9 hown hK.1 hP 5 rfl rfl 1 (by decide) (hts (.fieldLink RX9 15 "NestQuery$Tree" "values" "[I") (by decide +kernel)) (fun _ h9 => h9) rfl dX9_become_42 ?_
  refine lv_iconst (v := 0) hx hb dX9_become_45 (by decide) ?_
  refine lv_aload_n hx hb dX9_become_46 rfl (lv_at hl 1 rfl) ?_
  refine va_get (D := G) (ci := 9) (v := .ref imtv) (C := RX9) (T := TX9) (N := 5) hx hb hts inX9 hown hK.1 hP 0 rfl rfl 1 (by decide) (hts (.fieldLink RX9 15 "NestQuery$Tree" "values" "[I") (by decide +kernel)) (fun _ h9 => h9) rfl dX9_become_47 ?_
  refine lv_iconst (v := 0) hx hb dX9_become_50 (by decide) ?_
  refine lv_iload_n hx hb dX9_become_51 rfl (lv_at hl 0 rfl) ?_
  refine va_copyi hx hb (by rw [hml]; exact hl.1.symm) hown (hts (.methodLink RX9 60 arraycopyName) (by decide +kernel)) (hts (.native arraycopyName) (by decide +kernel)) (hts (.static arraycopyName) (by decide +kernel)) (hts (.initialized "java/lang/System") (by decide +kernel)) hK.1 hP hD hS 7 2 0 0 rfl rfl rfl rfl rfl (sp := 0) (dp := 0) (n := 1) (by decide) (by decide) (by decide) (by decide) (by decide) (fun _ _ => rfl) (Nat.le_of_ble_eq_true rfl) (Nat.le_of_ble_eq_true rfl) dX9_become_52 (fun H locs hP hD hS => ?_)
  have hP : va_P G vwCl [(imt, .inr (9, [.ref imtk, .ref imtv, .ref imte, .ref imtd, .int 0])), (imtk, .inl (y 0, 60, .inl (va_cpy fnwtk fimtk 0 0 1))), (imtv, .inl (y 0, 60, .inl (va_cpy fnwtv fimtv 0 0 1))), (imte, .inl (y 0, 60, .inl fimte)), (imtd, .inl (y 0, 60, .inl fimtd)), (nwt, .inr (9, [.ref nwtk, .ref nwtv, .ref nwte, .ref nwtd, .int 1])), (nwtk, .inl (y 0, 60, .inl fnwtk)), (nwtv, .inl (y 0, 60, .inl fnwtv)), (nwte, .inl (y 0, 60, .inl fnwte)), (nwtd, .inl (y 0, 60, .inl fnwtd))] H := hP
  have hD : va_D A [(imt, .inr (9, [.ref imtk, .ref imtv, .ref imte, .ref imtd, .int 0])), (imtk, .inl (y 0, 60, .inl (va_cpy fnwtk fimtk 0 0 1))), (imtv, .inl (y 0, 60, .inl (va_cpy fnwtv fimtv 0 0 1))), (imte, .inl (y 0, 60, .inl fimte)), (imtd, .inl (y 0, 60, .inl fimtd)), (nwt, .inr (9, [.ref nwtk, .ref nwtv, .ref nwte, .ref nwtd, .int 1])), (nwtk, .inl (y 0, 60, .inl fnwtk)), (nwtv, .inl (y 0, 60, .inl fnwtv)), (nwte, .inl (y 0, 60, .inl fnwte)), (nwtd, .inl (y 0, 60, .inl fnwtd))] := hD
  refine lv_aload_n hx hb dX9_become_55 rfl (lv_at hl 2 rfl) ?_
  refine va_get (D := G) (ci := 9) (v := .ref nwte) (C := RX9) (T := TX9) (N := 5) hx hb hts inX9 hown hK.1 hP 5 rfl rfl 2 (by decide) (hts (.fieldLink RX9 18 "NestQuery$Tree" "keys" "[I") (by decide +kernel)) (fun _ h9 => h9) rfl dX9_become_56 ?_
  refine lv_iconst (v := 0) hx hb dX9_become_59 (by decide) ?_
  refine lv_aload_n hx hb dX9_become_60 rfl (lv_at hl 1 rfl) ?_
  refine va_get (D := G) (ci := 9) (v := .ref imte) (C := RX9) (T := TX9) (N := 5) hx hb hts inX9 hown hK.1 hP 0 rfl rfl 2 (by decide) (hts (.fieldLink RX9 18 "NestQuery$Tree" "keys" "[I") (by decide +kernel)) (fun _ h9 => h9) rfl dX9_become_61 ?_
  refine lv_iconst (v := 0) hx hb dX9_become_64 (by decide) ?_
  refine lv_iload_n hx hb dX9_become_65 rfl (lv_at hl 0 rfl) ?_
  refine va_copyi hx hb (by rw [hml]; exact hl.1.symm) hown (hts (.methodLink RX9 60 arraycopyName) (by decide +kernel)) (hts (.native arraycopyName) (by decide +kernel)) (hts (.static arraycopyName) (by decide +kernel)) (hts (.initialized "java/lang/System") (by decide +kernel)) hK.1 hP hD hS 8 3 0 0 rfl rfl rfl rfl rfl (sp := 0) (dp := 0) (n := 1) (by decide) (by decide) (by decide) (by decide) (by decide) (fun _ _ => rfl) (Nat.le_of_ble_eq_true rfl) (Nat.le_of_ble_eq_true rfl) dX9_become_66 (fun H locs hP hD hS => ?_)
  have hP : va_P G vwCl [(imt, .inr (9, [.ref imtk, .ref imtv, .ref imte, .ref imtd, .int 0])), (imtk, .inl (y 0, 60, .inl (va_cpy fnwtk fimtk 0 0 1))), (imtv, .inl (y 0, 60, .inl (va_cpy fnwtv fimtv 0 0 1))), (imte, .inl (y 0, 60, .inl (va_cpy fnwte fimte 0 0 1))), (imtd, .inl (y 0, 60, .inl fimtd)), (nwt, .inr (9, [.ref nwtk, .ref nwtv, .ref nwte, .ref nwtd, .int 1])), (nwtk, .inl (y 0, 60, .inl fnwtk)), (nwtv, .inl (y 0, 60, .inl fnwtv)), (nwte, .inl (y 0, 60, .inl fnwte)), (nwtd, .inl (y 0, 60, .inl fnwtd))] H := hP
  have hD : va_D A [(imt, .inr (9, [.ref imtk, .ref imtv, .ref imte, .ref imtd, .int 0])), (imtk, .inl (y 0, 60, .inl (va_cpy fnwtk fimtk 0 0 1))), (imtv, .inl (y 0, 60, .inl (va_cpy fnwtv fimtv 0 0 1))), (imte, .inl (y 0, 60, .inl (va_cpy fnwte fimte 0 0 1))), (imtd, .inl (y 0, 60, .inl fimtd)), (nwt, .inr (9, [.ref nwtk, .ref nwtv, .ref nwte, .ref nwtd, .int 1])), (nwtk, .inl (y 0, 60, .inl fnwtk)), (nwtv, .inl (y 0, 60, .inl fnwtv)), (nwte, .inl (y 0, 60, .inl fnwte)), (nwtd, .inl (y 0, 60, .inl fnwtd))] := hD
  refine lv_aload_n hx hb dX9_become_69 rfl (lv_at hl 2 rfl) ?_
  refine va_get (D := G) (ci := 9) (v := .ref nwtd) (C := RX9) (T := TX9) (N := 5) hx hb hts inX9 hown hK.1 hP 5 rfl rfl 3 (by decide) (hts (.fieldLink RX9 21 "NestQuery$Tree" "depths" "[I") (by decide +kernel)) (fun _ h9 => h9) rfl dX9_become_70 ?_
  refine lv_iconst (v := 0) hx hb dX9_become_73 (by decide) ?_
  refine lv_aload_n hx hb dX9_become_74 rfl (lv_at hl 1 rfl) ?_
  refine va_get (D := G) (ci := 9) (v := .ref imtd) (C := RX9) (T := TX9) (N := 5) hx hb hts inX9 hown hK.1 hP 0 rfl rfl 3 (by decide) (hts (.fieldLink RX9 21 "NestQuery$Tree" "depths" "[I") (by decide +kernel)) (fun _ h9 => h9) rfl dX9_become_75 ?_
  refine lv_iconst (v := 0) hx hb dX9_become_78 (by decide) ?_
  refine lv_iload_n hx hb dX9_become_79 rfl (lv_at hl 0 rfl) ?_
  refine va_copyi hx hb (by rw [hml]; exact hl.1.symm) hown (hts (.methodLink RX9 60 arraycopyName) (by decide +kernel)) (hts (.native arraycopyName) (by decide +kernel)) (hts (.static arraycopyName) (by decide +kernel)) (hts (.initialized "java/lang/System") (by decide +kernel)) hK.1 hP hD hS 9 4 0 0 rfl rfl rfl rfl rfl (sp := 0) (dp := 0) (n := 1) (by decide) (by decide) (by decide) (by decide) (by decide) (fun _ _ => rfl) (Nat.le_of_ble_eq_true rfl) (Nat.le_of_ble_eq_true rfl) dX9_become_80 (fun H locs hP hD hS => ?_)
  have hP : va_P G vwCl [(imt, .inr (9, [.ref imtk, .ref imtv, .ref imte, .ref imtd, .int 0])), (imtk, .inl (y 0, 60, .inl (va_cpy fnwtk fimtk 0 0 1))), (imtv, .inl (y 0, 60, .inl (va_cpy fnwtv fimtv 0 0 1))), (imte, .inl (y 0, 60, .inl (va_cpy fnwte fimte 0 0 1))), (imtd, .inl (y 0, 60, .inl (va_cpy fnwtd fimtd 0 0 1))), (nwt, .inr (9, [.ref nwtk, .ref nwtv, .ref nwte, .ref nwtd, .int 1])), (nwtk, .inl (y 0, 60, .inl fnwtk)), (nwtv, .inl (y 0, 60, .inl fnwtv)), (nwte, .inl (y 0, 60, .inl fnwte)), (nwtd, .inl (y 0, 60, .inl fnwtd))] H := hP
  have hD : va_D A [(imt, .inr (9, [.ref imtk, .ref imtv, .ref imte, .ref imtd, .int 0])), (imtk, .inl (y 0, 60, .inl (va_cpy fnwtk fimtk 0 0 1))), (imtv, .inl (y 0, 60, .inl (va_cpy fnwtv fimtv 0 0 1))), (imte, .inl (y 0, 60, .inl (va_cpy fnwte fimte 0 0 1))), (imtd, .inl (y 0, 60, .inl (va_cpy fnwtd fimtd 0 0 1))), (nwt, .inr (9, [.ref nwtk, .ref nwtv, .ref nwte, .ref nwtd, .int 1])), (nwtk, .inl (y 0, 60, .inl fnwtk)), (nwtv, .inl (y 0, 60, .inl fnwtv)), (nwte, .inl (y 0, 60, .inl fnwte)), (nwtd, .inl (y 0, 60, .inl fnwtd))] := hD
  refine lv_aload_n hx hb dX9_become_83 rfl (lv_at hl 1 rfl) ?_
  refine lv_iload_n hx hb dX9_become_84 rfl (lv_at hl 0 rfl) ?_
  refine va_put (D := G) (ci := 9) (v := .int 1) (ty := .int) (C := RX9) (T := TX9) (N := 5) hx hb hts inX9 tyX9 tyX9_ok nmX9 hown hK.1 hP hD hS 0 rfl rfl 4 (by decide) (hts (.fieldLink RX9 24 "NestQuery$Tree" "size" "I") (by decide +kernel)) (fun _ h9 => h9) rfl (by decide +kernel) rfl rfl (Nat.le_of_ble_eq_true rfl) dX9_become_85 (fun H locs hP hD hS => ?_)
  have hP : va_P G vwCl [(imt, .inr (9, [.ref imtk, .ref imtv, .ref imte, .ref imtd, .int 1])), (imtk, .inl (y 0, 60, .inl (va_cpy fnwtk fimtk 0 0 1))), (imtv, .inl (y 0, 60, .inl (va_cpy fnwtv fimtv 0 0 1))), (imte, .inl (y 0, 60, .inl (va_cpy fnwte fimte 0 0 1))), (imtd, .inl (y 0, 60, .inl (va_cpy fnwtd fimtd 0 0 1))), (nwt, .inr (9, [.ref nwtk, .ref nwtv, .ref nwte, .ref nwtd, .int 1])), (nwtk, .inl (y 0, 60, .inl fnwtk)), (nwtv, .inl (y 0, 60, .inl fnwtv)), (nwte, .inl (y 0, 60, .inl fnwte)), (nwtd, .inl (y 0, 60, .inl fnwtd))] H := hP
  have hD : va_D A [(imt, .inr (9, [.ref imtk, .ref imtv, .ref imte, .ref imtd, .int 1])), (imtk, .inl (y 0, 60, .inl (va_cpy fnwtk fimtk 0 0 1))), (imtv, .inl (y 0, 60, .inl (va_cpy fnwtv fimtv 0 0 1))), (imte, .inl (y 0, 60, .inl (va_cpy fnwte fimte 0 0 1))), (imtd, .inl (y 0, 60, .inl (va_cpy fnwtd fimtd 0 0 1))), (nwt, .inr (9, [.ref nwtk, .ref nwtv, .ref nwte, .ref nwtd, .int 1])), (nwtk, .inl (y 0, 60, .inl fnwtk)), (nwtv, .inl (y 0, 60, .inl fnwtv)), (nwte, .inl (y 0, 60, .inl fnwte)), (nwtd, .inl (y 0, 60, .inl fnwtd))] := hD
  have hP9 := hP.sub (ws' := []) [] rfl
  have hD9 := hD.sub (ws' := []) [] (by decide) rfl
  refine W.widen (k := 0) (n := 0) (Nat.le_of_ble_eq_true rfl) (Nat.le_of_ble_eq_true rfl) ?_
  exact W.vret hx hb hr (fun t ht hW => ⟨⟨(), rfl, trivial, by rw [ht]; exact hP9, by first | exact hD9 | (rw [hAe]; exact hD9)⟩, hS.F ht⟩) hS.2.2 dX9_become_88

