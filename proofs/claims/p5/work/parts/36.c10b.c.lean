set_option maxHeartbeats 4000000 in
set_option maxRecDepth 100000 in
theorem m_ofKind (l : Launch) (G : va_G) (y : Nat → ClassId) (b0 : Nat) (σ : th_M) (E : th_E) (hO : ok y E σ) (a : Nat) (h_a : kd E a = 13) (kd : Int) (rkd : rng kd) (f1 : Nat → Int32) (ef1 : aF σ (ad E a 1) = f1) (hy0 : wf f1 0 (mS f1 0)) (hy1 : 1 ≤ mS f1 0 ∧ mS f1 0 ≤ 60) : Met l yX11_ofKind wsX11_ofKind ({ frames := 1, cells := 0, slots := 0, locals := 25 }) (th_P G y b0 σ [.ref a, .int (I kd)]) (th_Qi G b0 (fun r σ1 => σ1 = σ ∧ (True))) 0 0 (th_A b0) := by
  refine Met.ofW (cc := cX11_ofKind) (maxL := 4) (ret := (some .int)) (by decide) rfl ?_
  intro p e s m args below meth c s₁ B hml hv
  obtain ⟨rfl, hH, hK⟩ := hv
  have hx := B.exec
  have hb := B.bytes
  have hr := B.returns
  have hts := atoms_spec (ws := wsX11_ofKind) B.pre
  have hown : s.vm.findClass RX11 = some m.cls := findClass_of_methodNamed B.named
  have hlocks := B.notSynchronized
  have h00 : b0 ≤ s.heap.size := hH.1
  have hS : va_S (th_A b0) s.heap s.heap [] := va_S.rf
  have inX11 : ∀ w ∈ wsX110, w ∈ wsX11_ofKind := by decide +kernel
  have fl0 := hts (.fieldLink RX11 9 "NestQueryModel" "tree" "[I") (by decide +kernel)
  have hl := lv_entry ([.ref a, .int (I kd)]) (n := 4) (Nat.le_of_ble_eq_true rfl)
  rw [lg_entry_eq]
  generalize (lg_sl ([.ref a, .int (I kd)]) ++ List.replicate (4 - (lg_sl ([.ref a, .int (I kd)])).length) Slot.unset).toArray = ls at hl ⊢
  have hl : lv_has ls 4 [(0, .ref a), (1, .int (I kd))] := hl
  refine lv_iconst (v := I 0) hx hb dX11_ofKind_0 (by decide) ?_
  refine lv_istore_n (lv' := [(2, .int (I 0)), (0, .ref a), (1, .int (I kd))]) hx hb dX11_ofKind_1 rfl hl (by decide) rfl (fun ls hl => ?_)
  refine lv_iconst (v := I 0) hx hb dX11_ofKind_2 (by decide) ?_
  refine lv_istore_n (lv' := [(3, .int (I 0)), (2, .int (I 0)), (0, .ref a), (1, .int (I kd))]) hx hb dX11_ofKind_3 rfl hl (by decide) rfl (fun ls hl => ?_)
  refine th_loop (α := Int × Int) (pc := 4) (fun x9 => (mS f1 0 - x9.2).toNat) (fun x9 σ9 H9 l9 ls9 => σ9 = σ ∧ th_H G b0 σ9 H9 ∧ va_S (th_A b0) s.heap H9 l9 ∧ lv_has ls9 4 [(0, .ref a), (1, .int (I kd)), (2, .int (I x9.1)), (3, .int (I x9.2))] ∧ rng x9.1 ∧ rng x9.2 ∧ (0 ≤ x9.2) ∧ (x9.2 ≤ 60) ∧ (0 ≤ x9.1) ∧ (x9.1 ≤ x9.2)) ?_ (0, 0) σ _ _ _ ⟨rfl, hH, hS, lv_sub hl [2, 3, 1, 0] rfl, (show rng 0 from ⟨by decide, by decide⟩), (show rng 0 from ⟨by decide, by decide⟩), by first | (dsimp only; omega) | omega, by first | (dsimp only; omega) | omega, by first | (dsimp only; omega) | omega, by first | (dsimp only; omega) | omega⟩
  intro x9 σ_J_14 H locs ls hI9 ihJ_14
  obtain ⟨v2q13, v3q13⟩ := x9
  obtain ⟨eJ_14, hH, hS, hl, rv2q13, rv3q13, J_14_0, J_14_1, J_14_2, J_14_3⟩ := hI9
  replace eJ_14 := eJ_14.symm
  subst eJ_14
  have hl : lv_has ls 4 [(0, .ref a), (1, .int (I kd)), (2, .int (I v2q13)), (3, .int (I v3q13))] := hl
  have rv2q13 : rng v2q13 := rv2q13
  have rv3q13 : rng v3q13 := rv3q13
  have J_14_0 : 0 ≤ v3q13 := J_14_0
  have J_14_1 : v3q13 ≤ 60 := J_14_1
  have J_14_2 : 0 ≤ v2q13 := J_14_2
  have J_14_3 : v2q13 ≤ v3q13 := J_14_3
  refine lv_iload_n hx hb dX11_ofKind_4 rfl (lv_at hl 3 rfl) ?_
  refine lv_aload_n hx hb dX11_ofKind_5 rfl (lv_at hl 0 rfl) ?_
  obtain ⟨_, hc_15⟩ := hO.cell h_a (by decide) (ci := 11) rfl
  refine th_calli (va_runV (As := []) (rest := [.int (I v3q13)]) ⟨hx, hb, hml, hown, hts⟩ (m_things l G y b0 σ E hO a h_a f1 ef1) (cwV 0 hts gX11_ofKind_X11_things rfl rfl rfl (by decide +kernel) ⟨Nat.le_of_ble_eq_true rfl, Nat.le_of_ble_eq_true rfl⟩) (th_PV hK hH rfl hc_15) rfl rfl hl.1 rfl (lv_room (Nat.le_of_ble_eq_true rfl)) dX11_ofKind_6 ⟨Nat.le_of_ble_eq_true rfl, Nat.le_of_ble_eq_true rfl⟩) hS (fun z_18 σ_s_17 H locs rz_18 hw_16 hH hS => ?_)
  obtain ⟨e9, hw_16⟩ := hw_16
  replace e9 := e9.symm
  subst e9
  have hw_16 : z_18 = mS f1 0 := hw_16
  refine lv_icmp_ge (tgt := 38) hx hb dX11_ofKind_9 (by decide) (fun c_19 => ?_) (fun c_19 => ?_)
  · replace c_19 := (I_le (a := z_18) (b := v3q13) rz_18 rv3q13).mp c_19
    refine lv_iload_n hx hb dX11_ofKind_38 rfl (lv_at hl 2 rfl) ?_
    exact th_iret hx hb hr hlocks hH hS (z := v2q13) rv2q13 ⟨rfl, trivial⟩ dX11_ofKind_39
  · replace c_19 := mt (I_le (a := z_18) (b := v3q13) rz_18 rv3q13).mpr c_19
    refine lv_iload_n hx hb dX11_ofKind_12 rfl (lv_at hl 2 rfl) ?_
    refine lv_aload_n hx hb dX11_ofKind_13 rfl (lv_at hl 0 rfl) ?_
    refine ok.getR hO h_a (by decide) k13_1 (by decide) (fun _ _ he hv kk => th_get (ci := 11) (C := RX11) (T := TX11) (N := 66) hx hb hts inX11 hown hK hH he rfl 1 (by decide) fl0 hv dX11_ofKind_14 kk) ?_
    refine lv_iload_n hx hb dX11_ofKind_17 rfl (lv_at hl 3 rfl) ?_
    refine th_calli (va_runS (As := [.ref (ad E a 1), .int (I v3q13)]) (rest := [.int (I v2q13)]) ⟨hx, hb, hml, hown, hts⟩ (w_kind l G y b0 σ E hO (ad E a 1) 240 f1 (hO.roww h_a k13_1 isA1 ef1 rfl) v3q13 (show rng v3q13 from rv3q13) (by omega) (by omega) (by omega)) (va_cwS 2 hts gX11_ofKind_X11_kind rfl rfl rfl (by decide +kernel) ⟨Nat.le_of_ble_eq_true rfl, Nat.le_of_ble_eq_true rfl⟩) (th_PS hK hH) rfl rfl hl.1 rfl (lv_room (Nat.le_of_ble_eq_true rfl)) dX11_ofKind_18 ⟨Nat.le_of_ble_eq_true rfl, Nat.le_of_ble_eq_true rfl⟩) hS (fun z_22 σ_s_21 H locs rz_22 hw_20 hH hS => ?_)
    obtain ⟨e9, hw_20⟩ := hw_20
    replace e9 := e9.symm
    subst e9
    have hw_20 : z_22 = mK f1 v3q13 := hw_20
    refine lv_iload_n hx hb dX11_ofKind_21 rfl (lv_at hl 1 rfl) ?_
    refine lv_icmp_ne (tgt := 29) hx hb dX11_ofKind_22 (by decide) (fun c_23 => ?_) (fun c_23 => ?_)
    · replace c_23 := mt (I_eq (a := z_22) (b := kd) rz_22 rkd).mpr c_23
      refine lv_iconst (v := I 0) hx hb dX11_ofKind_29 (by decide) ?_
      refine lv_iadd hx hb dX11_ofKind_30 ?_
      refine th_addo (fun z_24 rz_24 hz_24 => ?_)
      refine lv_istore_n (lv' := [(2, .int (I z_24)), (0, .ref a), (1, .int (I kd)), (3, .int (I v3q13))]) hx hb dX11_ofKind_31 rfl hl (by decide) rfl (fun ls hl => ?_)
      refine lv_iinc (v := I (v3q13 + 1)) (lv' := [(3, .int (I (v3q13 + 1))), (2, .int (I z_24)), (0, .ref a), (1, .int (I kd))]) hx hb dX11_ofKind_32 hl (k := 3) rfl (I_add _ _) (by decide) rfl (fun ls hl => ?_)
      refine lv_goto (tgt := 4) hx hb dX11_ofKind_35 (by decide) ?_
      exact ihJ_14 (z_24, v3q13 + 1) σ _ _ _ (by first | (dsimp only; omega) | omega) ⟨rfl, hH, hS, lv_sub hl [2, 3, 1, 0] rfl, rz_24, ⟨by first | (dsimp only; omega) | omega, by first | (dsimp only; omega) | omega⟩, by first | (dsimp only; omega) | omega, by first | (dsimp only; omega) | omega, by first | (dsimp only; omega) | omega, by first | (dsimp only; omega) | omega⟩
    · replace c_23 := (I_eq (a := z_22) (b := kd) rz_22 rkd).mp c_23
      refine lv_iconst (v := I 1) hx hb dX11_ofKind_25 (by decide) ?_
      refine lv_goto (tgt := 30) hx hb dX11_ofKind_26 (by decide) ?_
      refine lv_iadd hx hb dX11_ofKind_30 ?_
      refine th_addo (fun z_25 rz_25 hz_25 => ?_)
      refine lv_istore_n (lv' := [(2, .int (I z_25)), (0, .ref a), (1, .int (I kd)), (3, .int (I v3q13))]) hx hb dX11_ofKind_31 rfl hl (by decide) rfl (fun ls hl => ?_)
      refine lv_iinc (v := I (v3q13 + 1)) (lv' := [(3, .int (I (v3q13 + 1))), (2, .int (I z_25)), (0, .ref a), (1, .int (I kd))]) hx hb dX11_ofKind_32 hl (k := 3) rfl (I_add _ _) (by decide) rfl (fun ls hl => ?_)
      refine lv_goto (tgt := 4) hx hb dX11_ofKind_35 (by decide) ?_
      exact ihJ_14 (z_25, v3q13 + 1) σ _ _ _ (by first | (dsimp only; omega) | omega) ⟨rfl, hH, hS, lv_sub hl [2, 3, 1, 0] rfl, rz_25, ⟨by first | (dsimp only; omega) | omega, by first | (dsimp only; omega) | omega⟩, by first | (dsimp only; omega) | omega, by first | (dsimp only; omega) | omega, by first | (dsimp only; omega) | omega, by first | (dsimp only; omega) | omega⟩

set_option maxHeartbeats 4000000 in
set_option maxRecDepth 100000 in
theorem m_sum (l : Launch) (G : va_G) (y : Nat → ClassId) (b0 : Nat) (σ : th_M) (E : th_E) (hO : ok y E σ) (a : Nat) (h_a : kd E a = 13) (f1 : Nat → Int32) (ef1 : aF σ (ad E a 1) = f1) (hy0 : wf f1 0 (mS f1 0)) (hy1 : 1 ≤ mS f1 0 ∧ mS f1 0 ≤ 60) : Met l yX11_sum wsX11_sum ({ frames := 1, cells := 0, slots := 0, locals := 25 }) (th_P G y b0 σ [.ref a]) (th_Qi G b0 (fun r σ1 => σ1 = σ ∧ (True))) 0 0 (th_A b0) := by
  refine Met.ofW (cc := cX11_sum) (maxL := 3) (ret := (some .int)) (by decide) rfl ?_
  intro p e s m args below meth c s₁ B hml hv
  obtain ⟨rfl, hH, hK⟩ := hv
  have hx := B.exec
  have hb := B.bytes
  have hr := B.returns
  have hts := atoms_spec (ws := wsX11_sum) B.pre
  have hown : s.vm.findClass RX11 = some m.cls := findClass_of_methodNamed B.named
  have hlocks := B.notSynchronized
  have h00 : b0 ≤ s.heap.size := hH.1
  have hS : va_S (th_A b0) s.heap s.heap [] := va_S.rf
  have inX11 : ∀ w ∈ wsX110, w ∈ wsX11_sum := by decide +kernel
  have fl0 := hts (.fieldLink RX11 9 "NestQueryModel" "tree" "[I") (by decide +kernel)
  have hl := lv_entry ([.ref a]) (n := 3) (Nat.le_of_ble_eq_true rfl)
  rw [lg_entry_eq]
  generalize (lg_sl ([.ref a]) ++ List.replicate (3 - (lg_sl ([.ref a])).length) Slot.unset).toArray = ls at hl ⊢
  have hl : lv_has ls 3 [(0, .ref a)] := hl
  refine lv_iconst (v := I 0) hx hb dX11_sum_0 (by decide) ?_
  refine lv_istore_n (lv' := [(1, .int (I 0)), (0, .ref a)]) hx hb dX11_sum_1 rfl hl (by decide) rfl (fun ls hl => ?_)
  refine lv_iconst (v := I 0) hx hb dX11_sum_2 (by decide) ?_
  refine lv_istore_n (lv' := [(2, .int (I 0)), (1, .int (I 0)), (0, .ref a)]) hx hb dX11_sum_3 rfl hl (by decide) rfl (fun ls hl => ?_)
  refine th_loop (α := Int × Int) (pc := 4) (fun x9 => (mS f1 0 - x9.2).toNat) (fun x9 σ9 H9 l9 ls9 => σ9 = σ ∧ th_H G b0 σ9 H9 ∧ va_S (th_A b0) s.heap H9 l9 ∧ lv_has ls9 3 [(0, .ref a), (1, .int (I x9.1)), (2, .int (I x9.2))] ∧ rng x9.1 ∧ rng x9.2 ∧ (0 ≤ x9.2) ∧ (x9.2 ≤ 60)) ?_ (0, 0) σ _ _ _ ⟨rfl, hH, hS, lv_sub hl [2, 1, 0] rfl, (show rng 0 from ⟨by decide, by decide⟩), (show rng 0 from ⟨by decide, by decide⟩), by first | (dsimp only; omega) | omega, by first | (dsimp only; omega) | omega⟩
  intro x9 σ_J_15 H locs ls hI9 ihJ_15
  obtain ⟨v1q14, v2q14⟩ := x9
  obtain ⟨eJ_15, hH, hS, hl, rv1q14, rv2q14, J_15_0, J_15_1⟩ := hI9
  replace eJ_15 := eJ_15.symm
  subst eJ_15
  have hl : lv_has ls 3 [(0, .ref a), (1, .int (I v1q14)), (2, .int (I v2q14))] := hl
  have rv1q14 : rng v1q14 := rv1q14
  have rv2q14 : rng v2q14 := rv2q14
  have J_15_0 : 0 ≤ v2q14 := J_15_0
  have J_15_1 : v2q14 ≤ 60 := J_15_1
  refine lv_iload_n hx hb dX11_sum_4 rfl (lv_at hl 2 rfl) ?_
  refine lv_aload_n hx hb dX11_sum_5 rfl (lv_at hl 0 rfl) ?_
  obtain ⟨_, hc_16⟩ := hO.cell h_a (by decide) (ci := 11) rfl
  refine th_calli (va_runV (As := []) (rest := [.int (I v2q14)]) ⟨hx, hb, hml, hown, hts⟩ (m_things l G y b0 σ E hO a h_a f1 ef1) (cwV 0 hts gX11_sum_X11_things rfl rfl rfl (by decide +kernel) ⟨Nat.le_of_ble_eq_true rfl, Nat.le_of_ble_eq_true rfl⟩) (th_PV hK hH rfl hc_16) rfl rfl hl.1 rfl (lv_room (Nat.le_of_ble_eq_true rfl)) dX11_sum_6 ⟨Nat.le_of_ble_eq_true rfl, Nat.le_of_ble_eq_true rfl⟩) hS (fun z_19 σ_s_18 H locs rz_19 hw_17 hH hS => ?_)
  obtain ⟨e9, hw_17⟩ := hw_17
  replace e9 := e9.symm
  subst e9
  have hw_17 : z_19 = mS f1 0 := hw_17
  refine lv_icmp_ge (tgt := 46) hx hb dX11_sum_9 (by decide) (fun c_20 => ?_) (fun c_20 => ?_)
  · replace c_20 := (I_le (a := z_19) (b := v2q14) rz_19 rv2q14).mp c_20
    refine lv_iload_n hx hb dX11_sum_46 rfl (lv_at hl 1 rfl) ?_
    exact th_iret hx hb hr hlocks hH hS (z := v1q14) rv1q14 ⟨rfl, trivial⟩ dX11_sum_47
  · replace c_20 := mt (I_le (a := z_19) (b := v2q14) rz_19 rv2q14).mpr c_20
    refine lv_iload_n hx hb dX11_sum_12 rfl (lv_at hl 1 rfl) ?_
    refine lv_aload_n hx hb dX11_sum_13 rfl (lv_at hl 0 rfl) ?_
    refine ok.getR hO h_a (by decide) k13_1 (by decide) (fun _ _ he hv kk => th_get (ci := 11) (C := RX11) (T := TX11) (N := 66) hx hb hts inX11 hown hK hH he rfl 1 (by decide) fl0 hv dX11_sum_14 kk) ?_
    refine lv_iload_n hx hb dX11_sum_17 rfl (lv_at hl 2 rfl) ?_
    refine th_calli (va_runS (As := [.ref (ad E a 1), .int (I v2q14)]) (rest := [.int (I v1q14)]) ⟨hx, hb, hml, hown, hts⟩ (w_kind l G y b0 σ E hO (ad E a 1) 240 f1 (hO.roww h_a k13_1 isA1 ef1 rfl) v2q14 (show rng v2q14 from rv2q14) (by omega) (by omega) (by omega)) (va_cwS 2 hts gX11_sum_X11_kind rfl rfl rfl (by decide +kernel) ⟨Nat.le_of_ble_eq_true rfl, Nat.le_of_ble_eq_true rfl⟩) (th_PS hK hH) rfl rfl hl.1 rfl (lv_room (Nat.le_of_ble_eq_true rfl)) dX11_sum_18 ⟨Nat.le_of_ble_eq_true rfl, Nat.le_of_ble_eq_true rfl⟩) hS (fun z_23 σ_s_22 H locs rz_23 hw_21 hH hS => ?_)
    obtain ⟨e9, hw_21⟩ := hw_21
    replace e9 := e9.symm
    subst e9
    have hw_21 : z_23 = mK f1 v2q14 := hw_21
    refine lv_if_ne (tgt := 37) hx hb dX11_sum_21 (by decide) (fun c_24 => ?_) (fun c_24 => ?_)
    · replace c_24 := mt (I_eq (a := z_23) (b := 0) rz_23 (show rng 0 from ⟨by decide, by decide⟩)).mpr c_24
      refine lv_iconst (v := I 0) hx hb dX11_sum_37 (by decide) ?_
      refine lv_iadd hx hb dX11_sum_38 ?_
      refine th_addo (fun z_25 rz_25 hz_25 => ?_)
      refine lv_istore_n (lv' := [(1, .int (I z_25)), (0, .ref a), (2, .int (I v2q14))]) hx hb dX11_sum_39 rfl hl (by decide) rfl (fun ls hl => ?_)
      refine lv_iinc (v := I (v2q14 + 1)) (lv' := [(2, .int (I (v2q14 + 1))), (1, .int (I z_25)), (0, .ref a)]) hx hb dX11_sum_40 hl (k := 2) rfl (I_add _ _) (by decide) rfl (fun ls hl => ?_)
      refine lv_goto (tgt := 4) hx hb dX11_sum_43 (by decide) ?_
      exact ihJ_15 (z_25, v2q14 + 1) σ _ _ _ (by first | (dsimp only; omega) | omega) ⟨rfl, hH, hS, lv_sub hl [2, 1, 0] rfl, rz_25, ⟨by first | (dsimp only; omega) | omega, by first | (dsimp only; omega) | omega⟩, by first | (dsimp only; omega) | omega, by first | (dsimp only; omega) | omega⟩
    · replace c_24 := (I_eq (a := z_23) (b := 0) rz_23 (show rng 0 from ⟨by decide, by decide⟩)).mp c_24
      refine lv_aload_n hx hb dX11_sum_24 rfl (lv_at hl 0 rfl) ?_
      refine ok.getR hO h_a (by decide) k13_1 (by decide) (fun _ _ he hv kk => th_get (ci := 11) (C := RX11) (T := TX11) (N := 66) hx hb hts inX11 hown hK hH he rfl 1 (by decide) fl0 hv dX11_sum_25 kk) ?_
      refine lv_iconst (v := I 4) hx hb dX11_sum_28 (by decide) ?_
      refine lv_iload_n hx hb dX11_sum_29 rfl (lv_at hl 2 rfl) ?_
      refine lv_imul hx hb dX11_sum_30 ?_
      refine nq_top (I_mul _ _) ?_
      refine lv_iconst (v := I 1) hx hb dX11_sum_31 (by decide) ?_
      refine lv_iadd hx hb dX11_sum_32 ?_
      refine nq_top (I_add _ _) ?_
      refine m_iald hx hb hK hH hO h_a k13_1 isA1 ef1 ⟨by omega, by omega⟩ (by omega) (by omega) dX11_sum_33 (fun z_26 ez_26 rz_26 elx9 => ?_)
      refine lv_goto (tgt := 38) hx hb dX11_sum_34 (by decide) ?_
      refine lv_iadd hx hb dX11_sum_38 ?_
      refine th_addo (fun z_27 rz_27 hz_27 => ?_)
      refine lv_istore_n (lv' := [(1, .int (I z_27)), (0, .ref a), (2, .int (I v2q14))]) hx hb dX11_sum_39 rfl hl (by decide) rfl (fun ls hl => ?_)
      refine lv_iinc (v := I (v2q14 + 1)) (lv' := [(2, .int (I (v2q14 + 1))), (1, .int (I z_27)), (0, .ref a)]) hx hb dX11_sum_40 hl (k := 2) rfl (I_add _ _) (by decide) rfl (fun ls hl => ?_)
      refine lv_goto (tgt := 4) hx hb dX11_sum_43 (by decide) ?_
      exact ihJ_15 (z_27, v2q14 + 1) σ _ _ _ (by first | (dsimp only; omega) | omega) ⟨rfl, hH, hS, lv_sub hl [2, 1, 0] rfl, rz_27, ⟨by first | (dsimp only; omega) | omega, by first | (dsimp only; omega) | omega⟩, by first | (dsimp only; omega) | omega, by first | (dsimp only; omega) | omega⟩

set_option maxHeartbeats 4000000 in
set_option maxRecDepth 100000 in
theorem m_deepest (l : Launch) (G : va_G) (y : Nat → ClassId) (b0 : Nat) (σ : th_M) (E : th_E) (hO : ok y E σ) (a : Nat) (h_a : kd E a = 13) (f1 : Nat → Int32) (ef1 : aF σ (ad E a 1) = f1) (hy0 : wf f1 0 (mS f1 0)) (hy1 : 1 ≤ mS f1 0 ∧ mS f1 0 ≤ 60) : Met l yX11_deepest wsX11_deepest ({ frames := 2, cells := 0, slots := 0, locals := 52 }) (th_P G y b0 σ [.ref a]) (th_Qi G b0 (fun r σ1 => σ1 = σ ∧ (True))) 0 0 (th_A b0) := by
  refine Met.ofW (cc := cX11_deepest) (maxL := 3) (ret := (some .int)) (by decide) rfl ?_
  intro p e s m args below meth c s₁ B hml hv
  obtain ⟨rfl, hH, hK⟩ := hv
  have hx := B.exec
  have hb := B.bytes
  have hr := B.returns
  have hts := atoms_spec (ws := wsX11_deepest) B.pre
  have hown : s.vm.findClass RX11 = some m.cls := findClass_of_methodNamed B.named
  have hlocks := B.notSynchronized
  have h00 : b0 ≤ s.heap.size := hH.1
  have hS : va_S (th_A b0) s.heap s.heap [] := va_S.rf
  have inX11 : ∀ w ∈ wsX110, w ∈ wsX11_deepest := by decide +kernel
  have fl0 := hts (.fieldLink RX11 9 "NestQueryModel" "tree" "[I") (by decide +kernel)
  have fl1 := hts (.methodLink RX11 313 Lib.Math.max.name) (by decide +kernel)
  have fl2 := hts (.static Lib.Math.max.name) (by decide +kernel)
  have fl3 := hts (.initialized "java/lang/Math") (by decide +kernel)
  have fl4 := hts (.code Lib.Math.max.name Lib.Math.max.code 2 (some .int)) (by decide +kernel)
  have hl := lv_entry ([.ref a]) (n := 3) (Nat.le_of_ble_eq_true rfl)
  rw [lg_entry_eq]
  generalize (lg_sl ([.ref a]) ++ List.replicate (3 - (lg_sl ([.ref a])).length) Slot.unset).toArray = ls at hl ⊢
  have hl : lv_has ls 3 [(0, .ref a)] := hl
  refine lv_iconst (v := I 0) hx hb dX11_deepest_0 (by decide) ?_
  refine lv_istore_n (lv' := [(1, .int (I 0)), (0, .ref a)]) hx hb dX11_deepest_1 rfl hl (by decide) rfl (fun ls hl => ?_)
  refine lv_iconst (v := I 0) hx hb dX11_deepest_2 (by decide) ?_
  refine lv_istore_n (lv' := [(2, .int (I 0)), (1, .int (I 0)), (0, .ref a)]) hx hb dX11_deepest_3 rfl hl (by decide) rfl (fun ls hl => ?_)
  refine th_loop (α := Int × Int) (pc := 4) (fun x9 => (mS f1 0 - x9.2).toNat) (fun x9 σ9 H9 l9 ls9 => σ9 = σ ∧ th_H G b0 σ9 H9 ∧ va_S (th_A b0) s.heap H9 l9 ∧ lv_has ls9 3 [(0, .ref a), (1, .int (I x9.1)), (2, .int (I x9.2))] ∧ rng x9.1 ∧ rng x9.2 ∧ (0 ≤ x9.2) ∧ (x9.2 ≤ 60)) ?_ (0, 0) σ _ _ _ ⟨rfl, hH, hS, lv_sub hl [2, 1, 0] rfl, (show rng 0 from ⟨by decide, by decide⟩), (show rng 0 from ⟨by decide, by decide⟩), by first | (dsimp only; omega) | omega, by first | (dsimp only; omega) | omega⟩
  intro x9 σ_J_12 H locs ls hI9 ihJ_12
  obtain ⟨v1q11, v2q11⟩ := x9
  obtain ⟨eJ_12, hH, hS, hl, rv1q11, rv2q11, J_12_0, J_12_1⟩ := hI9
  replace eJ_12 := eJ_12.symm
  subst eJ_12
  have hl : lv_has ls 3 [(0, .ref a), (1, .int (I v1q11)), (2, .int (I v2q11))] := hl
  have rv1q11 : rng v1q11 := rv1q11
  have rv2q11 : rng v2q11 := rv2q11
  have J_12_0 : 0 ≤ v2q11 := J_12_0
  have J_12_1 : v2q11 ≤ 60 := J_12_1
  refine lv_iload_n hx hb dX11_deepest_4 rfl (lv_at hl 2 rfl) ?_
  refine lv_aload_n hx hb dX11_deepest_5 rfl (lv_at hl 0 rfl) ?_
  obtain ⟨_, hc_13⟩ := hO.cell h_a (by decide) (ci := 11) rfl
  refine th_calli (va_runV (As := []) (rest := [.int (I v2q11)]) ⟨hx, hb, hml, hown, hts⟩ (m_things l G y b0 σ E hO a h_a f1 ef1) (cwV 0 hts gX11_deepest_X11_things rfl rfl rfl (by decide +kernel) ⟨Nat.le_of_ble_eq_true rfl, Nat.le_of_ble_eq_true rfl⟩) (th_PV hK hH rfl hc_13) rfl rfl hl.1 rfl (lv_room (Nat.le_of_ble_eq_true rfl)) dX11_deepest_6 ⟨Nat.le_of_ble_eq_true rfl, Nat.le_of_ble_eq_true rfl⟩) hS (fun z_16 σ_s_15 H locs rz_16 hw_14 hH hS => ?_)
  obtain ⟨e9, hw_14⟩ := hw_14
  replace e9 := e9.symm
  subst e9
  have hw_14 : z_16 = mS f1 0 := hw_14
  refine lv_icmp_ge (tgt := 31) hx hb dX11_deepest_9 (by decide) (fun c_17 => ?_) (fun c_17 => ?_)
  · replace c_17 := (I_le (a := z_16) (b := v2q11) rz_16 rv2q11).mp c_17
    refine lv_iload_n hx hb dX11_deepest_31 rfl (lv_at hl 1 rfl) ?_
    exact th_iret hx hb hr hlocks hH hS (z := v1q11) rv1q11 ⟨rfl, trivial⟩ dX11_deepest_32
  · replace c_17 := mt (I_le (a := z_16) (b := v2q11) rz_16 rv2q11).mpr c_17
    refine lv_iload_n hx hb dX11_deepest_12 rfl (lv_at hl 1 rfl) ?_
    refine lv_aload_n hx hb dX11_deepest_13 rfl (lv_at hl 0 rfl) ?_
    refine ok.getR hO h_a (by decide) k13_1 (by decide) (fun _ _ he hv kk => th_get (ci := 11) (C := RX11) (T := TX11) (N := 66) hx hb hts inX11 hown hK hH he rfl 1 (by decide) fl0 hv dX11_deepest_14 kk) ?_
    refine lv_iload_n hx hb dX11_deepest_17 rfl (lv_at hl 2 rfl) ?_
    refine th_calli (va_runS (As := [.ref (ad E a 1), .int (I v2q11)]) (rest := [.int (I v1q11)]) ⟨hx, hb, hml, hown, hts⟩ (w_depthOf l G y b0 σ E hO (ad E a 1) 240 f1 (hO.roww h_a k13_1 isA1 ef1 rfl) v2q11 (show rng v2q11 from rv2q11) (by omega) (by omega) ((hy0.few (by omega) (by omega))) (by omega)) (va_cwS 2 hts gX11_deepest_X11_depthOf rfl rfl rfl (by decide +kernel) ⟨Nat.le_of_ble_eq_true rfl, Nat.le_of_ble_eq_true rfl⟩) (th_PS hK hH) rfl rfl hl.1 rfl (lv_room (Nat.le_of_ble_eq_true rfl)) dX11_deepest_18 ⟨Nat.le_of_ble_eq_true rfl, Nat.le_of_ble_eq_true rfl⟩) hS (fun z_20 σ_s_19 H locs rz_20 hw_18 hH hS => ?_)
    obtain ⟨e9, hw_18⟩ := hw_18
    replace e9 := e9.symm
    subst e9
    have hw_18 : z_20 = cn f1 v2q11 v2q11.toNat ∧ 0 ≤ z_20 ∧ z_20 ≤ v2q11 := hw_18
    refine va_mmax hx hb (by rw [hml]; exact hl.1.symm) hown fl1 fl2 fl3 fl4 (Nat.le_of_ble_eq_true rfl) (Nat.le_of_ble_eq_true rfl) (Nat.zero_le _) (Nat.zero_le _) dX11_deepest_21 ?_
    refine th_mmax rv1q11 rz_20 (fun z_21 rz_21 hz_21 => ?_)
    refine lv_istore_n (lv' := [(1, .int (I z_21)), (0, .ref a), (2, .int (I v2q11))]) hx hb dX11_deepest_24 rfl hl (by decide) rfl (fun ls hl => ?_)
    refine lv_iinc (v := I (v2q11 + 1)) (lv' := [(2, .int (I (v2q11 + 1))), (1, .int (I z_21)), (0, .ref a)]) hx hb dX11_deepest_25 hl (k := 2) rfl (I_add _ _) (by decide) rfl (fun ls hl => ?_)
    refine lv_goto (tgt := 4) hx hb dX11_deepest_28 (by decide) ?_
    exact ihJ_12 (z_21, v2q11 + 1) σ _ _ _ (by first | (dsimp only; omega) | omega) ⟨rfl, hH, hS, lv_sub hl [2, 1, 0] rfl, rz_21, ⟨by first | (dsimp only; omega) | omega, by first | (dsimp only; omega) | omega⟩, by first | (dsimp only; omega) | omega, by first | (dsimp only; omega) | omega⟩

set_option maxHeartbeats 4000000 in
set_option maxRecDepth 100000 in
theorem m_pathSet (l : Launch) (G : va_G) (y : Nat → ClassId) (b0 : Nat) (σ : th_M) (E : th_E) (hO : ok y E σ) (a : Nat) (h_a : kd E a = 13) : Met l yX11_pathSet wsX11_pathSet ({ frames := 2, cells := 0, slots := 0, locals := 51 }) (th_P G y b0 σ [.ref a]) (th_Qi G b0 (fun r σ1 => σ1 = σ ∧ (True))) 0 0 (th_A b0) := by
  refine Met.ofW (cc := cX11_pathSet) (maxL := 3) (ret := (some .int)) (by decide) rfl ?_
  intro p e s m args below meth c s₁ B hml hv
  obtain ⟨rfl, hH, hK⟩ := hv
  have hx := B.exec
  have hb := B.bytes
  have hr := B.returns
  have hts := atoms_spec (ws := wsX11_pathSet) B.pre
  have hown : s.vm.findClass RX11 = some m.cls := findClass_of_methodNamed B.named
  have hlocks := B.notSynchronized
  have h00 : b0 ≤ s.heap.size := hH.1
  have hS : va_S (th_A b0) s.heap s.heap [] := va_S.rf
  have hl := lv_entry ([.ref a]) (n := 3) (Nat.le_of_ble_eq_true rfl)
  rw [lg_entry_eq]
  generalize (lg_sl ([.ref a]) ++ List.replicate (3 - (lg_sl ([.ref a])).length) Slot.unset).toArray = ls at hl ⊢
  have hl : lv_has ls 3 [(0, .ref a)] := hl
  refine lv_iconst (v := I 0) hx hb dX11_pathSet_0 (by decide) ?_
  refine lv_istore_n (lv' := [(1, .int (I 0)), (0, .ref a)]) hx hb dX11_pathSet_1 rfl hl (by decide) rfl (fun ls hl => ?_)
  refine lv_iconst (v := I 0) hx hb dX11_pathSet_2 (by decide) ?_
  refine lv_istore_n (lv' := [(2, .int (I 0)), (1, .int (I 0)), (0, .ref a)]) hx hb dX11_pathSet_3 rfl hl (by decide) rfl (fun ls hl => ?_)
  refine th_loop (α := Int × Int) (pc := 4) (fun x9 => (4 - x9.2).toNat) (fun x9 σ9 H9 l9 ls9 => σ9 = σ ∧ th_H G b0 σ9 H9 ∧ va_S (th_A b0) s.heap H9 l9 ∧ lv_has ls9 3 [(0, .ref a), (1, .int (I x9.1)), (2, .int (I x9.2))] ∧ rng x9.1 ∧ rng x9.2 ∧ (0 ≤ x9.2) ∧ (x9.2 ≤ 4)) ?_ (0, 0) σ _ _ _ ⟨rfl, hH, hS, lv_sub hl [2, 1, 0] rfl, (show rng 0 from ⟨by decide, by decide⟩), (show rng 0 from ⟨by decide, by decide⟩), by first | (dsimp only; omega) | omega, by first | (dsimp only; omega) | omega⟩
  intro x9 σ_J_14 H locs ls hI9 ihJ_14
  obtain ⟨v1q13, v2q13⟩ := x9
  obtain ⟨eJ_14, hH, hS, hl, rv1q13, rv2q13, J_14_0, J_14_1⟩ := hI9
  replace eJ_14 := eJ_14.symm
  subst eJ_14
  have hl : lv_has ls 3 [(0, .ref a), (1, .int (I v1q13)), (2, .int (I v2q13))] := hl
  have rv1q13 : rng v1q13 := rv1q13
  have rv2q13 : rng v2q13 := rv2q13
  have J_14_0 : 0 ≤ v2q13 := J_14_0
  have J_14_1 : v2q13 ≤ 4 := J_14_1
  refine lv_iload_n hx hb dX11_pathSet_4 rfl (lv_at hl 2 rfl) ?_
  refine lv_iconst (v := I 4) hx hb dX11_pathSet_5 (by decide) ?_
  refine lv_icmp_ge (tgt := 33) hx hb dX11_pathSet_6 (by decide) (fun c_15 => ?_) (fun c_15 => ?_)
  · replace c_15 := (I_le (a := 4) (b := v2q13) (show rng 4 from ⟨by decide, by decide⟩) rv2q13).mp c_15
    refine lv_iload_n hx hb dX11_pathSet_33 rfl (lv_at hl 1 rfl) ?_
    exact th_iret hx hb hr hlocks hH hS (z := v1q13) rv1q13 ⟨rfl, trivial⟩ dX11_pathSet_34
  · replace c_15 := mt (I_le (a := 4) (b := v2q13) (show rng 4 from ⟨by decide, by decide⟩) rv2q13).mpr c_15
    refine lv_iload_n hx hb dX11_pathSet_9 rfl (lv_at hl 1 rfl) ?_
    refine lv_aload_n hx hb dX11_pathSet_10 rfl (lv_at hl 0 rfl) ?_
    refine lv_iload_n hx hb dX11_pathSet_11 rfl (lv_at hl 2 rfl) ?_
    obtain ⟨f_16, ef_17⟩ : ∃ f9, aF σ (ad E a 8) = f9 := ⟨_, rfl⟩
    obtain ⟨_, hc_18⟩ := hO.cell h_a (by decide) (ci := 11) rfl
    refine th_calli (va_runV (As := [.int (I v2q13)]) (rest := [.int (I v1q13)]) ⟨hx, hb, hml, hown, hts⟩ (m_isPath l G y b0 σ E hO a h_a v2q13 (show rng v2q13 from rv2q13) f_16 ef_17) (cwV 1 hts gX11_pathSet_X11_isPath rfl rfl rfl (by decide +kernel) ⟨Nat.le_of_ble_eq_true rfl, Nat.le_of_ble_eq_true rfl⟩) (th_PV hK hH rfl hc_18) rfl rfl hl.1 rfl (lv_room (Nat.le_of_ble_eq_true rfl)) dX11_pathSet_12 ⟨Nat.le_of_ble_eq_true rfl, Nat.le_of_ble_eq_true rfl⟩) hS (fun z_21 σ_s_20 H locs rz_21 hw_19 hH hS => ?_)
    obtain ⟨e9, bhw_19, hw_19⟩ := hw_19
    replace e9 := e9.symm
    subst e9
    have hw_19 : (z_21 = 1 ∧ 0 ≤ v2q13 ∧ v2q13 ≤ 3 ∧ 1 ≤ (f_16 v2q13.toNat).toInt) ∨ z_21 = 0 := hw_19
    refine lv_if_eq (tgt := 24) hx hb dX11_pathSet_15 (by decide) (fun c_22 => ?_) (fun c_22 => ?_)
    · replace c_22 := (I_eq (a := z_21) (b := 0) rz_21 (show rng 0 from ⟨by decide, by decide⟩)).mp c_22
      refine lv_iconst (v := I 0) hx hb dX11_pathSet_24 (by decide) ?_
      refine lv_ior hx hb dX11_pathSet_25 ?_
      refine th_topi (fun z_23 rz_23 => ?_)
      refine lv_istore_n (lv' := [(1, .int (I z_23)), (0, .ref a), (2, .int (I v2q13))]) hx hb dX11_pathSet_26 rfl hl (by decide) rfl (fun ls hl => ?_)
      refine lv_iinc (v := I (v2q13 + 1)) (lv' := [(2, .int (I (v2q13 + 1))), (1, .int (I z_23)), (0, .ref a)]) hx hb dX11_pathSet_27 hl (k := 2) rfl (I_add _ _) (by decide) rfl (fun ls hl => ?_)
      refine lv_goto (tgt := 4) hx hb dX11_pathSet_30 (by decide) ?_
      exact ihJ_14 (z_23, v2q13 + 1) σ _ _ _ (by first | (dsimp only; omega) | omega) ⟨rfl, hH, hS, lv_sub hl [2, 1, 0] rfl, rz_23, ⟨by first | (dsimp only; omega) | omega, by first | (dsimp only; omega) | omega⟩, by first | (dsimp only; omega) | omega, by first | (dsimp only; omega) | omega⟩
    · replace c_22 := mt (I_eq (a := z_21) (b := 0) rz_21 (show rng 0 from ⟨by decide, by decide⟩)).mpr c_22
      refine lv_iconst (v := I 1) hx hb dX11_pathSet_18 (by decide) ?_
      refine lv_iload_n hx hb dX11_pathSet_19 rfl (lv_at hl 2 rfl) ?_
      refine lv_ishl hx hb dX11_pathSet_20 ?_
      refine th_topi (fun z_24 rz_24 => ?_)
      refine lv_goto (tgt := 25) hx hb dX11_pathSet_21 (by decide) ?_
      refine lv_ior hx hb dX11_pathSet_25 ?_
      refine th_topi (fun z_25 rz_25 => ?_)
      refine lv_istore_n (lv' := [(1, .int (I z_25)), (0, .ref a), (2, .int (I v2q13))]) hx hb dX11_pathSet_26 rfl hl (by decide) rfl (fun ls hl => ?_)
      refine lv_iinc (v := I (v2q13 + 1)) (lv' := [(2, .int (I (v2q13 + 1))), (1, .int (I z_25)), (0, .ref a)]) hx hb dX11_pathSet_27 hl (k := 2) rfl (I_add _ _) (by decide) rfl (fun ls hl => ?_)
      refine lv_goto (tgt := 4) hx hb dX11_pathSet_30 (by decide) ?_
      exact ihJ_14 (z_25, v2q13 + 1) σ _ _ _ (by first | (dsimp only; omega) | omega) ⟨rfl, hH, hS, lv_sub hl [2, 1, 0] rfl, rz_25, ⟨by first | (dsimp only; omega) | omega, by first | (dsimp only; omega) | omega⟩, by first | (dsimp only; omega) | omega, by first | (dsimp only; omega) | omega⟩

set_option maxHeartbeats 4000000 in
set_option maxRecDepth 100000 in
theorem m_answers (l : Launch) (G : va_G) (y : Nat → ClassId) (b0 : Nat) (σ : th_M) (E : th_E) (hO : ok y E σ) (a : Nat) (h_a : kd E a = 13) (i : Int) (ri : rng i) (l_i : 0 ≤ i) (u_i : i ≤ 59) (f1 : Nat → Int32) (ef1 : aF σ (ad E a 1) = f1) (f8 : Nat → Int32) (ef8 : aF σ (ad E a 8) = f8) (hy0 : wf f1 0 (mS f1 0)) (hy1 : 1 ≤ mS f1 0 ∧ mS f1 0 ≤ 60) : Met l yX11_answers wsX11_answers ({ frames := 51, cells := 0, slots := 0, locals := 1713 }) (th_P G y b0 σ [.ref a, .int (I i)]) (th_Qi G b0 (fun r σ1 => ok y E σ1 ∧ fr [13] E σ σ1 ∧ fm [9, 10, 11, 13, 14, 15, 16, 17, 18, 19, 20, 23, 24, 25, 26, 27, 28, 29, 30] E σ σ1 a ∧ (True))) 0 0 (th_A b0) := by
  refine Met.ofW (cc := cX11_answers) (maxL := 4) (ret := (some .int)) (by decide) rfl ?_
  intro p e s m args below meth c s₁ B hml hv
  obtain ⟨rfl, hH, hK⟩ := hv
  have hx := B.exec
  have hb := B.bytes
  have hr := B.returns
  have hts := atoms_spec (ws := wsX11_answers) B.pre
  have hown : s.vm.findClass RX11 = some m.cls := findClass_of_methodNamed B.named
  have hlocks := B.notSynchronized
  have h00 : b0 ≤ s.heap.size := hH.1
  have hS : va_S (th_A b0) s.heap s.heap [] := va_S.rf
  have hF : fr [13] E σ σ := fr.rf
  have hM : fm [9, 10, 11, 13, 14, 15, 16, 17, 18, 19, 20, 23, 24, 25, 26, 27, 28, 29, 30] E σ σ a := fm.rf
  have inX11 : ∀ w ∈ wsX110, w ∈ wsX11_answers := by decide +kernel
  have fl0 := hts (.fieldLink RX11 35 "NestQueryModel" "set" "[Z") (by decide +kernel)
  have hl := lv_entry ([.ref a, .int (I i)]) (n := 4) (Nat.le_of_ble_eq_true rfl)
  rw [lg_entry_eq]
  generalize (lg_sl ([.ref a, .int (I i)]) ++ List.replicate (4 - (lg_sl ([.ref a, .int (I i)])).length) Slot.unset).toArray = ls at hl ⊢
  have hl : lv_has ls 4 [(0, .ref a), (1, .int (I i))] := hl
  refine lv_iconst (v := I 0) hx hb dX11_answers_0 (by decide) ?_
  refine lv_istore_n (lv' := [(2, .int (I 0)), (0, .ref a), (1, .int (I i))]) hx hb dX11_answers_1 rfl hl (by decide) rfl (fun ls hl => ?_)
  refine lv_iconst (v := I 0) hx hb dX11_answers_2 (by decide) ?_
  refine lv_istore_n (lv' := [(3, .int (I 0)), (2, .int (I 0)), (0, .ref a), (1, .int (I i))]) hx hb dX11_answers_3 rfl hl (by decide) rfl (fun ls hl => ?_)
  refine th_loop (α := Int × Int) (pc := 4) (fun x9 => (4 - x9.2).toNat) (fun x9 σ9 H9 l9 ls9 => ok y E σ9 ∧ fr [13] E σ σ9 ∧ fm [9, 10, 11, 13, 14, 15, 16, 17, 18, 19, 20, 23, 24, 25, 26, 27, 28, 29, 30] E σ σ9 a ∧ th_H G b0 σ9 H9 ∧ va_S (th_A b0) s.heap H9 l9 ∧ lv_has ls9 4 [(0, .ref a), (1, .int (I i)), (2, .int (I x9.1)), (3, .int (I x9.2))] ∧ rng x9.1 ∧ rng x9.2 ∧ (0 ≤ x9.2) ∧ (x9.2 ≤ 4) ∧ (0 ≤ x9.1) ∧ (x9.1 ≤ x9.2) ∧ (aF σ9 (ad E a 1) = f1) ∧ (aF σ9 (ad E a 8) = f8)) ?_ (0, 0) σ _ _ _ ⟨hO, hF, hM, hH, hS, lv_sub hl [2, 3, 1, 0] rfl, (show rng 0 from ⟨by decide, by decide⟩), (show rng 0 from ⟨by decide, by decide⟩), by first | (dsimp only; omega) | omega, by first | (dsimp only; omega) | omega, by first | (dsimp only; omega) | omega, by first | (dsimp only; omega) | omega, ef1, ef8⟩
  intro x9 σ_J_18 H locs ls hI9 ihJ_18
  obtain ⟨v2q17, v3q17⟩ := x9
  obtain ⟨hO, hF, hM, hH, hS, hl, rv2q17, rv3q17, J_18_0, J_18_1, J_18_2, J_18_3, J_18_4, J_18_5⟩ := hI9
  have hl : lv_has ls 4 [(0, .ref a), (1, .int (I i)), (2, .int (I v2q17)), (3, .int (I v3q17))] := hl
  have rv2q17 : rng v2q17 := rv2q17
  have rv3q17 : rng v3q17 := rv3q17
  have J_18_0 : 0 ≤ v3q17 := J_18_0
  have J_18_1 : v3q17 ≤ 4 := J_18_1
  have J_18_2 : 0 ≤ v2q17 := J_18_2
  have J_18_3 : v2q17 ≤ v3q17 := J_18_3
  have J_18_4 : aF σ_J_18 (ad E a 1) = f1 := J_18_4
  have J_18_5 : aF σ_J_18 (ad E a 8) = f8 := J_18_5
  refine lv_iload_n hx hb dX11_answers_4 rfl (lv_at hl 3 rfl) ?_
  refine lv_iconst (v := I 4) hx hb dX11_answers_5 (by decide) ?_
  refine lv_icmp_ge (tgt := 49) hx hb dX11_answers_6 (by decide) (fun c_19 => ?_) (fun c_19 => ?_)
  · replace c_19 := (I_le (a := 4) (b := v3q17) (show rng 4 from ⟨by decide, by decide⟩) rv3q17).mp c_19
    refine lv_iload_n hx hb dX11_answers_49 rfl (lv_at hl 2 rfl) ?_
    exact th_iret hx hb hr hlocks hH hS (z := v2q17) rv2q17 ⟨hO, hF, hM, trivial⟩ dX11_answers_50
  · replace c_19 := mt (I_le (a := 4) (b := v3q17) (show rng 4 from ⟨by decide, by decide⟩) rv3q17).mpr c_19
    refine lv_aload_n hx hb dX11_answers_9 rfl (lv_at hl 0 rfl) ?_
    refine lv_iload_n hx hb dX11_answers_10 rfl (lv_at hl 3 rfl) ?_
    obtain ⟨_, hc_20⟩ := hO.cell h_a (by decide) (ci := 11) rfl
    refine th_calli (va_runV (As := [.int (I v3q17)]) (rest := []) ⟨hx, hb, hml, hown, hts⟩ (m_isPath l G y b0 σ_J_18 E hO a h_a v3q17 (show rng v3q17 from rv3q17) f8 J_18_5) (cwV 1 hts gX11_answers_X11_isPath rfl rfl rfl (by decide +kernel) ⟨Nat.le_of_ble_eq_true rfl, Nat.le_of_ble_eq_true rfl⟩) (th_PV hK hH rfl hc_20) rfl rfl hl.1 rfl (lv_room (Nat.le_of_ble_eq_true rfl)) dX11_answers_11 ⟨Nat.le_of_ble_eq_true rfl, Nat.le_of_ble_eq_true rfl⟩) hS (fun z_23 σ_s_22 H locs rz_23 hw_21 hH hS => ?_)
    obtain ⟨e9, bhw_21, hw_21⟩ := hw_21
    replace e9 := e9.symm
    subst e9
    have hw_21 : (z_23 = 1 ∧ 0 ≤ v3q17 ∧ v3q17 ≤ 3 ∧ 1 ≤ (f8 v3q17.toNat).toInt) ∨ z_23 = 0 := hw_21
    refine lv_if_ne (tgt := 20) hx hb dX11_answers_14 (by decide) (fun c_24 => ?_) (fun c_24 => ?_)
    · replace c_24 := mt (I_eq (a := z_23) (b := 0) rz_23 (show rng 0 from ⟨by decide, by decide⟩)).mpr c_24
      refine lv_aload_n hx hb dX11_answers_20 rfl (lv_at hl 0 rfl) ?_
      refine lv_iload_n hx hb dX11_answers_21 rfl (lv_at hl 3 rfl) ?_
      refine lv_iconst (v := I (-1)) hx hb dX11_answers_22 (by decide) ?_
      obtain ⟨_, hc_25⟩ := hO.cell h_a (by decide) (ci := 11) rfl
      refine th_callv (va_runV (As := [.int (I v3q17), .int (I (-1))]) (rest := []) ⟨hx, hb, hml, hown, hts⟩ (m_goes l G y b0 σ_J_18 E hO a h_a v3q17 (show rng v3q17 from rv3q17) (by omega) (by omega) (-1) (show rng (-1) from (show rng (-1) from ⟨by decide, by decide⟩)) f1 J_18_4 f8 J_18_5 (hy0) (by omega) (by omega)) (cwV 2 hts gX11_answers_X11_goes rfl rfl rfl (by decide +kernel) ⟨Nat.le_of_ble_eq_true rfl, Nat.le_of_ble_eq_true rfl⟩) (th_PV hK hH rfl hc_25) rfl rfl hl.1 rfl (lv_room (Nat.le_of_ble_eq_true rfl)) dX11_answers_23 ⟨Nat.le_of_ble_eq_true rfl, Nat.le_of_ble_eq_true rfl⟩) hS (fun σ_s_27 H locs hw_26 hH hS => ?_)
      obtain ⟨hO9, hF9, hM9, hw_26⟩ := hw_26
      replace hM := hM.tu hM9 (by decide)
      replace hF := hF.tu hF9 (by decide)
      have e_28 : aF σ_s_27 (ad E a 1) = f1 := (hM9.a (by decide) (by decide)).trans J_18_4
      have e_29 : aF σ_s_27 (ad E a 8) = f8 := (hM9.a (by decide) (by decide)).trans J_18_5
      replace hO := hO9
      refine lv_iload_n hx hb dX11_answers_26 rfl (lv_at hl 2 rfl) ?_
      refine lv_aload_n hx hb dX11_answers_27 rfl (lv_at hl 0 rfl) ?_
      refine ok.getR hO h_a (by decide) k13_23 (by decide) (fun _ _ he hv kk => th_get (ci := 11) (C := RX11) (T := TX11) (N := 66) hx hb hts inX11 hown hK hH he rfl 23 (by decide) fl0 hv dX11_answers_28 kk) ?_
      refine lv_iload_n hx hb dX11_answers_31 rfl (lv_at hl 1 rfl) ?_
      refine m_zald hx hb hK hH hO h_a k13_23 ri (by omega) (by omega) dX11_answers_32 (fun z_30 rz_30 uz_30 => ?_)
      refine lv_if_eq (tgt := 40) hx hb dX11_answers_33 (by decide) (fun c_31 => ?_) (fun c_31 => ?_)
      · replace c_31 := (I_eq (a := z_30) (b := 0) rz_30 (show rng 0 from ⟨by decide, by decide⟩)).mp c_31
        refine lv_iconst (v := I 0) hx hb dX11_answers_40 (by decide) ?_
        refine lv_iadd hx hb dX11_answers_41 ?_
        refine th_addo (fun z_32 rz_32 hz_32 => ?_)
        refine lv_istore_n (lv' := [(2, .int (I z_32)), (0, .ref a), (1, .int (I i)), (3, .int (I v3q17))]) hx hb dX11_answers_42 rfl hl (by decide) rfl (fun ls hl => ?_)
        refine lv_iinc (v := I (v3q17 + 1)) (lv' := [(3, .int (I (v3q17 + 1))), (2, .int (I z_32)), (0, .ref a), (1, .int (I i))]) hx hb dX11_answers_43 hl (k := 3) rfl (I_add _ _) (by decide) rfl (fun ls hl => ?_)
        refine lv_goto (tgt := 4) hx hb dX11_answers_46 (by decide) ?_
        exact ihJ_18 (z_32, v3q17 + 1) σ_s_27 _ _ _ (by first | (dsimp only; omega) | omega) ⟨hO, hF, hM, hH, hS, lv_sub hl [2, 3, 1, 0] rfl, rz_32, ⟨by first | (dsimp only; omega) | omega, by first | (dsimp only; omega) | omega⟩, by first | (dsimp only; omega) | omega, by first | (dsimp only; omega) | omega, by first | (dsimp only; omega) | omega, by first | (dsimp only; omega) | omega, e_28, e_29⟩
      · replace c_31 := mt (I_eq (a := z_30) (b := 0) rz_30 (show rng 0 from ⟨by decide, by decide⟩)).mpr c_31
        refine lv_iconst (v := I 1) hx hb dX11_answers_36 (by decide) ?_
        refine lv_goto (tgt := 41) hx hb dX11_answers_37 (by decide) ?_
        refine lv_iadd hx hb dX11_answers_41 ?_
        refine th_addo (fun z_33 rz_33 hz_33 => ?_)
        refine lv_istore_n (lv' := [(2, .int (I z_33)), (0, .ref a), (1, .int (I i)), (3, .int (I v3q17))]) hx hb dX11_answers_42 rfl hl (by decide) rfl (fun ls hl => ?_)
        refine lv_iinc (v := I (v3q17 + 1)) (lv' := [(3, .int (I (v3q17 + 1))), (2, .int (I z_33)), (0, .ref a), (1, .int (I i))]) hx hb dX11_answers_43 hl (k := 3) rfl (I_add _ _) (by decide) rfl (fun ls hl => ?_)
        refine lv_goto (tgt := 4) hx hb dX11_answers_46 (by decide) ?_
        exact ihJ_18 (z_33, v3q17 + 1) σ_s_27 _ _ _ (by first | (dsimp only; omega) | omega) ⟨hO, hF, hM, hH, hS, lv_sub hl [2, 3, 1, 0] rfl, rz_33, ⟨by first | (dsimp only; omega) | omega, by first | (dsimp only; omega) | omega⟩, by first | (dsimp only; omega) | omega, by first | (dsimp only; omega) | omega, by first | (dsimp only; omega) | omega, by first | (dsimp only; omega) | omega, e_28, e_29⟩
    · replace c_24 := (I_eq (a := z_23) (b := 0) rz_23 (show rng 0 from ⟨by decide, by decide⟩)).mp c_24
      refine lv_goto (tgt := 43) hx hb dX11_answers_17 (by decide) ?_
      refine lv_iinc (v := I (v3q17 + 1)) (lv' := [(3, .int (I (v3q17 + 1))), (0, .ref a), (1, .int (I i)), (2, .int (I v2q17))]) hx hb dX11_answers_43 hl (k := 3) rfl (I_add _ _) (by decide) rfl (fun ls hl => ?_)
      refine lv_goto (tgt := 4) hx hb dX11_answers_46 (by decide) ?_
      exact ihJ_18 (v2q17, v3q17 + 1) σ_J_18 _ _ _ (by first | (dsimp only; omega) | omega) ⟨hO, hF, hM, hH, hS, lv_sub hl [1, 2, 3, 0] rfl, rv2q17, ⟨by first | (dsimp only; omega) | omega, by first | (dsimp only; omega) | omega⟩, by first | (dsimp only; omega) | omega, by first | (dsimp only; omega) | omega, by first | (dsimp only; omega) | omega, by first | (dsimp only; omega) | omega, J_18_4, J_18_5⟩

set_option maxHeartbeats 4000000 in
set_option maxRecDepth 100000 in
theorem m_refuse (l : Launch) (G : va_G) (y : Nat → ClassId) (b0 : Nat) (σ : th_M) (E : th_E) (hO : ok y E σ) (a : Nat) (h_a : kd E a = 13) (wh : Int) (rwh : rng wh) (l_wh : 0 ≤ wh) (u_wh : wh ≤ 2) : Met l yX11_refuse wsX11_refuse ({ frames := 0, cells := 0, slots := 0, locals := 0 }) (th_P G y b0 σ [.ref a, .int (I wh)]) (th_Qi G b0 (fun r σ1 => ok y E σ1 ∧ fr [13] E σ σ1 ∧ fm [4] E σ σ1 a ∧ (r = -1))) 0 0 (th_A b0) := by
  refine Met.ofW (cc := cX11_refuse) (maxL := 2) (ret := (some .int)) (by decide) rfl ?_
  intro p e s m args below meth c s₁ B hml hv
  obtain ⟨rfl, hH, hK⟩ := hv
  have hx := B.exec
  have hb := B.bytes
  have hr := B.returns
  have hts := atoms_spec (ws := wsX11_refuse) B.pre
  have hown : s.vm.findClass RX11 = some m.cls := findClass_of_methodNamed B.named
  have hlocks := B.notSynchronized
  have h00 : b0 ≤ s.heap.size := hH.1
  have hS : va_S (th_A b0) s.heap s.heap [] := va_S.rf
  have hF : fr [13] E σ σ := fr.rf
  have hM : fm [4] E σ σ a := fm.rf
  have inX11 : ∀ w ∈ wsX110, w ∈ wsX11_refuse := by decide +kernel
  have fl0 := hts (.fieldLink RX11 19 "NestQueryModel" "status" "[I") (by decide +kernel)
  have hl := lv_entry ([.ref a, .int (I wh)]) (n := 2) (Nat.le_of_ble_eq_true rfl)
  rw [lg_entry_eq]
  generalize (lg_sl ([.ref a, .int (I wh)]) ++ List.replicate (2 - (lg_sl ([.ref a, .int (I wh)])).length) Slot.unset).toArray = ls at hl ⊢
  have hl : lv_has ls 2 [(0, .ref a), (1, .int (I wh))] := hl
  refine lv_aload_n hx hb dX11_refuse_0 rfl (lv_at hl 0 rfl) ?_
  refine ok.getR hO h_a (by decide) k13_4 (by decide) (fun _ _ he hv kk => th_get (ci := 11) (C := RX11) (T := TX11) (N := 66) hx hb hts inX11 hown hK hH he rfl 4 (by decide) fl0 hv dX11_refuse_1 kk) ?_
  refine lv_iload_n hx hb dX11_refuse_4 rfl (lv_at hl 1 rfl) ?_
  refine lv_dup2_11 hx hb dX11_refuse_5 rfl rfl ?_
  obtain ⟨f_2, ef_3⟩ : ∃ f9, aF σ (ad E a 4) = f9 := ⟨_, rfl⟩
  refine m_iald hx hb hK hH hO h_a k13_4 isA1 ef_3 rwh (by omega) (by omega) dX11_refuse_6 (fun z_1 ez_1 rz_1 elx9 => ?_)
  refine lv_iconst (v := I 1) hx hb dX11_refuse_7 (by decide) ?_
  refine lv_iadd hx hb dX11_refuse_8 ?_
  refine th_addo (fun z_4 rz_4 hz_4 => ?_)
  refine m_iast hx hb hK hH hS h00 hO h_a k13_4 isA1 (by decide) ef_3 rwh (by omega) (by omega) rz_4 el1 dX11_refuse_9 (fun σ_s_5 H locs hO hF9 hM9 ha9 hH hS => ?_)
  replace hM := hM.tu hM9 (by decide)
  replace hF := hF.tu hF9 (by decide)
  obtain ⟨g_6, dg_6⟩ : ∃ g9, g9 = upd f_2 (wh).toNat (I z_4) := ⟨_, rfl⟩
  rw [← dg_6] at ha9
  have ef_7 := ha9
  refine lv_iconst (v := I (-1)) hx hb dX11_refuse_10 (by decide) ?_
  exact th_iret hx hb hr hlocks hH hS (z := (-1)) (show rng (-1) from ⟨by decide, by decide⟩) ⟨hO, hF, hM, by omega⟩ dX11_refuse_11

set_option maxHeartbeats 4000000 in
set_option maxRecDepth 100000 in
theorem m_isRow (l : Launch) (G : va_G) (y : Nat → ClassId) (b0 : Nat) (σ : th_M) (E : th_E) (hO : ok y E σ) (a : Nat) (h_a : kd E a = 13) (i : Int) (ri : rng i) (f45 : Nat → Int32) (ef45 : aF σ (ad E a 45) = f45) (hy0 : 0 ≤ (f45 (1 : Int).toNat).toInt ∧ (f45 (1 : Int).toNat).toInt ≤ 130) : Met l yX11_isRow wsX11_isRow ({ frames := 1, cells := 0, slots := 0, locals := 26 }) (th_P G y b0 σ [.ref a, .int (I i)]) (th_Qi G b0 (fun r σ1 => σ1 = σ ∧ (0 ≤ r ∧ r ≤ 1) ∧ ((r = 1 ∧ 0 ≤ i ∧ i < (f45 (1 : Int).toNat).toInt) ∨ r = 0))) 0 0 (th_A b0) := by
  refine Met.ofW (cc := cX11_isRow) (maxL := 2) (ret := (some .boolean)) (by decide) rfl ?_
  intro p e s m args below meth c s₁ B hml hv
  obtain ⟨rfl, hH, hK⟩ := hv
  have hx := B.exec
  have hb := B.bytes
  have hr := B.returns
  have hts := atoms_spec (ws := wsX11_isRow) B.pre
  have hown : s.vm.findClass RX11 = some m.cls := findClass_of_methodNamed B.named
  have hlocks := B.notSynchronized
  have h00 : b0 ≤ s.heap.size := hH.1
  have hS : va_S (th_A b0) s.heap s.heap [] := va_S.rf
  have inX11 : ∀ w ∈ wsX110, w ∈ wsX11_isRow := by decide +kernel
  have fl0 := hts (.fieldLink RX11 69 "NestQueryModel" "rowsMany" "[I") (by decide +kernel)
  have hl := lv_entry ([.ref a, .int (I i)]) (n := 2) (Nat.le_of_ble_eq_true rfl)
  rw [lg_entry_eq]
  generalize (lg_sl ([.ref a, .int (I i)]) ++ List.replicate (2 - (lg_sl ([.ref a, .int (I i)])).length) Slot.unset).toArray = ls at hl ⊢
  have hl : lv_has ls 2 [(0, .ref a), (1, .int (I i))] := hl
  refine lv_iload_n hx hb dX11_isRow_0 rfl (lv_at hl 1 rfl) ?_
  refine lv_iconst (v := I 0) hx hb dX11_isRow_1 (by decide) ?_
  refine lv_aload_n hx hb dX11_isRow_2 rfl (lv_at hl 0 rfl) ?_
  refine ok.getR hO h_a (by decide) k13_45 (by decide) (fun _ _ he hv kk => th_get (ci := 11) (C := RX11) (T := TX11) (N := 66) hx hb hts inX11 hown hK hH he rfl 45 (by decide) fl0 hv dX11_isRow_3 kk) ?_
  refine lv_iconst (v := I 1) hx hb dX11_isRow_6 (by decide) ?_
  refine m_iald hx hb hK hH hO h_a k13_45 isA1 ef45 (show rng 1 from ⟨by decide, by decide⟩) (by omega) (by omega) dX11_isRow_7 (fun z_1 ez_1 rz_1 elx9 => ?_)
  refine lv_iconst (v := I 1) hx hb dX11_isRow_8 (by decide) ?_
  refine lv_isub hx hb dX11_isRow_9 ?_
  refine th_subo (fun z_2 rz_2 hz_2 => ?_)
  refine th_calli (va_runS (As := [.int (I i), .int (I 0), .int (I z_2)]) (rest := []) ⟨hx, hb, hml, hown, hts⟩ (w_isIn l G y b0 σ E hO i (show rng i from ri) 0 (show rng 0 from (show rng 0 from ⟨by decide, by decide⟩)) z_2 (show rng z_2 from rz_2)) (va_cwS 3 hts gX11_isRow_X11_isIn rfl rfl rfl (by decide +kernel) ⟨Nat.le_of_ble_eq_true rfl, Nat.le_of_ble_eq_true rfl⟩) (th_PS hK hH) rfl rfl hl.1 rfl (lv_room (Nat.le_of_ble_eq_true rfl)) dX11_isRow_10 ⟨Nat.le_of_ble_eq_true rfl, Nat.le_of_ble_eq_true rfl⟩) hS (fun z_5 σ_s_4 H locs rz_5 hw_3 hH hS => ?_)
  obtain ⟨e9, bhw_3, hw_3⟩ := hw_3
  replace e9 := e9.symm
  subst e9
  have hw_3 : (z_5 = 1 ∧ 0 ≤ i ∧ i ≤ z_2) ∨ (z_5 = 0 ∧ ¬ (0 ≤ i ∧ i ≤ z_2)) := hw_3
  exact th_zret hx hb hr hlocks hH hS (z := z_5) (by omega) ⟨rfl, ⟨by omega, by omega⟩, by omega⟩ dX11_isRow_13

set_option maxHeartbeats 4000000 in
set_option maxRecDepth 100000 in
theorem m_draw (l : Launch) (G : va_G) (y : Nat → ClassId) (b0 : Nat) (σ : th_M) (E : th_E) (hO : ok y E σ) (a : Nat) (h_a : kd E a = 13) (nn : Int) (rnn : rng nn) (hy0 : 1 ≤ nn) : Met l yX11_draw wsX11_draw ({ frames := 0, cells := 0, slots := 0, locals := 0 }) (th_P G y b0 σ [.ref a, .int (I nn)]) (th_Qi G b0 (fun r σ1 => ok y E σ1 ∧ fr [13] E σ σ1 ∧ fm [56] E σ σ1 a ∧ (0 ≤ r ∧ r < nn))) 0 0 (th_A b0) := by
  refine Met.ofW (cc := cX11_draw) (maxL := 2) (ret := (some .int)) (by decide) rfl ?_
  intro p e s m args below meth c s₁ B hml hv
  obtain ⟨rfl, hH, hK⟩ := hv
  have hx := B.exec
  have hb := B.bytes
  have hr := B.returns
  have hts := atoms_spec (ws := wsX11_draw) B.pre
  have hown : s.vm.findClass RX11 = some m.cls := findClass_of_methodNamed B.named
  have hlocks := B.notSynchronized
  have h00 : b0 ≤ s.heap.size := hH.1
  have hS : va_S (th_A b0) s.heap s.heap [] := va_S.rf
  have hF : fr [13] E σ σ := fr.rf
  have hM : fm [56] E σ σ a := fm.rf
  have inX11 : ∀ w ∈ wsX110, w ∈ wsX11_draw := by decide +kernel
  have fl0 := hts (.fieldLink RX11 525 "NestQueryModel" "seedNow" "I") (by decide +kernel)
  have fl1 := hts (.constant RX11 528 1103515245) (by decide +kernel)
  have hl := lv_entry ([.ref a, .int (I nn)]) (n := 2) (Nat.le_of_ble_eq_true rfl)
  rw [lg_entry_eq]
  generalize (lg_sl ([.ref a, .int (I nn)]) ++ List.replicate (2 - (lg_sl ([.ref a, .int (I nn)])).length) Slot.unset).toArray = ls at hl ⊢
  have hl : lv_has ls 2 [(0, .ref a), (1, .int (I nn))] := hl
  refine lv_aload_n hx hb dX11_draw_0 rfl (lv_at hl 0 rfl) ?_
  refine lv_aload_n hx hb dX11_draw_1 rfl (lv_at hl 0 rfl) ?_
  refine ok.getI hO h_a (by decide) k13_56 (fun _ _ he hv kk => th_get (ci := 11) (C := RX11) (T := TX11) (N := 66) hx hb hts inX11 hown hK hH he rfl 56 (by decide) fl0 hv dX11_draw_2 kk) (fun z_1 e_2 rz_1 lz_1 uz_1 => ?_)
  refine lv_ldcw (v := I 1103515245) hx hb hown fl1 dX11_draw_5 ?_
  refine lv_imul hx hb dX11_draw_8 ?_
  refine nq_top (I_mul _ _) ?_
  refine lv_sipush (v := I 12345) hx hb dX11_draw_9 (by decide) ?_
  refine lv_iadd hx hb dX11_draw_12 ?_
  refine th_addo (fun z_3 rz_3 hz_3 => ?_)
  refine ok.putJ hO h_a k13_56 rz_3 (by omega) (by omega) (fun _ he hl9 kk => th_put (ci := 11) (v := .int (I z_3)) (ty := .int) (C := RX11) (T := TX11) (N := 66) hx hb hts inX11 tyX11 tyX11_ok nmX11 hown hK hH hS h00 he rfl 56 (by decide) fl0 rfl (by decide +kernel) rfl rfl hl9 dX11_draw_13 kk) (fun σ_s_4 H locs hO hF9 hM9 hg9 ha9 hH hS => ?_)
  replace hM := hM.tu hM9 (by decide)
  replace hF := hF.tu hF9 (by decide)
  have e_5 := hg9
  refine lv_aload_n hx hb dX11_draw_16 rfl (lv_at hl 0 rfl) ?_
  refine ok.getIc hO h_a (by decide) k13_56 e_5 (fun _ _ he hv kk => th_get (ci := 11) (C := RX11) (T := TX11) (N := 66) hx hb hts inX11 hown hK hH he rfl 56 (by decide) fl0 hv dX11_draw_17 kk) ?_
  refine lv_bipush (v := I 16) hx hb dX11_draw_20 (by decide) ?_
  refine lv_ishr hx hb dX11_draw_22 ?_
  refine th_topi (fun z_6 rz_6 => ?_)
  refine lv_sipush (v := I 32767) hx hb dX11_draw_23 (by decide) ?_
  refine lv_iand hx hb dX11_draw_26 ?_
  refine th_and32767 (fun z_7 rz_7 hz_7 => ?_)
  refine lv_iload_n hx hb dX11_draw_27 rfl (lv_at hl 1 rfl) ?_
  refine lv_irem hx hb dX11_draw_28 (I_ne0 rnn (by omega)) ?_
  refine th_rem rz_7 (by omega) rnn (by omega) (fun z_8 rz_8 hz_8 => ?_)
  exact th_iret hx hb hr hlocks hH hS (z := z_8) rz_8 ⟨hO, hF, hM, by omega⟩ dX11_draw_29

set_option maxHeartbeats 4000000 in
set_option maxRecDepth 100000 in
theorem m_fits (l : Launch) (G : va_G) (y : Nat → ClassId) (b0 : Nat) (σ : th_M) (E : th_E) (hO : ok y E σ) (a : Nat) (h_a : kd E a = 13) (f1 : Nat → Int32) (ef1 : aF σ (ad E a 1) = f1) (f8 : Nat → Int32) (ef8 : aF σ (ad E a 8) = f8) (hy0 : wf f1 0 (mS f1 0)) (hy1 : 1 ≤ mS f1 0 ∧ mS f1 0 ≤ 60) : Met l yX11_fits wsX11_fits ({ frames := 51, cells := 0, slots := 0, locals := 1713 }) (th_P G y b0 σ [.ref a]) (th_Qi G b0 (fun r σ1 => ok y E σ1 ∧ fr [13] E σ σ1 ∧ fm [9, 10, 11, 13, 14, 15, 16, 17, 18, 19, 20, 23, 24, 25, 26, 27, 28, 29, 30, 54, 55] E σ σ1 a ∧ (True))) 0 0 (th_A b0) := by
  refine Met.ofW (cc := cX11_fits) (maxL := 5) (ret := (some .int)) (by decide) rfl ?_
  intro p e s m args below meth c s₁ B hml hv
  obtain ⟨rfl, hH, hK⟩ := hv
  have hx := B.exec
  have hb := B.bytes
  have hr := B.returns
  have hts := atoms_spec (ws := wsX11_fits) B.pre
  have hown : s.vm.findClass RX11 = some m.cls := findClass_of_methodNamed B.named
  have hlocks := B.notSynchronized
  have h00 : b0 ≤ s.heap.size := hH.1
  have hS : va_S (th_A b0) s.heap s.heap [] := va_S.rf
  have hF : fr [13] E σ σ := fr.rf
  have hM : fm [9, 10, 11, 13, 14, 15, 16, 17, 18, 19, 20, 23, 24, 25, 26, 27, 28, 29, 30, 54, 55] E σ σ a := fm.rf
  have inX11 : ∀ w ∈ wsX110, w ∈ wsX11_fits := by decide +kernel
  have fl0 := hts (.fieldLink RX11 522 "NestQueryModel" "fitting" "I") (by decide +kernel)
  have fl1 := hts (.fieldLink RX11 235 "NestQueryModel" "noted" "I") (by decide +kernel)
  have fl2 := hts (.fieldLink RX11 87 "NestQueryModel" "votes" "[I") (by decide +kernel)
  have fl3 := hts (.fieldLink RX11 35 "NestQueryModel" "set" "[Z") (by decide +kernel)
  have fl4 := hts (.fieldLink RX11 81 "NestQueryModel" "notedThing" "[I") (by decide +kernel)
  have fl5 := hts (.fieldLink RX11 84 "NestQueryModel" "notedIs" "[I") (by decide +kernel)
  have hl := lv_entry ([.ref a]) (n := 5) (Nat.le_of_ble_eq_true rfl)
  rw [lg_entry_eq]
  generalize (lg_sl ([.ref a]) ++ List.replicate (5 - (lg_sl ([.ref a])).length) Slot.unset).toArray = ls at hl ⊢
  have hl : lv_has ls 5 [(0, .ref a)] := hl
  obtain ⟨a510, ea510, ra510, la510, ua510⟩ := hO.gi h_a (by decide) k13_51
  refine lv_iconst (v := I 0) hx hb dX11_fits_0 (by decide) ?_
  refine lv_istore_n (lv' := [(1, .int (I 0)), (0, .ref a)]) hx hb dX11_fits_1 rfl hl (by decide) rfl (fun ls hl => ?_)
  refine lv_aload_n hx hb dX11_fits_2 rfl (lv_at hl 1 rfl) ?_
  refine lv_iconst (v := I 0) hx hb dX11_fits_3 (by decide) ?_
  refine ok.putJ hO h_a k13_55 (show rng 0 from ⟨by decide, by decide⟩) (by omega) (by omega) (fun _ he hl9 kk => th_put (ci := 11) (v := .int (I 0)) (ty := .int) (C := RX11) (T := TX11) (N := 66) hx hb hts inX11 tyX11 tyX11_ok nmX11 hown hK hH hS h00 he rfl 55 (by decide) fl0 rfl (by decide +kernel) rfl rfl hl9 dX11_fits_4 kk) (fun σ_s_1 H locs hO hF9 hM9 hg9 ha9 hH hS => ?_)
  replace hM := hM.tu hM9 (by decide)
  replace hF := hF.tu hF9 (by decide)
  have e_2 : aF σ_s_1 (ad E a 1) = f1 := (hM9.a (by decide) (by decide)).trans ef1
  have e_3 : aF σ_s_1 (ad E a 8) = f8 := (hM9.a (by decide) (by decide)).trans ef8
  have e_4 : gI σ_s_1 a 51 = a510 := (hM9.i (by decide)).trans ea510
  have e_5 := hg9
  refine lv_iconst (v := I 0) hx hb dX11_fits_7 (by decide) ?_
  refine lv_istore_n (lv' := [(2, .int (I 0)), (1, .int (I 0)), (0, .ref a)]) hx hb dX11_fits_8 rfl hl (by decide) rfl (fun ls hl => ?_)
  refine th_loop (α := Int) (pc := 9) (fun x9 => (60 - x9).toNat) (fun x9 σ9 H9 l9 ls9 => ok y E σ9 ∧ fr [13] E σ σ9 ∧ fm [9, 10, 11, 13, 14, 15, 16, 17, 18, 19, 20, 23, 24, 25, 26, 27, 28, 29, 30, 54, 55] E σ σ9 a ∧ th_H G b0 σ9 H9 ∧ va_S (th_A b0) s.heap H9 l9 ∧ lv_has ls9 5 [(0, .ref a), (1, .int (I 0)), (2, .int (I x9))] ∧ rng x9 ∧ (0 ≤ x9) ∧ (x9 ≤ 60) ∧ (gI σ9 a 51 = a510) ∧ (gI σ9 a 55 = 0) ∧ (aF σ9 (ad E a 1) = f1) ∧ (aF σ9 (ad E a 8) = f8)) ?_ (0) σ_s_1 _ _ _ ⟨hO, hF, hM, hH, hS, lv_sub hl [2, 1, 0] rfl, (show rng 0 from ⟨by decide, by decide⟩), by first | (dsimp only; omega) | omega, by first | (dsimp only; omega) | omega, e_4, e_5, e_2, e_3⟩
  intro x9 σ_J_18 H locs ls hI9 ihJ_18
  obtain ⟨v2q17, ex9⟩ : ∃ z, z = x9 := ⟨_, rfl⟩
  subst ex9
  obtain ⟨hO, hF, hM, hH, hS, hl, rv2q17, J_18_0, J_18_1, J_18_2, J_18_3, J_18_4, J_18_5⟩ := hI9
  have hl : lv_has ls 5 [(0, .ref a), (1, .int (I 0)), (2, .int (I v2q17))] := hl
  have rv2q17 : rng v2q17 := rv2q17
  have J_18_0 : 0 ≤ v2q17 := J_18_0
  have J_18_1 : v2q17 ≤ 60 := J_18_1
  have J_18_2 : gI σ_J_18 a 51 = a510 := J_18_2
  have J_18_3 : gI σ_J_18 a 55 = 0 := J_18_3
  have J_18_4 : aF σ_J_18 (ad E a 1) = f1 := J_18_4
  have J_18_5 : aF σ_J_18 (ad E a 8) = f8 := J_18_5
  refine lv_iload_n hx hb dX11_fits_9 rfl (lv_at hl 2 rfl) ?_
  refine lv_bipush (v := I 60) hx hb dX11_fits_10 (by decide) ?_
  refine lv_icmp_ge (tgt := 28) hx hb dX11_fits_12 (by decide) (fun c_19 => ?_) (fun c_19 => ?_)
  · replace c_19 := (I_le (a := 60) (b := v2q17) (show rng 60 from ⟨by decide, by decide⟩) rv2q17).mp c_19
    refine lv_iconst (v := I 0) hx hb dX11_fits_28 (by decide) ?_
    refine lv_istore_n (lv' := [(2, .int (I 0)), (0, .ref a), (1, .int (I 0))]) hx hb dX11_fits_29 rfl hl (by decide) rfl (fun ls hl => ?_)
    refine th_loop (α := Int × Int) (pc := 30) (fun x9 => (4 - x9.2).toNat) (fun x9 σ9 H9 l9 ls9 => ok y E σ9 ∧ fr [13] E σ σ9 ∧ fm [9, 10, 11, 13, 14, 15, 16, 17, 18, 19, 20, 23, 24, 25, 26, 27, 28, 29, 30, 54, 55] E σ σ9 a ∧ th_H G b0 σ9 H9 ∧ va_S (th_A b0) s.heap H9 l9 ∧ lv_has ls9 5 [(0, .ref a), (1, .int (I x9.1)), (2, .int (I x9.2))] ∧ rng x9.1 ∧ rng x9.2 ∧ (0 ≤ x9.2) ∧ (x9.2 ≤ 4) ∧ (gI σ9 a 51 = a510) ∧ (aF σ9 (ad E a 1) = f1) ∧ (aF σ9 (ad E a 8) = f8)) ?_ (0, 0) σ_J_18 _ _ _ ⟨hO, hF, hM, hH, hS, lv_sub hl [1, 2, 0] rfl, (show rng 0 from ⟨by decide, by decide⟩), (show rng 0 from ⟨by decide, by decide⟩), by first | (dsimp only; omega) | omega, by first | (dsimp only; omega) | omega, J_18_2, J_18_4, J_18_5⟩
    intro x9 σ_J_230 H locs ls hI9 ihJ_230
    obtain ⟨v1q229, v2q229⟩ := x9
    obtain ⟨hO, hF, hM, hH, hS, hl, rv1q229, rv2q229, J_230_0, J_230_1, J_230_2, J_230_3, J_230_4⟩ := hI9
    have hl : lv_has ls 5 [(0, .ref a), (1, .int (I v1q229)), (2, .int (I v2q229))] := hl
    have rv1q229 : rng v1q229 := rv1q229
    have rv2q229 : rng v2q229 := rv2q229
    have J_230_0 : 0 ≤ v2q229 := J_230_0
    have J_230_1 : v2q229 ≤ 4 := J_230_1
    have J_230_2 : gI σ_J_230 a 51 = a510 := J_230_2
    have J_230_3 : aF σ_J_230 (ad E a 1) = f1 := J_230_3
    have J_230_4 : aF σ_J_230 (ad E a 8) = f8 := J_230_4
    refine lv_iload_n hx hb dX11_fits_30 rfl (lv_at hl 2 rfl) ?_
    refine lv_iconst (v := I 4) hx hb dX11_fits_31 (by decide) ?_
    refine lv_icmp_ge (tgt := 198) hx hb dX11_fits_32 (by decide) (fun c_231 => ?_) (fun c_231 => ?_)
    · replace c_231 := (I_le (a := 4) (b := v2q229) (show rng 4 from ⟨by decide, by decide⟩) rv2q229).mp c_231
      refine lv_iload_n hx hb dX11_fits_198 rfl (lv_at hl 1 rfl) ?_
      exact th_iret hx hb hr hlocks hH hS (z := v1q229) rv1q229 ⟨hO, hF, hM, trivial⟩ dX11_fits_199
    · replace c_231 := mt (I_le (a := 4) (b := v2q229) (show rng 4 from ⟨by decide, by decide⟩) rv2q229).mpr c_231
      refine lv_aload_n hx hb dX11_fits_35 rfl (lv_at hl 0 rfl) ?_
      refine lv_iload_n hx hb dX11_fits_36 rfl (lv_at hl 2 rfl) ?_
      obtain ⟨_, hc_232⟩ := hO.cell h_a (by decide) (ci := 11) rfl
      refine th_calli (va_runV (As := [.int (I v2q229)]) (rest := []) ⟨hx, hb, hml, hown, hts⟩ (m_isPath l G y b0 σ_J_230 E hO a h_a v2q229 (show rng v2q229 from rv2q229) f8 J_230_4) (cwV 1 hts gX11_fits_X11_isPath rfl rfl rfl (by decide +kernel) ⟨Nat.le_of_ble_eq_true rfl, Nat.le_of_ble_eq_true rfl⟩) (th_PV hK hH rfl hc_232) rfl rfl hl.1 rfl (lv_room (Nat.le_of_ble_eq_true rfl)) dX11_fits_37 ⟨Nat.le_of_ble_eq_true rfl, Nat.le_of_ble_eq_true rfl⟩) hS (fun z_235 σ_s_234 H locs rz_235 hw_233 hH hS => ?_)
      obtain ⟨e9, bhw_233, hw_233⟩ := hw_233
      replace e9 := e9.symm
      subst e9
      have hw_233 : (z_235 = 1 ∧ 0 ≤ v2q229 ∧ v2q229 ≤ 3 ∧ 1 ≤ (f8 v2q229.toNat).toInt) ∨ z_235 = 0 := hw_233
      refine lv_if_ne (tgt := 46) hx hb dX11_fits_40 (by decide) (fun c_236 => ?_) (fun c_236 => ?_)
      · replace c_236 := mt (I_eq (a := z_235) (b := 0) rz_235 (show rng 0 from ⟨by decide, by decide⟩)).mpr c_236
        refine lv_aload_n hx hb dX11_fits_46 rfl (lv_at hl 0 rfl) ?_
        refine lv_iload_n hx hb dX11_fits_47 rfl (lv_at hl 2 rfl) ?_
        refine lv_iconst (v := I (-1)) hx hb dX11_fits_48 (by decide) ?_
        obtain ⟨_, hc_237⟩ := hO.cell h_a (by decide) (ci := 11) rfl
        refine th_callv (va_runV (As := [.int (I v2q229), .int (I (-1))]) (rest := []) ⟨hx, hb, hml, hown, hts⟩ (m_goes l G y b0 σ_J_230 E hO a h_a v2q229 (show rng v2q229 from rv2q229) (by omega) (by omega) (-1) (show rng (-1) from (show rng (-1) from ⟨by decide, by decide⟩)) f1 J_230_3 f8 J_230_4 (hy0) (by omega) (by omega)) (cwV 2 hts gX11_fits_X11_goes rfl rfl rfl (by decide +kernel) ⟨Nat.le_of_ble_eq_true rfl, Nat.le_of_ble_eq_true rfl⟩) (th_PV hK hH rfl hc_237) rfl rfl hl.1 rfl (lv_room (Nat.le_of_ble_eq_true rfl)) dX11_fits_49 ⟨Nat.le_of_ble_eq_true rfl, Nat.le_of_ble_eq_true rfl⟩) hS (fun σ_s_239 H locs hw_238 hH hS => ?_)
        obtain ⟨hO9, hF9, hM9, hw_238⟩ := hw_238
        replace hM := hM.tu hM9 (by decide)
        replace hF := hF.tu hF9 (by decide)
        have e_240 : gI σ_s_239 a 51 = a510 := (hM9.i (by decide)).trans J_230_2
        have e_241 : aF σ_s_239 (ad E a 1) = f1 := (hM9.a (by decide) (by decide)).trans J_230_3
        have e_242 : aF σ_s_239 (ad E a 8) = f8 := (hM9.a (by decide) (by decide)).trans J_230_4
        replace hO := hO9
        refine lv_iconst (v := I 1) hx hb dX11_fits_52 (by decide) ?_
        refine lv_istore_n (lv' := [(3, .int (I 1)), (0, .ref a), (1, .int (I v1q229)), (2, .int (I v2q229))]) hx hb dX11_fits_53 rfl hl (by decide) rfl (fun ls hl => ?_)
        refine lv_iconst (v := I 0) hx hb dX11_fits_54 (by decide) ?_
        refine lv_istore (lv' := [(4, .int (I 0)), (3, .int (I 1)), (0, .ref a), (1, .int (I v1q229)), (2, .int (I v2q229))]) hx hb dX11_fits_55 hl (by decide) rfl (fun ls hl => ?_)
        refine th_loop (α := Int × Int) (pc := 57) (fun x9 => (gI σ a 51 - x9.2).toNat) (fun x9 σ9 H9 l9 ls9 => σ9 = σ_s_239 ∧ th_H G b0 σ9 H9 ∧ va_S (th_A b0) s.heap H9 l9 ∧ lv_has ls9 5 [(0, .ref a), (1, .int (I v1q229)), (2, .int (I v2q229)), (3, .int (I x9.1)), (4, .int (I x9.2))] ∧ rng x9.1 ∧ rng x9.2 ∧ (0 ≤ x9.2) ∧ (x9.2 ≤ 8) ∧ (0 ≤ x9.1) ∧ (x9.1 ≤ 1)) ?_ (1, 0) σ_s_239 _ _ _ ⟨rfl, hH, hS, lv_sub hl [2, 3, 4, 1, 0] rfl, (show rng 1 from ⟨by decide, by decide⟩), (show rng 0 from ⟨by decide, by decide⟩), by first | (dsimp only; omega) | omega, by first | (dsimp only; omega) | omega, by first | (dsimp only; omega) | omega, by first | (dsimp only; omega) | omega⟩
        intro x9 σ_J_244 H locs ls hI9 ihJ_244
        obtain ⟨v3q243, v4q243⟩ := x9
        obtain ⟨eJ_244, hH, hS, hl, rv3q243, rv4q243, J_244_0, J_244_1, J_244_2, J_244_3⟩ := hI9
        replace eJ_244 := eJ_244.symm
        subst eJ_244
        have hl : lv_has ls 5 [(0, .ref a), (1, .int (I v1q229)), (2, .int (I v2q229)), (3, .int (I v3q243)), (4, .int (I v4q243))] := hl
        have rv3q243 : rng v3q243 := rv3q243
        have rv4q243 : rng v4q243 := rv4q243
        have J_244_0 : 0 ≤ v4q243 := J_244_0
        have J_244_1 : v4q243 ≤ 8 := J_244_1
        have J_244_2 : 0 ≤ v3q243 := J_244_2
        have J_244_3 : v3q243 ≤ 1 := J_244_3
        refine lv_iload hx hb dX11_fits_57 (lv_at hl 4 rfl) ?_
        refine lv_aload_n hx hb dX11_fits_59 rfl (lv_at hl 0 rfl) ?_
        refine ok.getIc hO h_a (by decide) k13_51 e_240 (fun _ _ he hv kk => th_get (ci := 11) (C := RX11) (T := TX11) (N := 66) hx hb hts inX11 hown hK hH he rfl 51 (by decide) fl1 hv dX11_fits_60 kk) ?_
        refine lv_icmp_ge (tgt := 126) hx hb dX11_fits_63 (by decide) (fun c_245 => ?_) (fun c_245 => ?_)
        · replace c_245 := (I_le (a := a510) (b := v4q243) ra510 rv4q243).mp c_245
          refine lv_iload_n hx hb dX11_fits_126 rfl (lv_at hl 3 rfl) ?_
          refine lv_if_ne (tgt := 133) hx hb dX11_fits_127 (by decide) (fun c_246 => ?_) (fun c_246 => ?_)
          · replace c_246 := mt (I_eq (a := v3q243) (b := 0) rv3q243 (show rng 0 from ⟨by decide, by decide⟩)).mpr c_246
            refine lv_iload_n hx hb dX11_fits_133 rfl (lv_at hl 1 rfl) ?_
            refine lv_iconst (v := I 1) hx hb dX11_fits_134 (by decide) ?_
            refine lv_iload_n hx hb dX11_fits_135 rfl (lv_at hl 2 rfl) ?_
            refine lv_ishl hx hb dX11_fits_136 ?_
            refine th_topi (fun z_247 rz_247 => ?_)
            refine lv_ior hx hb dX11_fits_137 ?_
            refine th_topi (fun z_248 rz_248 => ?_)
            refine lv_istore_n (lv' := [(1, .int (I z_248)), (0, .ref a), (2, .int (I v2q229)), (3, .int (I v3q243)), (4, .int (I v4q243))]) hx hb dX11_fits_138 rfl hl (by decide) rfl (fun ls hl => ?_)
            refine lv_aload_n hx hb dX11_fits_139 rfl (lv_at hl 1 rfl) ?_
            refine lv_dup hx hb dX11_fits_140 rfl ?_
            refine ok.getI hO h_a (by decide) k13_55 (fun _ _ he hv kk => th_get (ci := 11) (C := RX11) (T := TX11) (N := 66) hx hb hts inX11 hown hK hH he rfl 55 (by decide) fl0 hv dX11_fits_141 kk) (fun z_249 e_250 rz_249 lz_249 uz_249 => ?_)
            refine lv_iconst (v := I 1) hx hb dX11_fits_144 (by decide) ?_
            refine lv_iadd hx hb dX11_fits_145 ?_
            refine th_addo (fun z_251 rz_251 hz_251 => ?_)
            refine ok.putJ hO h_a k13_55 rz_251 (by omega) (by omega) (fun _ he hl9 kk => th_put (ci := 11) (v := .int (I z_251)) (ty := .int) (C := RX11) (T := TX11) (N := 66) hx hb hts inX11 tyX11 tyX11_ok nmX11 hown hK hH hS h00 he rfl 55 (by decide) fl0 rfl (by decide +kernel) rfl rfl hl9 dX11_fits_146 kk) (fun σ_s_252 H locs hO hF9 hM9 hg9 ha9 hH hS => ?_)
            replace hM := hM.tu hM9 (by decide)
            replace hF := hF.tu hF9 (by decide)
            have e_253 : gI σ_s_252 a 51 = a510 := (hM9.i (by decide)).trans e_240
            have e_254 : aF σ_s_252 (ad E a 1) = f1 := (hM9.a (by decide) (by decide)).trans e_241
            have e_255 : aF σ_s_252 (ad E a 8) = f8 := (hM9.a (by decide) (by decide)).trans e_242
            have e_256 := hg9
            refine lv_iconst (v := I 0) hx hb dX11_fits_149 (by decide) ?_
            refine lv_istore (lv' := [(4, .int (I 0)), (1, .int (I z_248)), (0, .ref a), (2, .int (I v2q229)), (3, .int (I v3q243))]) hx hb dX11_fits_150 hl (by decide) rfl (fun ls hl => ?_)
            replace hl : lv_has ls 5 [(4, .int (I 0)), (1, .int (I z_248)), (0, .ref a), (2, .int (I v2q229))] := lv_sub hl [0, 1, 2, 3] rfl
            refine th_loop (α := Int) (pc := 152) (fun x9 => (mS f1 0 - x9).toNat) (fun x9 σ9 H9 l9 ls9 => ok y E σ9 ∧ fr [13] E σ σ9 ∧ fm [9, 10, 11, 13, 14, 15, 16, 17, 18, 19, 20, 23, 24, 25, 26, 27, 28, 29, 30, 54, 55] E σ σ9 a ∧ th_H G b0 σ9 H9 ∧ va_S (th_A b0) s.heap H9 l9 ∧ lv_has ls9 5 [(0, .ref a), (1, .int (I z_248)), (2, .int (I v2q229)), (4, .int (I x9))] ∧ rng x9 ∧ (0 ≤ x9) ∧ (x9 ≤ 60) ∧ (gI σ9 a 51 = a510) ∧ (gI σ9 a 55 = z_251) ∧ (aF σ9 (ad E a 1) = f1) ∧ (aF σ9 (ad E a 8) = f8)) ?_ (0) σ_s_252 _ _ _ ⟨hO, hF, hM, hH, hS, lv_sub hl [2, 1, 3, 0] rfl, (show rng 0 from ⟨by decide, by decide⟩), by first | (dsimp only; omega) | omega, by first | (dsimp only; omega) | omega, e_253, e_256, e_254, e_255⟩
            intro x9 σ_J_258 H locs ls hI9 ihJ_258
            obtain ⟨v4q257, ex9⟩ : ∃ z, z = x9 := ⟨_, rfl⟩
            subst ex9
            obtain ⟨hO, hF, hM, hH, hS, hl, rv4q257, J_258_0, J_258_1, J_258_2, J_258_3, J_258_4, J_258_5⟩ := hI9
            have hl : lv_has ls 5 [(0, .ref a), (1, .int (I z_248)), (2, .int (I v2q229)), (4, .int (I v4q257))] := hl
            have rv4q257 : rng v4q257 := rv4q257
            have J_258_0 : 0 ≤ v4q257 := J_258_0
            have J_258_1 : v4q257 ≤ 60 := J_258_1
            have J_258_2 : gI σ_J_258 a 51 = a510 := J_258_2
            have J_258_3 : gI σ_J_258 a 55 = z_251 := J_258_3
            have J_258_4 : aF σ_J_258 (ad E a 1) = f1 := J_258_4
            have J_258_5 : aF σ_J_258 (ad E a 8) = f8 := J_258_5
            refine lv_iload hx hb dX11_fits_152 (lv_at hl 3 rfl) ?_
            refine lv_aload_n hx hb dX11_fits_154 rfl (lv_at hl 0 rfl) ?_
            obtain ⟨_, hc_259⟩ := hO.cell h_a (by decide) (ci := 11) rfl
            refine th_calli (va_runV (As := []) (rest := [.int (I v4q257)]) ⟨hx, hb, hml, hown, hts⟩ (m_things l G y b0 σ_J_258 E hO a h_a f1 J_258_4) (cwV 0 hts gX11_fits_X11_things rfl rfl rfl (by decide +kernel) ⟨Nat.le_of_ble_eq_true rfl, Nat.le_of_ble_eq_true rfl⟩) (th_PV hK hH rfl hc_259) rfl rfl hl.1 rfl (lv_room (Nat.le_of_ble_eq_true rfl)) dX11_fits_155 ⟨Nat.le_of_ble_eq_true rfl, Nat.le_of_ble_eq_true rfl⟩) hS (fun z_262 σ_s_261 H locs rz_262 hw_260 hH hS => ?_)
            obtain ⟨e9, hw_260⟩ := hw_260
            replace e9 := e9.symm
            subst e9
            have hw_260 : z_262 = mS f1 0 := hw_260
            refine lv_icmp_ge (tgt := 192) hx hb dX11_fits_158 (by decide) (fun c_263 => ?_) (fun c_263 => ?_)
            · replace c_263 := (I_le (a := z_262) (b := v4q257) rz_262 rv4q257).mp c_263
              refine lv_iinc (v := I (v2q229 + 1)) (lv' := [(2, .int (I (v2q229 + 1))), (0, .ref a), (1, .int (I z_248)), (4, .int (I v4q257))]) hx hb dX11_fits_192 hl (k := 2) rfl (I_add _ _) (by decide) rfl (fun ls hl => ?_)
              refine lv_goto (tgt := 30) hx hb dX11_fits_195 (by decide) ?_
              replace hl : lv_has ls 5 [(2, .int (I (v2q229 + 1))), (0, .ref a), (1, .int (I z_248))] := lv_sub hl [0, 1, 2] rfl
              exact ihJ_230 (z_248, v2q229 + 1) σ_J_258 _ _ _ (by first | (dsimp only; omega) | omega) ⟨hO, hF, hM, hH, hS, lv_sub hl [1, 2, 0] rfl, rz_248, ⟨by first | (dsimp only; omega) | omega, by first | (dsimp only; omega) | omega⟩, by first | (dsimp only; omega) | omega, by first | (dsimp only; omega) | omega, J_258_2, J_258_4, J_258_5⟩
            · replace c_263 := mt (I_le (a := z_262) (b := v4q257) rz_262 rv4q257).mpr c_263
              refine lv_aload_n hx hb dX11_fits_161 rfl (lv_at hl 0 rfl) ?_
              refine ok.getR hO h_a (by decide) k13_54 (by decide) (fun _ _ he hv kk => th_get (ci := 11) (C := RX11) (T := TX11) (N := 66) hx hb hts inX11 hown hK hH he rfl 54 (by decide) fl2 hv dX11_fits_162 kk) ?_
              refine lv_iload hx hb dX11_fits_165 (lv_at hl 3 rfl) ?_
              refine lv_dup2_11 hx hb dX11_fits_167 rfl rfl ?_
              obtain ⟨f_265, ef_266⟩ : ∃ f9, aF σ_J_258 (ad E a 54) = f9 := ⟨_, rfl⟩
              refine m_iald hx hb hK hH hO h_a k13_54 isA1 ef_266 rv4q257 (by omega) (by omega) dX11_fits_168 (fun z_264 ez_264 rz_264 elx9 => ?_)
              refine lv_aload_n hx hb dX11_fits_169 rfl (lv_at hl 0 rfl) ?_
              refine ok.getR hO h_a (by decide) k13_23 (by decide) (fun _ _ he hv kk => th_get (ci := 11) (C := RX11) (T := TX11) (N := 66) hx hb hts inX11 hown hK hH he rfl 23 (by decide) fl3 hv dX11_fits_170 kk) ?_
              refine lv_iload hx hb dX11_fits_173 (lv_at hl 3 rfl) ?_
              refine m_zald hx hb hK hH hO h_a k13_23 rv4q257 (by omega) (by omega) dX11_fits_175 (fun z_267 rz_267 uz_267 => ?_)
              refine lv_if_eq (tgt := 183) hx hb dX11_fits_176 (by decide) (fun c_268 => ?_) (fun c_268 => ?_)
              · replace c_268 := (I_eq (a := z_267) (b := 0) rz_267 (show rng 0 from ⟨by decide, by decide⟩)).mp c_268
                refine lv_iconst (v := I 0) hx hb dX11_fits_183 (by decide) ?_
                refine lv_iadd hx hb dX11_fits_184 ?_
                refine th_addo (fun z_269 rz_269 hz_269 => ?_)
                refine m_iast hx hb hK hH hS h00 hO h_a k13_54 isA1 (by decide) ef_266 rv4q257 (by omega) (by omega) rz_269 el1 dX11_fits_185 (fun σ_s_270 H locs hO hF9 hM9 ha9 hH hS => ?_)
                replace hM := hM.tu hM9 (by decide)
                replace hF := hF.tu hF9 (by decide)
                have e_271 : gI σ_s_270 a 51 = a510 := (hM9.i (by decide)).trans J_258_2
                have e_272 : gI σ_s_270 a 55 = z_251 := (hM9.i (by decide)).trans J_258_3
                have e_273 : aF σ_s_270 (ad E a 1) = f1 := (hM9.a (by decide) (by decide)).trans J_258_4
                have e_274 : aF σ_s_270 (ad E a 8) = f8 := (hM9.a (by decide) (by decide)).trans J_258_5
                obtain ⟨g_275, dg_275⟩ : ∃ g9, g9 = upd f_265 (v4q257).toNat (I z_269) := ⟨_, rfl⟩
                rw [← dg_275] at ha9
                have ef_276 := ha9
                refine lv_iinc (v := I (v4q257 + 1)) (lv' := [(4, .int (I (v4q257 + 1))), (0, .ref a), (1, .int (I z_248)), (2, .int (I v2q229))]) hx hb dX11_fits_186 hl (k := 3) rfl (I_add _ _) (by decide) rfl (fun ls hl => ?_)
                refine lv_goto (tgt := 152) hx hb dX11_fits_189 (by decide) ?_
                exact ihJ_258 (v4q257 + 1) σ_s_270 _ _ _ (by first | (dsimp only; omega) | omega) ⟨hO, hF, hM, hH, hS, lv_sub hl [1, 2, 3, 0] rfl, ⟨by first | (dsimp only; omega) | omega, by first | (dsimp only; omega) | omega⟩, by first | (dsimp only; omega) | omega, by first | (dsimp only; omega) | omega, e_271, e_272, e_273, e_274⟩
              · replace c_268 := mt (I_eq (a := z_267) (b := 0) rz_267 (show rng 0 from ⟨by decide, by decide⟩)).mpr c_268
                refine lv_iconst (v := I 1) hx hb dX11_fits_179 (by decide) ?_
                refine lv_goto (tgt := 184) hx hb dX11_fits_180 (by decide) ?_
                refine lv_iadd hx hb dX11_fits_184 ?_
                refine th_addo (fun z_277 rz_277 hz_277 => ?_)
                refine m_iast hx hb hK hH hS h00 hO h_a k13_54 isA1 (by decide) ef_266 rv4q257 (by omega) (by omega) rz_277 el1 dX11_fits_185 (fun σ_s_278 H locs hO hF9 hM9 ha9 hH hS => ?_)
                replace hM := hM.tu hM9 (by decide)
                replace hF := hF.tu hF9 (by decide)
                have e_279 : gI σ_s_278 a 51 = a510 := (hM9.i (by decide)).trans J_258_2
                have e_280 : gI σ_s_278 a 55 = z_251 := (hM9.i (by decide)).trans J_258_3
                have e_281 : aF σ_s_278 (ad E a 1) = f1 := (hM9.a (by decide) (by decide)).trans J_258_4
                have e_282 : aF σ_s_278 (ad E a 8) = f8 := (hM9.a (by decide) (by decide)).trans J_258_5
                obtain ⟨g_283, dg_283⟩ : ∃ g9, g9 = upd f_265 (v4q257).toNat (I z_277) := ⟨_, rfl⟩
                rw [← dg_283] at ha9
                have ef_284 := ha9
                refine lv_iinc (v := I (v4q257 + 1)) (lv' := [(4, .int (I (v4q257 + 1))), (0, .ref a), (1, .int (I z_248)), (2, .int (I v2q229))]) hx hb dX11_fits_186 hl (k := 3) rfl (I_add _ _) (by decide) rfl (fun ls hl => ?_)
                refine lv_goto (tgt := 152) hx hb dX11_fits_189 (by decide) ?_
                exact ihJ_258 (v4q257 + 1) σ_s_278 _ _ _ (by first | (dsimp only; omega) | omega) ⟨hO, hF, hM, hH, hS, lv_sub hl [1, 2, 3, 0] rfl, ⟨by first | (dsimp only; omega) | omega, by first | (dsimp only; omega) | omega⟩, by first | (dsimp only; omega) | omega, by first | (dsimp only; omega) | omega, e_279, e_280, e_281, e_282⟩
          · replace c_246 := (I_eq (a := v3q243) (b := 0) rv3q243 (show rng 0 from ⟨by decide, by decide⟩)).mp c_246
            refine lv_goto (tgt := 192) hx hb dX11_fits_130 (by decide) ?_
            refine lv_iinc (v := I (v2q229 + 1)) (lv' := [(2, .int (I (v2q229 + 1))), (0, .ref a), (1, .int (I v1q229)), (3, .int (I v3q243)), (4, .int (I v4q243))]) hx hb dX11_fits_192 hl (k := 2) rfl (I_add _ _) (by decide) rfl (fun ls hl => ?_)
            refine lv_goto (tgt := 30) hx hb dX11_fits_195 (by decide) ?_
            replace hl : lv_has ls 5 [(2, .int (I (v2q229 + 1))), (0, .ref a), (1, .int (I v1q229))] := lv_sub hl [0, 1, 2] rfl
            exact ihJ_230 (v1q229, v2q229 + 1) σ_s_239 _ _ _ (by first | (dsimp only; omega) | omega) ⟨hO, hF, hM, hH, hS, lv_sub hl [1, 2, 0] rfl, rv1q229, ⟨by first | (dsimp only; omega) | omega, by first | (dsimp only; omega) | omega⟩, by first | (dsimp only; omega) | omega, by first | (dsimp only; omega) | omega, e_240, e_241, e_242⟩
        · replace c_245 := mt (I_le (a := a510) (b := v4q243) ra510 rv4q243).mpr c_245
          refine lv_iload_n hx hb dX11_fits_66 rfl (lv_at hl 3 rfl) ?_
          refine lv_if_eq (tgt := 118) hx hb dX11_fits_67 (by decide) (fun c_285 => ?_) (fun c_285 => ?_)
          · replace c_285 := (I_eq (a := v3q243) (b := 0) rv3q243 (show rng 0 from ⟨by decide, by decide⟩)).mp c_285
            refine lv_iconst (v := I 0) hx hb dX11_fits_118 (by decide) ?_
            refine lv_istore_n (lv' := [(3, .int (I 0)), (0, .ref a), (1, .int (I v1q229)), (2, .int (I v2q229)), (4, .int (I v4q243))]) hx hb dX11_fits_119 rfl hl (by decide) rfl (fun ls hl => ?_)
            refine lv_iinc (v := I (v4q243 + 1)) (lv' := [(4, .int (I (v4q243 + 1))), (3, .int (I 0)), (0, .ref a), (1, .int (I v1q229)), (2, .int (I v2q229))]) hx hb dX11_fits_120 hl (k := 4) rfl (I_add _ _) (by decide) rfl (fun ls hl => ?_)
            refine lv_goto (tgt := 57) hx hb dX11_fits_123 (by decide) ?_
            exact ihJ_244 (0, v4q243 + 1) σ_s_239 _ _ _ (by first | (dsimp only; omega) | omega) ⟨rfl, hH, hS, lv_sub hl [2, 3, 4, 1, 0] rfl, (show rng 0 from ⟨by decide, by decide⟩), ⟨by first | (dsimp only; omega) | omega, by first | (dsimp only; omega) | omega⟩, by first | (dsimp only; omega) | omega, by first | (dsimp only; omega) | omega, by first | (dsimp only; omega) | omega, by first | (dsimp only; omega) | omega⟩
          · replace c_285 := mt (I_eq (a := v3q243) (b := 0) rv3q243 (show rng 0 from ⟨by decide, by decide⟩)).mpr c_285
            refine lv_aload_n hx hb dX11_fits_70 rfl (lv_at hl 0 rfl) ?_
            refine ok.getR hO h_a (by decide) k13_23 (by decide) (fun _ _ he hv kk => th_get (ci := 11) (C := RX11) (T := TX11) (N := 66) hx hb hts inX11 hown hK hH he rfl 23 (by decide) fl3 hv dX11_fits_71 kk) ?_
            refine lv_aload_n hx hb dX11_fits_74 rfl (lv_at hl 0 rfl) ?_
            refine ok.getR hO h_a (by decide) k13_52 (by decide) (fun _ _ he hv kk => th_get (ci := 11) (C := RX11) (T := TX11) (N := 66) hx hb hts inX11 hown hK hH he rfl 52 (by decide) fl4 hv dX11_fits_75 kk) ?_
            refine lv_iload hx hb dX11_fits_78 (lv_at hl 4 rfl) ?_
            obtain ⟨f_287, ef_288⟩ : ∃ f9, aF σ_s_239 (ad E a 52) = f9 := ⟨_, rfl⟩
            refine m_iald hx hb hK hH hO h_a k13_52 isA9 ef_288 rv4q243 (by omega) (by omega) dX11_fits_80 (fun z_286 ez_286 rz_286 elx9 => ?_)
            have uz_286 := elx9.2.1 rfl
            refine m_zald hx hb hK hH hO h_a k13_23 rz_286 (by omega) (by omega) dX11_fits_81 (fun z_289 rz_289 uz_289 => ?_)
            refine lv_if_eq (tgt := 103) hx hb dX11_fits_82 (by decide) (fun c_290 => ?_) (fun c_290 => ?_)
            · replace c_290 := (I_eq (a := z_289) (b := 0) rz_289 (show rng 0 from ⟨by decide, by decide⟩)).mp c_290
              refine lv_iconst (v := I 0) hx hb dX11_fits_103 (by decide) ?_
              refine lv_aload_n hx hb dX11_fits_104 rfl (lv_at hl 0 rfl) ?_
              refine ok.getR hO h_a (by decide) k13_53 (by decide) (fun _ _ he hv kk => th_get (ci := 11) (C := RX11) (T := TX11) (N := 66) hx hb hts inX11 hown hK hH he rfl 53 (by decide) fl5 hv dX11_fits_105 kk) ?_
              refine lv_iload hx hb dX11_fits_108 (lv_at hl 4 rfl) ?_
              obtain ⟨f_292, ef_293⟩ : ∃ f9, aF σ_s_239 (ad E a 53) = f9 := ⟨_, rfl⟩
              refine m_iald hx hb hK hH hO h_a k13_53 isA1 ef_293 rv4q243 (by omega) (by omega) dX11_fits_110 (fun z_291 ez_291 rz_291 elx9 => ?_)
              refine lv_icmp_ne (tgt := 118) hx hb dX11_fits_111 (by decide) (fun c_294 => ?_) (fun c_294 => ?_)
              · replace c_294 := mt (I_eq (a := 0) (b := z_291) (show rng 0 from ⟨by decide, by decide⟩) rz_291).mpr c_294
                refine lv_iconst (v := I 0) hx hb dX11_fits_118 (by decide) ?_
                refine lv_istore_n (lv' := [(3, .int (I 0)), (0, .ref a), (1, .int (I v1q229)), (2, .int (I v2q229)), (4, .int (I v4q243))]) hx hb dX11_fits_119 rfl hl (by decide) rfl (fun ls hl => ?_)
                refine lv_iinc (v := I (v4q243 + 1)) (lv' := [(4, .int (I (v4q243 + 1))), (3, .int (I 0)), (0, .ref a), (1, .int (I v1q229)), (2, .int (I v2q229))]) hx hb dX11_fits_120 hl (k := 4) rfl (I_add _ _) (by decide) rfl (fun ls hl => ?_)
                refine lv_goto (tgt := 57) hx hb dX11_fits_123 (by decide) ?_
                exact ihJ_244 (0, v4q243 + 1) σ_s_239 _ _ _ (by first | (dsimp only; omega) | omega) ⟨rfl, hH, hS, lv_sub hl [2, 3, 4, 1, 0] rfl, (show rng 0 from ⟨by decide, by decide⟩), ⟨by first | (dsimp only; omega) | omega, by first | (dsimp only; omega) | omega⟩, by first | (dsimp only; omega) | omega, by first | (dsimp only; omega) | omega, by first | (dsimp only; omega) | omega, by first | (dsimp only; omega) | omega⟩
              · replace c_294 := (I_eq (a := 0) (b := z_291) (show rng 0 from ⟨by decide, by decide⟩) rz_291).mp c_294
                refine lv_iconst (v := I 1) hx hb dX11_fits_114 (by decide) ?_
                refine lv_goto (tgt := 119) hx hb dX11_fits_115 (by decide) ?_
                refine lv_istore_n (lv' := [(3, .int (I 1)), (0, .ref a), (1, .int (I v1q229)), (2, .int (I v2q229)), (4, .int (I v4q243))]) hx hb dX11_fits_119 rfl hl (by decide) rfl (fun ls hl => ?_)
                refine lv_iinc (v := I (v4q243 + 1)) (lv' := [(4, .int (I (v4q243 + 1))), (3, .int (I 1)), (0, .ref a), (1, .int (I v1q229)), (2, .int (I v2q229))]) hx hb dX11_fits_120 hl (k := 4) rfl (I_add _ _) (by decide) rfl (fun ls hl => ?_)
                refine lv_goto (tgt := 57) hx hb dX11_fits_123 (by decide) ?_
                exact ihJ_244 (1, v4q243 + 1) σ_s_239 _ _ _ (by first | (dsimp only; omega) | omega) ⟨rfl, hH, hS, lv_sub hl [2, 3, 4, 1, 0] rfl, (show rng 1 from ⟨by decide, by decide⟩), ⟨by first | (dsimp only; omega) | omega, by first | (dsimp only; omega) | omega⟩, by first | (dsimp only; omega) | omega, by first | (dsimp only; omega) | omega, by first | (dsimp only; omega) | omega, by first | (dsimp only; omega) | omega⟩
            · replace c_290 := mt (I_eq (a := z_289) (b := 0) rz_289 (show rng 0 from ⟨by decide, by decide⟩)).mpr c_290
              refine lv_aload_n hx hb dX11_fits_85 rfl (lv_at hl 0 rfl) ?_
              refine lv_aload_n hx hb dX11_fits_86 rfl (lv_at hl 0 rfl) ?_
              refine ok.getR hO h_a (by decide) k13_52 (by decide) (fun _ _ he hv kk => th_get (ci := 11) (C := RX11) (T := TX11) (N := 66) hx hb hts inX11 hown hK hH he rfl 52 (by decide) fl4 hv dX11_fits_87 kk) ?_
              refine lv_iload hx hb dX11_fits_90 (lv_at hl 4 rfl) ?_
              refine m_iald hx hb hK hH hO h_a k13_52 isA9 ef_288 rv4q243 (by omega) (by omega) dX11_fits_92 (fun z_295 ez_295 rz_295 elx9 => ?_)
              have uz_295 := elx9.2.1 rfl
              obtain ⟨_, hc_296⟩ := hO.cell h_a (by decide) (ci := 11) rfl
              refine th_calli (va_runV (As := [.int (I z_295)]) (rest := []) ⟨hx, hb, hml, hown, hts⟩ (m_isThing l G y b0 σ_s_239 E hO a h_a z_295 (show rng z_295 from rz_295) f1 e_241 (by omega)) (cwV 1 hts gX11_fits_X11_isThing rfl rfl rfl (by decide +kernel) ⟨Nat.le_of_ble_eq_true rfl, Nat.le_of_ble_eq_true rfl⟩) (th_PV hK hH rfl hc_296) rfl rfl hl.1 rfl (lv_room (Nat.le_of_ble_eq_true rfl)) dX11_fits_93 ⟨Nat.le_of_ble_eq_true rfl, Nat.le_of_ble_eq_true rfl⟩) hS (fun z_299 σ_s_298 H locs rz_299 hw_297 hH hS => ?_)
              obtain ⟨e9, bhw_297, hw_297⟩ := hw_297
              replace e9 := e9.symm
              subst e9
              have hw_297 : (z_299 = 1 ∧ 0 ≤ z_295 ∧ z_295 < mS f1 0) ∨ (z_299 = 0 ∧ ¬ (0 ≤ z_295 ∧ z_295 < mS f1 0)) := hw_297
              refine lv_if_eq (tgt := 103) hx hb dX11_fits_96 (by decide) (fun c_300 => ?_) (fun c_300 => ?_)
              · replace c_300 := (I_eq (a := z_299) (b := 0) rz_299 (show rng 0 from ⟨by decide, by decide⟩)).mp c_300
                refine lv_iconst (v := I 0) hx hb dX11_fits_103 (by decide) ?_
                refine lv_aload_n hx hb dX11_fits_104 rfl (lv_at hl 0 rfl) ?_
                refine ok.getR hO h_a (by decide) k13_53 (by decide) (fun _ _ he hv kk => th_get (ci := 11) (C := RX11) (T := TX11) (N := 66) hx hb hts inX11 hown hK hH he rfl 53 (by decide) fl5 hv dX11_fits_105 kk) ?_
                refine lv_iload hx hb dX11_fits_108 (lv_at hl 4 rfl) ?_
                obtain ⟨f_302, ef_303⟩ : ∃ f9, aF σ_s_239 (ad E a 53) = f9 := ⟨_, rfl⟩
                refine m_iald hx hb hK hH hO h_a k13_53 isA1 ef_303 rv4q243 (by omega) (by omega) dX11_fits_110 (fun z_301 ez_301 rz_301 elx9 => ?_)
                refine lv_icmp_ne (tgt := 118) hx hb dX11_fits_111 (by decide) (fun c_304 => ?_) (fun c_304 => ?_)
                · replace c_304 := mt (I_eq (a := 0) (b := z_301) (show rng 0 from ⟨by decide, by decide⟩) rz_301).mpr c_304
                  refine lv_iconst (v := I 0) hx hb dX11_fits_118 (by decide) ?_
                  refine lv_istore_n (lv' := [(3, .int (I 0)), (0, .ref a), (1, .int (I v1q229)), (2, .int (I v2q229)), (4, .int (I v4q243))]) hx hb dX11_fits_119 rfl hl (by decide) rfl (fun ls hl => ?_)
                  refine lv_iinc (v := I (v4q243 + 1)) (lv' := [(4, .int (I (v4q243 + 1))), (3, .int (I 0)), (0, .ref a), (1, .int (I v1q229)), (2, .int (I v2q229))]) hx hb dX11_fits_120 hl (k := 4) rfl (I_add _ _) (by decide) rfl (fun ls hl => ?_)
                  refine lv_goto (tgt := 57) hx hb dX11_fits_123 (by decide) ?_
                  exact ihJ_244 (0, v4q243 + 1) σ_s_239 _ _ _ (by first | (dsimp only; omega) | omega) ⟨rfl, hH, hS, lv_sub hl [2, 3, 4, 1, 0] rfl, (show rng 0 from ⟨by decide, by decide⟩), ⟨by first | (dsimp only; omega) | omega, by first | (dsimp only; omega) | omega⟩, by first | (dsimp only; omega) | omega, by first | (dsimp only; omega) | omega, by first | (dsimp only; omega) | omega, by first | (dsimp only; omega) | omega⟩
                · replace c_304 := (I_eq (a := 0) (b := z_301) (show rng 0 from ⟨by decide, by decide⟩) rz_301).mp c_304
                  refine lv_iconst (v := I 1) hx hb dX11_fits_114 (by decide) ?_
                  refine lv_goto (tgt := 119) hx hb dX11_fits_115 (by decide) ?_
                  refine lv_istore_n (lv' := [(3, .int (I 1)), (0, .ref a), (1, .int (I v1q229)), (2, .int (I v2q229)), (4, .int (I v4q243))]) hx hb dX11_fits_119 rfl hl (by decide) rfl (fun ls hl => ?_)
                  refine lv_iinc (v := I (v4q243 + 1)) (lv' := [(4, .int (I (v4q243 + 1))), (3, .int (I 1)), (0, .ref a), (1, .int (I v1q229)), (2, .int (I v2q229))]) hx hb dX11_fits_120 hl (k := 4) rfl (I_add _ _) (by decide) rfl (fun ls hl => ?_)
                  refine lv_goto (tgt := 57) hx hb dX11_fits_123 (by decide) ?_
                  exact ihJ_244 (1, v4q243 + 1) σ_s_239 _ _ _ (by first | (dsimp only; omega) | omega) ⟨rfl, hH, hS, lv_sub hl [2, 3, 4, 1, 0] rfl, (show rng 1 from ⟨by decide, by decide⟩), ⟨by first | (dsimp only; omega) | omega, by first | (dsimp only; omega) | omega⟩, by first | (dsimp only; omega) | omega, by first | (dsimp only; omega) | omega, by first | (dsimp only; omega) | omega, by first | (dsimp only; omega) | omega⟩
              · replace c_300 := mt (I_eq (a := z_299) (b := 0) rz_299 (show rng 0 from ⟨by decide, by decide⟩)).mpr c_300
                refine lv_iconst (v := I 1) hx hb dX11_fits_99 (by decide) ?_
                refine lv_goto (tgt := 104) hx hb dX11_fits_100 (by decide) ?_
                refine lv_aload_n hx hb dX11_fits_104 rfl (lv_at hl 0 rfl) ?_
                refine ok.getR hO h_a (by decide) k13_53 (by decide) (fun _ _ he hv kk => th_get (ci := 11) (C := RX11) (T := TX11) (N := 66) hx hb hts inX11 hown hK hH he rfl 53 (by decide) fl5 hv dX11_fits_105 kk) ?_
                refine lv_iload hx hb dX11_fits_108 (lv_at hl 4 rfl) ?_
                obtain ⟨f_306, ef_307⟩ : ∃ f9, aF σ_s_239 (ad E a 53) = f9 := ⟨_, rfl⟩
                refine m_iald hx hb hK hH hO h_a k13_53 isA1 ef_307 rv4q243 (by omega) (by omega) dX11_fits_110 (fun z_305 ez_305 rz_305 elx9 => ?_)
                refine lv_icmp_ne (tgt := 118) hx hb dX11_fits_111 (by decide) (fun c_308 => ?_) (fun c_308 => ?_)
                · replace c_308 := mt (I_eq (a := 1) (b := z_305) (show rng 1 from ⟨by decide, by decide⟩) rz_305).mpr c_308
                  refine lv_iconst (v := I 0) hx hb dX11_fits_118 (by decide) ?_
                  refine lv_istore_n (lv' := [(3, .int (I 0)), (0, .ref a), (1, .int (I v1q229)), (2, .int (I v2q229)), (4, .int (I v4q243))]) hx hb dX11_fits_119 rfl hl (by decide) rfl (fun ls hl => ?_)
                  refine lv_iinc (v := I (v4q243 + 1)) (lv' := [(4, .int (I (v4q243 + 1))), (3, .int (I 0)), (0, .ref a), (1, .int (I v1q229)), (2, .int (I v2q229))]) hx hb dX11_fits_120 hl (k := 4) rfl (I_add _ _) (by decide) rfl (fun ls hl => ?_)
                  refine lv_goto (tgt := 57) hx hb dX11_fits_123 (by decide) ?_
                  exact ihJ_244 (0, v4q243 + 1) σ_s_239 _ _ _ (by first | (dsimp only; omega) | omega) ⟨rfl, hH, hS, lv_sub hl [2, 3, 4, 1, 0] rfl, (show rng 0 from ⟨by decide, by decide⟩), ⟨by first | (dsimp only; omega) | omega, by first | (dsimp only; omega) | omega⟩, by first | (dsimp only; omega) | omega, by first | (dsimp only; omega) | omega, by first | (dsimp only; omega) | omega, by first | (dsimp only; omega) | omega⟩
                · replace c_308 := (I_eq (a := 1) (b := z_305) (show rng 1 from ⟨by decide, by decide⟩) rz_305).mp c_308
                  refine lv_iconst (v := I 1) hx hb dX11_fits_114 (by decide) ?_
                  refine lv_goto (tgt := 119) hx hb dX11_fits_115 (by decide) ?_
                  refine lv_istore_n (lv' := [(3, .int (I 1)), (0, .ref a), (1, .int (I v1q229)), (2, .int (I v2q229)), (4, .int (I v4q243))]) hx hb dX11_fits_119 rfl hl (by decide) rfl (fun ls hl => ?_)
                  refine lv_iinc (v := I (v4q243 + 1)) (lv' := [(4, .int (I (v4q243 + 1))), (3, .int (I 1)), (0, .ref a), (1, .int (I v1q229)), (2, .int (I v2q229))]) hx hb dX11_fits_120 hl (k := 4) rfl (I_add _ _) (by decide) rfl (fun ls hl => ?_)
                  refine lv_goto (tgt := 57) hx hb dX11_fits_123 (by decide) ?_
                  exact ihJ_244 (1, v4q243 + 1) σ_s_239 _ _ _ (by first | (dsimp only; omega) | omega) ⟨rfl, hH, hS, lv_sub hl [2, 3, 4, 1, 0] rfl, (show rng 1 from ⟨by decide, by decide⟩), ⟨by first | (dsimp only; omega) | omega, by first | (dsimp only; omega) | omega⟩, by first | (dsimp only; omega) | omega, by first | (dsimp only; omega) | omega, by first | (dsimp only; omega) | omega, by first | (dsimp only; omega) | omega⟩
      · replace c_236 := (I_eq (a := z_235) (b := 0) rz_235 (show rng 0 from ⟨by decide, by decide⟩)).mp c_236
        refine lv_goto (tgt := 192) hx hb dX11_fits_43 (by decide) ?_
        refine lv_iinc (v := I (v2q229 + 1)) (lv' := [(2, .int (I (v2q229 + 1))), (0, .ref a), (1, .int (I v1q229))]) hx hb dX11_fits_192 hl (k := 2) rfl (I_add _ _) (by decide) rfl (fun ls hl => ?_)
        refine lv_goto (tgt := 30) hx hb dX11_fits_195 (by decide) ?_
        exact ihJ_230 (v1q229, v2q229 + 1) σ_J_230 _ _ _ (by first | (dsimp only; omega) | omega) ⟨hO, hF, hM, hH, hS, lv_sub hl [1, 2, 0] rfl, rv1q229, ⟨by first | (dsimp only; omega) | omega, by first | (dsimp only; omega) | omega⟩, by first | (dsimp only; omega) | omega, by first | (dsimp only; omega) | omega, J_230_2, J_230_3, J_230_4⟩
  · replace c_19 := mt (I_le (a := 60) (b := v2q17) (show rng 60 from ⟨by decide, by decide⟩) rv2q17).mpr c_19
    refine lv_aload_n hx hb dX11_fits_15 rfl (lv_at hl 0 rfl) ?_
    refine ok.getR hO h_a (by decide) k13_54 (by decide) (fun _ _ he hv kk => th_get (ci := 11) (C := RX11) (T := TX11) (N := 66) hx hb hts inX11 hown hK hH he rfl 54 (by decide) fl2 hv dX11_fits_16 kk) ?_
    refine lv_iload_n hx hb dX11_fits_19 rfl (lv_at hl 2 rfl) ?_
    refine lv_iconst (v := I 0) hx hb dX11_fits_20 (by decide) ?_
    obtain ⟨f_310, ef_311⟩ : ∃ f9, aF σ_J_18 (ad E a 54) = f9 := ⟨_, rfl⟩
    refine m_iast hx hb hK hH hS h00 hO h_a k13_54 isA1 (by decide) ef_311 rv2q17 (by omega) (by omega) (show rng 0 from ⟨by decide, by decide⟩) el1 dX11_fits_21 (fun σ_s_309 H locs hO hF9 hM9 ha9 hH hS => ?_)
    replace hM := hM.tu hM9 (by decide)
    replace hF := hF.tu hF9 (by decide)
    have e_312 : gI σ_s_309 a 51 = a510 := (hM9.i (by decide)).trans J_18_2
    have e_313 : gI σ_s_309 a 55 = 0 := (hM9.i (by decide)).trans J_18_3
    have e_314 : aF σ_s_309 (ad E a 1) = f1 := (hM9.a (by decide) (by decide)).trans J_18_4
    have e_315 : aF σ_s_309 (ad E a 8) = f8 := (hM9.a (by decide) (by decide)).trans J_18_5
    obtain ⟨g_316, dg_316⟩ : ∃ g9, g9 = upd f_310 (v2q17).toNat (I 0) := ⟨_, rfl⟩
    rw [← dg_316] at ha9
    have ef_317 := ha9
    refine lv_iinc (v := I (v2q17 + 1)) (lv' := [(2, .int (I (v2q17 + 1))), (0, .ref a), (1, .int (I 0))]) hx hb dX11_fits_22 hl (k := 2) rfl (I_add _ _) (by decide) rfl (fun ls hl => ?_)
    refine lv_goto (tgt := 9) hx hb dX11_fits_25 (by decide) ?_
    exact ihJ_18 (v2q17 + 1) σ_s_309 _ _ _ (by first | (dsimp only; omega) | omega) ⟨hO, hF, hM, hH, hS, lv_sub hl [1, 2, 0] rfl, ⟨by first | (dsimp only; omega) | omega, by first | (dsimp only; omega) | omega⟩, by first | (dsimp only; omega) | omega, by first | (dsimp only; omega) | omega, e_312, e_313, e_314, e_315⟩
