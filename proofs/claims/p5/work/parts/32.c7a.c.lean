set_option maxHeartbeats 4000000 in
set_option maxRecDepth 100000 in
theorem m_answersOf (l : Launch) (G : va_G) (y : Nat → ClassId) (b0 : Nat) (σ : th_M) (E : th_E) (hO : ok y E σ) (a : Nat) (h_a : kd E a = 13) (ks : Int) (rks : rng ks) (f1 : Nat → Int32) (ef1 : aF σ (ad E a 1) = f1) (hy0 : wf f1 0 (mS f1 0)) (hy1 : 1 ≤ mS f1 0 ∧ mS f1 0 ≤ 60) : Met l yX11_answersOf wsX11_answersOf ({ frames := 1, cells := 0, slots := 0, locals := 25 }) (th_P G y b0 σ [.ref a, .int (I ks)]) (th_Qi G b0 (fun r σ1 => σ1 = σ ∧ (0 ≤ r ∧ r ≤ 60))) 0 0 (th_A b0) := by
  refine Met.ofW (cc := cX11_answersOf) (maxL := 4) (ret := (some .int)) (by decide) rfl ?_
  intro p e s m args below meth c s₁ B hml hv
  obtain ⟨rfl, hH, hK⟩ := hv
  have hx := B.exec
  have hb := B.bytes
  have hr := B.returns
  have hts := atoms_spec (ws := wsX11_answersOf) B.pre
  have hown : s.vm.findClass RX11 = some m.cls := findClass_of_methodNamed B.named
  have hlocks := B.notSynchronized
  have h00 : b0 ≤ s.heap.size := hH.1
  have hS : va_S (th_A b0) s.heap s.heap [] := va_S.rf
  have inX11 : ∀ w ∈ wsX110, w ∈ wsX11_answersOf := by decide +kernel
  have fl0 := hts (.fieldLink RX11 35 "NestQueryModel" "set" "[Z") (by decide +kernel)
  have fl1 := hts (.fieldLink RX11 9 "NestQueryModel" "tree" "[I") (by decide +kernel)
  have hl := lv_entry ([.ref a, .int (I ks)]) (n := 4) (Nat.le_of_ble_eq_true rfl)
  rw [lg_entry_eq]
  generalize (lg_sl ([.ref a, .int (I ks)]) ++ List.replicate (4 - (lg_sl ([.ref a, .int (I ks)])).length) Slot.unset).toArray = ls at hl ⊢
  have hl : lv_has ls 4 [(0, .ref a), (1, .int (I ks))] := hl
  refine lv_iconst (v := I 0) hx hb dX11_answersOf_0 (by decide) ?_
  refine lv_istore_n (lv' := [(2, .int (I 0)), (0, .ref a), (1, .int (I ks))]) hx hb dX11_answersOf_1 rfl hl (by decide) rfl (fun ls hl => ?_)
  refine lv_iconst (v := I 0) hx hb dX11_answersOf_2 (by decide) ?_
  refine lv_istore_n (lv' := [(3, .int (I 0)), (2, .int (I 0)), (0, .ref a), (1, .int (I ks))]) hx hb dX11_answersOf_3 rfl hl (by decide) rfl (fun ls hl => ?_)
  refine th_loop (α := Int × Int) (pc := 4) (fun x9 => (mS f1 0 - x9.2).toNat) (fun x9 σ9 H9 l9 ls9 => σ9 = σ ∧ th_H G b0 σ9 H9 ∧ va_S (th_A b0) s.heap H9 l9 ∧ lv_has ls9 4 [(0, .ref a), (1, .int (I ks)), (2, .int (I x9.1)), (3, .int (I x9.2))] ∧ rng x9.1 ∧ rng x9.2 ∧ (0 ≤ x9.2) ∧ (x9.2 ≤ 60) ∧ (0 ≤ x9.1) ∧ (x9.1 ≤ x9.2)) ?_ (0, 0) σ _ _ _ ⟨rfl, hH, hS, lv_sub hl [2, 3, 1, 0] rfl, (show rng 0 from ⟨by decide, by decide⟩), (show rng 0 from ⟨by decide, by decide⟩), by first | (dsimp only; omega) | omega, by first | (dsimp only; omega) | omega, by first | (dsimp only; omega) | omega, by first | (dsimp only; omega) | omega⟩
  intro x9 σ_J_19 H locs ls hI9 ihJ_19
  obtain ⟨v2q18, v3q18⟩ := x9
  obtain ⟨eJ_19, hH, hS, hl, rv2q18, rv3q18, J_19_0, J_19_1, J_19_2, J_19_3⟩ := hI9
  replace eJ_19 := eJ_19.symm
  subst eJ_19
  have hl : lv_has ls 4 [(0, .ref a), (1, .int (I ks)), (2, .int (I v2q18)), (3, .int (I v3q18))] := hl
  have rv2q18 : rng v2q18 := rv2q18
  have rv3q18 : rng v3q18 := rv3q18
  have J_19_0 : 0 ≤ v3q18 := J_19_0
  have J_19_1 : v3q18 ≤ 60 := J_19_1
  have J_19_2 : 0 ≤ v2q18 := J_19_2
  have J_19_3 : v2q18 ≤ v3q18 := J_19_3
  refine lv_iload_n hx hb dX11_answersOf_4 rfl (lv_at hl 3 rfl) ?_
  refine lv_aload_n hx hb dX11_answersOf_5 rfl (lv_at hl 0 rfl) ?_
  obtain ⟨_, hc_20⟩ := hO.cell h_a (by decide) (ci := 11) rfl
  refine th_calli (va_runV (As := []) (rest := [.int (I v3q18)]) ⟨hx, hb, hml, hown, hts⟩ (m_things l G y b0 σ E hO a h_a f1 ef1) (cwV 0 hts gX11_answersOf_X11_things rfl rfl rfl (by decide +kernel) ⟨Nat.le_of_ble_eq_true rfl, Nat.le_of_ble_eq_true rfl⟩) (th_PV hK hH rfl hc_20) rfl rfl hl.1 rfl (lv_room (Nat.le_of_ble_eq_true rfl)) dX11_answersOf_6 ⟨Nat.le_of_ble_eq_true rfl, Nat.le_of_ble_eq_true rfl⟩) hS (fun z_23 σ_s_22 H locs rz_23 hw_21 hH hS => ?_)
  obtain ⟨e9, hw_21⟩ := hw_21
  replace e9 := e9.symm
  subst e9
  have hw_21 : z_23 = mS f1 0 := hw_21
  refine lv_icmp_ge (tgt := 51) hx hb dX11_answersOf_9 (by decide) (fun c_24 => ?_) (fun c_24 => ?_)
  · replace c_24 := (I_le (a := z_23) (b := v3q18) rz_23 rv3q18).mp c_24
    refine lv_iload_n hx hb dX11_answersOf_51 rfl (lv_at hl 2 rfl) ?_
    exact th_iret hx hb hr hlocks hH hS (z := v2q18) rv2q18 ⟨rfl, by omega⟩ dX11_answersOf_52
  · replace c_24 := mt (I_le (a := z_23) (b := v3q18) rz_23 rv3q18).mpr c_24
    refine lv_iload_n hx hb dX11_answersOf_12 rfl (lv_at hl 2 rfl) ?_
    refine lv_aload_n hx hb dX11_answersOf_13 rfl (lv_at hl 0 rfl) ?_
    refine ok.getR hO h_a (by decide) k13_23 (by decide) (fun _ _ he hv kk => th_get (ci := 11) (C := RX11) (T := TX11) (N := 66) hx hb hts inX11 hown hK hH he rfl 23 (by decide) fl0 hv dX11_answersOf_14 kk) ?_
    refine lv_iload_n hx hb dX11_answersOf_17 rfl (lv_at hl 3 rfl) ?_
    refine m_zald hx hb hK hH hO h_a k13_23 rv3q18 (by omega) (by omega) dX11_answersOf_18 (fun z_25 rz_25 uz_25 => ?_)
    refine lv_if_eq (tgt := 42) hx hb dX11_answersOf_19 (by decide) (fun c_26 => ?_) (fun c_26 => ?_)
    · replace c_26 := (I_eq (a := z_25) (b := 0) rz_25 (show rng 0 from ⟨by decide, by decide⟩)).mp c_26
      refine lv_iconst (v := I 0) hx hb dX11_answersOf_42 (by decide) ?_
      refine lv_iadd hx hb dX11_answersOf_43 ?_
      refine th_addo (fun z_27 rz_27 hz_27 => ?_)
      refine lv_istore_n (lv' := [(2, .int (I z_27)), (0, .ref a), (1, .int (I ks)), (3, .int (I v3q18))]) hx hb dX11_answersOf_44 rfl hl (by decide) rfl (fun ls hl => ?_)
      refine lv_iinc (v := I (v3q18 + 1)) (lv' := [(3, .int (I (v3q18 + 1))), (2, .int (I z_27)), (0, .ref a), (1, .int (I ks))]) hx hb dX11_answersOf_45 hl (k := 3) rfl (I_add _ _) (by decide) rfl (fun ls hl => ?_)
      refine lv_goto (tgt := 4) hx hb dX11_answersOf_48 (by decide) ?_
      exact ihJ_19 (z_27, v3q18 + 1) σ _ _ _ (by first | (dsimp only; omega) | omega) ⟨rfl, hH, hS, lv_sub hl [2, 3, 1, 0] rfl, rz_27, ⟨by first | (dsimp only; omega) | omega, by first | (dsimp only; omega) | omega⟩, by first | (dsimp only; omega) | omega, by first | (dsimp only; omega) | omega, by first | (dsimp only; omega) | omega, by first | (dsimp only; omega) | omega⟩
    · replace c_26 := mt (I_eq (a := z_25) (b := 0) rz_25 (show rng 0 from ⟨by decide, by decide⟩)).mpr c_26
      refine lv_iload_n hx hb dX11_answersOf_22 rfl (lv_at hl 1 rfl) ?_
      refine lv_aload_n hx hb dX11_answersOf_23 rfl (lv_at hl 0 rfl) ?_
      refine ok.getR hO h_a (by decide) k13_1 (by decide) (fun _ _ he hv kk => th_get (ci := 11) (C := RX11) (T := TX11) (N := 66) hx hb hts inX11 hown hK hH he rfl 1 (by decide) fl1 hv dX11_answersOf_24 kk) ?_
      refine lv_iload_n hx hb dX11_answersOf_27 rfl (lv_at hl 3 rfl) ?_
      refine th_calli (va_runS (As := [.ref (ad E a 1), .int (I v3q18)]) (rest := [.int (I ks), .int (I v2q18)]) ⟨hx, hb, hml, hown, hts⟩ (w_kind l G y b0 σ E hO (ad E a 1) 240 f1 (hO.roww h_a k13_1 isA1 ef1 rfl) v3q18 (show rng v3q18 from rv3q18) (by omega) (by omega) (by omega)) (va_cwS 2 hts gX11_answersOf_X11_kind rfl rfl rfl (by decide +kernel) ⟨Nat.le_of_ble_eq_true rfl, Nat.le_of_ble_eq_true rfl⟩) (th_PS hK hH) rfl rfl hl.1 rfl (lv_room (Nat.le_of_ble_eq_true rfl)) dX11_answersOf_28 ⟨Nat.le_of_ble_eq_true rfl, Nat.le_of_ble_eq_true rfl⟩) hS (fun z_30 σ_s_29 H locs rz_30 hw_28 hH hS => ?_)
      obtain ⟨e9, hw_28⟩ := hw_28
      replace e9 := e9.symm
      subst e9
      have hw_28 : z_30 = mK f1 v3q18 := hw_28
      refine lv_ishr hx hb dX11_answersOf_31 ?_
      refine th_topi (fun z_31 rz_31 => ?_)
      refine lv_iconst (v := I 1) hx hb dX11_answersOf_32 (by decide) ?_
      refine lv_iand hx hb dX11_answersOf_33 ?_
      refine th_and1 (fun z_32 rz_32 hz_32 => ?_)
      refine lv_iconst (v := I 1) hx hb dX11_answersOf_34 (by decide) ?_
      refine lv_icmp_ne (tgt := 42) hx hb dX11_answersOf_35 (by decide) (fun c_33 => ?_) (fun c_33 => ?_)
      · replace c_33 := mt (I_eq (a := z_32) (b := 1) rz_32 (show rng 1 from ⟨by decide, by decide⟩)).mpr c_33
        refine lv_iconst (v := I 0) hx hb dX11_answersOf_42 (by decide) ?_
        refine lv_iadd hx hb dX11_answersOf_43 ?_
        refine th_addo (fun z_34 rz_34 hz_34 => ?_)
        refine lv_istore_n (lv' := [(2, .int (I z_34)), (0, .ref a), (1, .int (I ks)), (3, .int (I v3q18))]) hx hb dX11_answersOf_44 rfl hl (by decide) rfl (fun ls hl => ?_)
        refine lv_iinc (v := I (v3q18 + 1)) (lv' := [(3, .int (I (v3q18 + 1))), (2, .int (I z_34)), (0, .ref a), (1, .int (I ks))]) hx hb dX11_answersOf_45 hl (k := 3) rfl (I_add _ _) (by decide) rfl (fun ls hl => ?_)
        refine lv_goto (tgt := 4) hx hb dX11_answersOf_48 (by decide) ?_
        exact ihJ_19 (z_34, v3q18 + 1) σ _ _ _ (by first | (dsimp only; omega) | omega) ⟨rfl, hH, hS, lv_sub hl [2, 3, 1, 0] rfl, rz_34, ⟨by first | (dsimp only; omega) | omega, by first | (dsimp only; omega) | omega⟩, by first | (dsimp only; omega) | omega, by first | (dsimp only; omega) | omega, by first | (dsimp only; omega) | omega, by first | (dsimp only; omega) | omega⟩
      · replace c_33 := (I_eq (a := z_32) (b := 1) rz_32 (show rng 1 from ⟨by decide, by decide⟩)).mp c_33
        refine lv_iconst (v := I 1) hx hb dX11_answersOf_38 (by decide) ?_
        refine lv_goto (tgt := 43) hx hb dX11_answersOf_39 (by decide) ?_
        refine lv_iadd hx hb dX11_answersOf_43 ?_
        refine th_addo (fun z_35 rz_35 hz_35 => ?_)
        refine lv_istore_n (lv' := [(2, .int (I z_35)), (0, .ref a), (1, .int (I ks)), (3, .int (I v3q18))]) hx hb dX11_answersOf_44 rfl hl (by decide) rfl (fun ls hl => ?_)
        refine lv_iinc (v := I (v3q18 + 1)) (lv' := [(3, .int (I (v3q18 + 1))), (2, .int (I z_35)), (0, .ref a), (1, .int (I ks))]) hx hb dX11_answersOf_45 hl (k := 3) rfl (I_add _ _) (by decide) rfl (fun ls hl => ?_)
        refine lv_goto (tgt := 4) hx hb dX11_answersOf_48 (by decide) ?_
        exact ihJ_19 (z_35, v3q18 + 1) σ _ _ _ (by first | (dsimp only; omega) | omega) ⟨rfl, hH, hS, lv_sub hl [2, 3, 1, 0] rfl, rz_35, ⟨by first | (dsimp only; omega) | omega, by first | (dsimp only; omega) | omega⟩, by first | (dsimp only; omega) | omega, by first | (dsimp only; omega) | omega, by first | (dsimp only; omega) | omega, by first | (dsimp only; omega) | omega⟩

set_option maxHeartbeats 4000000 in
set_option maxRecDepth 100000 in
theorem m_outermost (l : Launch) (G : va_G) (y : Nat → ClassId) (b0 : Nat) (σ : th_M) (E : th_E) (hO : ok y E σ) (a : Nat) (h_a : kd E a = 13) (f1 : Nat → Int32) (ef1 : aF σ (ad E a 1) = f1) (hy0 : wf f1 0 (mS f1 0)) (hy1 : 1 ≤ mS f1 0 ∧ mS f1 0 ≤ 60) : Met l yX11_outermost wsX11_outermost ({ frames := 1, cells := 0, slots := 0, locals := 25 }) (th_P G y b0 σ [.ref a]) (th_Qi G b0 (fun r σ1 => σ1 = σ ∧ (0 ≤ r ∧ r ≤ 60))) 0 0 (th_A b0) := by
  refine Met.ofW (cc := cX11_outermost) (maxL := 3) (ret := (some .int)) (by decide) rfl ?_
  intro p e s m args below meth c s₁ B hml hv
  obtain ⟨rfl, hH, hK⟩ := hv
  have hx := B.exec
  have hb := B.bytes
  have hr := B.returns
  have hts := atoms_spec (ws := wsX11_outermost) B.pre
  have hown : s.vm.findClass RX11 = some m.cls := findClass_of_methodNamed B.named
  have hlocks := B.notSynchronized
  have h00 : b0 ≤ s.heap.size := hH.1
  have hS : va_S (th_A b0) s.heap s.heap [] := va_S.rf
  have inX11 : ∀ w ∈ wsX110, w ∈ wsX11_outermost := by decide +kernel
  have fl0 := hts (.fieldLink RX11 35 "NestQueryModel" "set" "[Z") (by decide +kernel)
  have fl1 := hts (.fieldLink RX11 9 "NestQueryModel" "tree" "[I") (by decide +kernel)
  have hl := lv_entry ([.ref a]) (n := 3) (Nat.le_of_ble_eq_true rfl)
  rw [lg_entry_eq]
  generalize (lg_sl ([.ref a]) ++ List.replicate (3 - (lg_sl ([.ref a])).length) Slot.unset).toArray = ls at hl ⊢
  have hl : lv_has ls 3 [(0, .ref a)] := hl
  refine lv_iconst (v := I 0) hx hb dX11_outermost_0 (by decide) ?_
  refine lv_istore_n (lv' := [(1, .int (I 0)), (0, .ref a)]) hx hb dX11_outermost_1 rfl hl (by decide) rfl (fun ls hl => ?_)
  refine lv_iconst (v := I 0) hx hb dX11_outermost_2 (by decide) ?_
  refine lv_istore_n (lv' := [(2, .int (I 0)), (1, .int (I 0)), (0, .ref a)]) hx hb dX11_outermost_3 rfl hl (by decide) rfl (fun ls hl => ?_)
  refine th_loop (α := Int × Int) (pc := 4) (fun x9 => (mS f1 0 - x9.2).toNat) (fun x9 σ9 H9 l9 ls9 => σ9 = σ ∧ th_H G b0 σ9 H9 ∧ va_S (th_A b0) s.heap H9 l9 ∧ lv_has ls9 3 [(0, .ref a), (1, .int (I x9.1)), (2, .int (I x9.2))] ∧ rng x9.1 ∧ rng x9.2 ∧ (0 ≤ x9.2) ∧ (x9.2 ≤ mS f1 0) ∧ (x9.2 ≤ 60) ∧ (0 ≤ x9.1) ∧ (x9.1 ≤ x9.2)) ?_ (0, 0) σ _ _ _ ⟨rfl, hH, hS, lv_sub hl [2, 1, 0] rfl, (show rng 0 from ⟨by decide, by decide⟩), (show rng 0 from ⟨by decide, by decide⟩), by first | (dsimp only; omega) | omega, by first | (dsimp only; omega) | omega, by first | (dsimp only; omega) | omega, by first | (dsimp only; omega) | omega, by first | (dsimp only; omega) | omega⟩
  intro x9 σ_J_20 H locs ls hI9 ihJ_20
  obtain ⟨v1q19, v2q19⟩ := x9
  obtain ⟨eJ_20, hH, hS, hl, rv1q19, rv2q19, J_20_0, J_20_1, J_20_2, J_20_3, J_20_4⟩ := hI9
  replace eJ_20 := eJ_20.symm
  subst eJ_20
  have hl : lv_has ls 3 [(0, .ref a), (1, .int (I v1q19)), (2, .int (I v2q19))] := hl
  have rv1q19 : rng v1q19 := rv1q19
  have rv2q19 : rng v2q19 := rv2q19
  have J_20_0 : 0 ≤ v2q19 := J_20_0
  have J_20_1 : v2q19 ≤ mS f1 0 := J_20_1
  have J_20_2 : v2q19 ≤ 60 := J_20_2
  have J_20_3 : 0 ≤ v1q19 := J_20_3
  have J_20_4 : v1q19 ≤ v2q19 := J_20_4
  refine lv_iload_n hx hb dX11_outermost_4 rfl (lv_at hl 2 rfl) ?_
  refine lv_aload_n hx hb dX11_outermost_5 rfl (lv_at hl 0 rfl) ?_
  obtain ⟨_, hc_21⟩ := hO.cell h_a (by decide) (ci := 11) rfl
  refine th_calli (va_runV (As := []) (rest := [.int (I v2q19)]) ⟨hx, hb, hml, hown, hts⟩ (m_things l G y b0 σ E hO a h_a f1 ef1) (cwV 0 hts gX11_outermost_X11_things rfl rfl rfl (by decide +kernel) ⟨Nat.le_of_ble_eq_true rfl, Nat.le_of_ble_eq_true rfl⟩) (th_PV hK hH rfl hc_21) rfl rfl hl.1 rfl (lv_room (Nat.le_of_ble_eq_true rfl)) dX11_outermost_6 ⟨Nat.le_of_ble_eq_true rfl, Nat.le_of_ble_eq_true rfl⟩) hS (fun z_24 σ_s_23 H locs rz_24 hw_22 hH hS => ?_)
  obtain ⟨e9, hw_22⟩ := hw_22
  replace e9 := e9.symm
  subst e9
  have hw_22 : z_24 = mS f1 0 := hw_22
  refine lv_icmp_ge (tgt := 56) hx hb dX11_outermost_9 (by decide) (fun c_25 => ?_) (fun c_25 => ?_)
  · replace c_25 := (I_le (a := z_24) (b := v2q19) rz_24 rv2q19).mp c_25
    refine lv_iload_n hx hb dX11_outermost_56 rfl (lv_at hl 1 rfl) ?_
    exact th_iret hx hb hr hlocks hH hS (z := v1q19) rv1q19 ⟨rfl, by omega⟩ dX11_outermost_57
  · replace c_25 := mt (I_le (a := z_24) (b := v2q19) rz_24 rv2q19).mpr c_25
    have hk9 := hy0 v2q19 (by omega) (by omega)
    refine lv_iload_n hx hb dX11_outermost_12 rfl (lv_at hl 1 rfl) ?_
    refine lv_aload_n hx hb dX11_outermost_13 rfl (lv_at hl 0 rfl) ?_
    refine ok.getR hO h_a (by decide) k13_23 (by decide) (fun _ _ he hv kk => th_get (ci := 11) (C := RX11) (T := TX11) (N := 66) hx hb hts inX11 hown hK hH he rfl 23 (by decide) fl0 hv dX11_outermost_14 kk) ?_
    refine lv_iload_n hx hb dX11_outermost_17 rfl (lv_at hl 2 rfl) ?_
    refine m_zald hx hb hK hH hO h_a k13_23 rv2q19 (by omega) (by omega) dX11_outermost_18 (fun z_26 rz_26 uz_26 => ?_)
    refine th_join (α := Int) (J := 27) (stk := fun x9 => [.int (I x9), .int (I v1q19)]) (fun x9 σ9 H9 l9 ls9 => σ9 = σ ∧ th_H G b0 σ9 H9 ∧ va_S (th_A b0) s.heap H9 l9 ∧ lv_has ls9 3 [(0, .ref a), (2, .int (I v2q19))] ∧ rng x9 ∧ (x9 = 0 ∨ x9 = 1)) ?_ (fun jK_29 => ?_)
    · intro x9 σ_K_29 H locs ls hI9
      obtain ⟨w0q28, ex9⟩ : ∃ z, z = x9 := ⟨_, rfl⟩
      subst ex9
      obtain ⟨eK_29, hH, hS, hl, rw0q28, K_29_0⟩ := hI9
      replace eK_29 := eK_29.symm
      subst eK_29
      have hl : lv_has ls 3 [(0, .ref a), (2, .int (I v2q19))] := hl
      have rw0q28 : rng w0q28 := rw0q28
      have K_29_0 : w0q28 = 0 ∨ w0q28 = 1 := K_29_0
      refine lv_iadd hx hb dX11_outermost_27 ?_
      refine th_addo (fun z_30 rz_30 hz_30 => ?_)
      refine lv_istore_n (lv' := [(1, .int (I z_30)), (0, .ref a), (2, .int (I v2q19))]) hx hb dX11_outermost_28 rfl hl (by decide) rfl (fun ls hl => ?_)
      refine lv_iload_n hx hb dX11_outermost_29 rfl (lv_at hl 2 rfl) ?_
      refine lv_aload_n hx hb dX11_outermost_30 rfl (lv_at hl 1 rfl) ?_
      refine ok.getR hO h_a (by decide) k13_23 (by decide) (fun _ _ he hv kk => th_get (ci := 11) (C := RX11) (T := TX11) (N := 66) hx hb hts inX11 hown hK hH he rfl 23 (by decide) fl0 hv dX11_outermost_31 kk) ?_
      refine lv_iload_n hx hb dX11_outermost_34 rfl (lv_at hl 2 rfl) ?_
      refine m_zald hx hb hK hH hO h_a k13_23 rv2q19 (by omega) (by omega) dX11_outermost_35 (fun z_31 rz_31 uz_31 => ?_)
      refine lv_if_eq (tgt := 50) hx hb dX11_outermost_36 (by decide) (fun c_32 => ?_) (fun c_32 => ?_)
      · replace c_32 := (I_eq (a := z_31) (b := 0) rz_31 (show rng 0 from ⟨by decide, by decide⟩)).mp c_32
        refine lv_iconst (v := I 1) hx hb dX11_outermost_50 (by decide) ?_
        refine lv_iadd hx hb dX11_outermost_51 ?_
        refine nq_top (I_add _ _) ?_
        refine lv_istore_n (lv' := [(2, .int (I (v2q19 + 1))), (1, .int (I z_30)), (0, .ref a)]) hx hb dX11_outermost_52 rfl hl (by decide) rfl (fun ls hl => ?_)
        refine lv_goto (tgt := 4) hx hb dX11_outermost_53 (by decide) ?_
        exact ihJ_20 (z_30, v2q19 + 1) σ _ _ _ (by first | (dsimp only; omega) | omega) ⟨rfl, hH, hS, lv_sub hl [2, 1, 0] rfl, rz_30, ⟨by first | (dsimp only; omega) | omega, by first | (dsimp only; omega) | omega⟩, by first | (dsimp only; omega) | omega, by first | (dsimp only; omega) | omega, by first | (dsimp only; omega) | omega, by first | (dsimp only; omega) | omega, by first | (dsimp only; omega) | omega⟩
      · replace c_32 := mt (I_eq (a := z_31) (b := 0) rz_31 (show rng 0 from ⟨by decide, by decide⟩)).mpr c_32
        refine lv_aload_n hx hb dX11_outermost_39 rfl (lv_at hl 1 rfl) ?_
        refine ok.getR hO h_a (by decide) k13_1 (by decide) (fun _ _ he hv kk => th_get (ci := 11) (C := RX11) (T := TX11) (N := 66) hx hb hts inX11 hown hK hH he rfl 1 (by decide) fl1 hv dX11_outermost_40 kk) ?_
        refine lv_iload_n hx hb dX11_outermost_43 rfl (lv_at hl 2 rfl) ?_
        refine th_calli (va_runS (As := [.ref (ad E a 1), .int (I v2q19)]) (rest := [.int (I v2q19)]) ⟨hx, hb, hml, hown, hts⟩ (w_size l G y b0 σ E hO (ad E a 1) 240 f1 (hO.roww h_a k13_1 isA1 ef1 rfl) v2q19 (show rng v2q19 from rv2q19) (by omega) (by omega) (by omega)) (va_cwS 2 hts gX11_outermost_X11_size rfl rfl rfl (by decide +kernel) ⟨Nat.le_of_ble_eq_true rfl, Nat.le_of_ble_eq_true rfl⟩) (th_PS hK hH) rfl rfl hl.1 rfl (lv_room (Nat.le_of_ble_eq_true rfl)) dX11_outermost_44 ⟨Nat.le_of_ble_eq_true rfl, Nat.le_of_ble_eq_true rfl⟩) hS (fun z_35 σ_s_34 H locs rz_35 hw_33 hH hS => ?_)
        obtain ⟨e9, hw_33⟩ := hw_33
        replace e9 := e9.symm
        subst e9
        have hw_33 : z_35 = mS f1 v2q19 := hw_33
        refine lv_goto (tgt := 51) hx hb dX11_outermost_47 (by decide) ?_
        refine lv_iadd hx hb dX11_outermost_51 ?_
        refine th_addo (fun z_36 rz_36 hz_36 => ?_)
        refine lv_istore_n (lv' := [(2, .int (I z_36)), (1, .int (I z_30)), (0, .ref a)]) hx hb dX11_outermost_52 rfl hl (by decide) rfl (fun ls hl => ?_)
        refine lv_goto (tgt := 4) hx hb dX11_outermost_53 (by decide) ?_
        exact ihJ_20 (z_30, z_36) σ _ _ _ (by first | (dsimp only; omega) | omega) ⟨rfl, hH, hS, lv_sub hl [2, 1, 0] rfl, rz_30, rz_36, by first | (dsimp only; omega) | omega, by first | (dsimp only; omega) | omega, by first | (dsimp only; omega) | omega, by first | (dsimp only; omega) | omega, by first | (dsimp only; omega) | omega⟩
    · refine lv_if_eq (tgt := 26) hx hb dX11_outermost_19 (by decide) (fun c_37 => ?_) (fun c_37 => ?_)
      · replace c_37 := (I_eq (a := z_26) (b := 0) rz_26 (show rng 0 from ⟨by decide, by decide⟩)).mp c_37
        refine lv_iconst (v := I 0) hx hb dX11_outermost_26 (by decide) ?_
        replace hl : lv_has ls 3 [(0, .ref a), (2, .int (I v2q19))] := lv_sub hl [0, 2] rfl
        exact jK_29 (0) σ _ _ _ ⟨rfl, hH, hS, lv_sub hl [0, 1] rfl, (show rng 0 from ⟨by decide, by decide⟩), by first | (dsimp only; omega) | omega⟩
      · replace c_37 := mt (I_eq (a := z_26) (b := 0) rz_26 (show rng 0 from ⟨by decide, by decide⟩)).mpr c_37
        refine lv_iconst (v := I 1) hx hb dX11_outermost_22 (by decide) ?_
        refine lv_goto (tgt := 27) hx hb dX11_outermost_23 (by decide) ?_
        replace hl : lv_has ls 3 [(0, .ref a), (2, .int (I v2q19))] := lv_sub hl [0, 2] rfl
        exact jK_29 (1) σ _ _ _ ⟨rfl, hH, hS, lv_sub hl [0, 1] rfl, (show rng 1 from ⟨by decide, by decide⟩), by first | (dsimp only; omega) | omega⟩

set_option maxHeartbeats 4000000 in
set_option maxRecDepth 100000 in
theorem w_isKey (l : Launch) (G : va_G) (y : Nat → ClassId) (b0 : Nat) (σ : th_M) (E : th_E) (hO : ok y E σ) (ky : Int) (rky : rng ky) : Met l yX11_isKey wsX11_isKey ({ frames := 1, cells := 0, slots := 0, locals := 26 }) (th_P G y b0 σ [.int (I ky)]) (th_Qi G b0 (fun r σ1 => σ1 = σ ∧ (0 ≤ r ∧ r ≤ 1) ∧ (True))) 0 0 (th_A b0) := by
  refine Met.ofW (cc := cX11_isKey) (maxL := 3) (ret := (some .boolean)) (by decide) rfl ?_
  intro p e s m args below meth c s₁ B hml hv
  obtain ⟨rfl, hH, hK⟩ := hv
  have hx := B.exec
  have hb := B.bytes
  have hr := B.returns
  have hts := atoms_spec (ws := wsX11_isKey) B.pre
  have hown : s.vm.findClass RX11 = some m.cls := findClass_of_methodNamed B.named
  have hlocks := B.notSynchronized
  have h00 : b0 ≤ s.heap.size := hH.1
  have hS : va_S (th_A b0) s.heap s.heap [] := va_S.rf
  have hl := lv_entry ([.int (I ky)]) (n := 3) (Nat.le_of_ble_eq_true rfl)
  rw [lg_entry_eq]
  generalize (lg_sl ([.int (I ky)]) ++ List.replicate (3 - (lg_sl ([.int (I ky)])).length) Slot.unset).toArray = ls at hl ⊢
  have hl : lv_has ls 3 [(0, .int (I ky))] := hl
  refine lv_iload_n hx hb dX11_isKey_0 rfl (lv_at hl 0 rfl) ?_
  refine th_join (α := Unit) (J := 17) (stk := fun x9 => []) (fun x9 σ9 H9 l9 ls9 => σ9 = σ ∧ th_H G b0 σ9 H9 ∧ va_S (th_A b0) s.heap H9 l9 ∧ lv_has ls9 3 [(0, .int (I ky))]) ?_ (fun jK_29 => ?_)
  · intro x9 σ_K_29 H locs ls hI9
    obtain ⟨eK_29, hH, hS, hl⟩ := hI9
    replace eK_29 := eK_29.symm
    subst eK_29
    have hl : lv_has ls 3 [(0, .int (I ky))] := hl
    refine lv_iconst (v := I 0) hx hb dX11_isKey_17 (by decide) ?_
    refine lv_istore_n (lv' := [(1, .int (I 0)), (0, .int (I ky))]) hx hb dX11_isKey_18 rfl hl (by decide) rfl (fun ls hl => ?_)
    refine lv_iload_n hx hb dX11_isKey_19 rfl (lv_at hl 1 rfl) ?_
    refine lv_istore_n (lv' := [(2, .int (I ky)), (1, .int (I 0)), (0, .int (I ky))]) hx hb dX11_isKey_20 rfl hl (by decide) rfl (fun ls hl => ?_)
    replace hl : lv_has ls 3 [(2, .int (I ky)), (1, .int (I 0))] := lv_sub hl [0, 1] rfl
    refine th_loop (α := Int × Int) (pc := 21) (fun x9 => (x9.2).toNat) (fun x9 σ9 H9 l9 ls9 => σ9 = σ ∧ th_H G b0 σ9 H9 ∧ va_S (th_A b0) s.heap H9 l9 ∧ lv_has ls9 3 [(1, .int (I x9.1)), (2, .int (I x9.2))] ∧ rng x9.1 ∧ rng x9.2 ∧ (0 ≤ x9.1) ∧ (x9.1 ≤ 1)) ?_ (0, ky) σ _ _ _ ⟨rfl, hH, hS, lv_sub hl [1, 0] rfl, (show rng 0 from ⟨by decide, by decide⟩), rky, by first | (dsimp only; omega) | omega, by first | (dsimp only; omega) | omega⟩
    intro x9 σ_J_31 H locs ls hI9 ihJ_31
    obtain ⟨v1q30, v2q30⟩ := x9
    obtain ⟨eJ_31, hH, hS, hl, rv1q30, rv2q30, J_31_0, J_31_1⟩ := hI9
    replace eJ_31 := eJ_31.symm
    subst eJ_31
    have hl : lv_has ls 3 [(1, .int (I v1q30)), (2, .int (I v2q30))] := hl
    have rv1q30 : rng v1q30 := rv1q30
    have rv2q30 : rng v2q30 := rv2q30
    have J_31_0 : 0 ≤ v1q30 := J_31_0
    have J_31_1 : v1q30 ≤ 1 := J_31_1
    refine lv_iload_n hx hb dX11_isKey_21 rfl (lv_at hl 1 rfl) ?_
    refine lv_if_le (tgt := 48) hx hb dX11_isKey_22 (by decide) (fun c_32 => ?_) (fun c_32 => ?_)
    · replace c_32 := (I_le (a := v2q30) (b := 0) rv2q30 (show rng 0 from ⟨by decide, by decide⟩)).mp c_32
      refine lv_iload_n hx hb dX11_isKey_48 rfl (lv_at hl 0 rfl) ?_
      exact th_zret hx hb hr hlocks hH hS (z := v1q30) (by omega) ⟨rfl, ⟨by omega, by omega⟩, trivial⟩ dX11_isKey_49
    · replace c_32 := mt (I_le (a := v2q30) (b := 0) rv2q30 (show rng 0 from ⟨by decide, by decide⟩)).mpr c_32
      refine lv_iload_n hx hb dX11_isKey_25 rfl (lv_at hl 0 rfl) ?_
      refine lv_if_eq (tgt := 48) hx hb dX11_isKey_26 (by decide) (fun c_33 => ?_) (fun c_33 => ?_)
      · replace c_33 := (I_eq (a := v1q30) (b := 0) rv1q30 (show rng 0 from ⟨by decide, by decide⟩)).mp c_33
        refine lv_iload_n hx hb dX11_isKey_48 rfl (lv_at hl 0 rfl) ?_
        exact th_zret hx hb hr hlocks hH hS (z := v1q30) (by omega) ⟨rfl, ⟨by omega, by omega⟩, trivial⟩ dX11_isKey_49
      · replace c_33 := mt (I_eq (a := v1q30) (b := 0) rv1q30 (show rng 0 from ⟨by decide, by decide⟩)).mpr c_33
        refine lv_iload_n hx hb dX11_isKey_29 rfl (lv_at hl 1 rfl) ?_
        refine lv_bipush (v := I 32) hx hb dX11_isKey_30 (by decide) ?_
        refine lv_irem hx hb dX11_isKey_32 (by decide) ?_
        refine th_topi (fun z_34 rz_34 => ?_)
        refine lv_iconst (v := I 1) hx hb dX11_isKey_33 (by decide) ?_
        refine lv_bipush (v := I 26) hx hb dX11_isKey_34 (by decide) ?_
        refine th_calli (va_runS (As := [.int (I z_34), .int (I 1), .int (I 26)]) (rest := []) ⟨hx, hb, hml, hown, hts⟩ (w_isIn l G y b0 σ E hO z_34 (show rng z_34 from rz_34) 1 (show rng 1 from (show rng 1 from ⟨by decide, by decide⟩)) 26 (show rng 26 from (show rng 26 from ⟨by decide, by decide⟩))) (va_cwS 3 hts gX11_isKey_X11_isIn rfl rfl rfl (by decide +kernel) ⟨Nat.le_of_ble_eq_true rfl, Nat.le_of_ble_eq_true rfl⟩) (th_PS hK hH) rfl rfl hl.1 rfl (lv_room (Nat.le_of_ble_eq_true rfl)) dX11_isKey_36 ⟨Nat.le_of_ble_eq_true rfl, Nat.le_of_ble_eq_true rfl⟩) hS (fun z_37 σ_s_36 H locs rz_37 hw_35 hH hS => ?_)
        obtain ⟨e9, bhw_35, hw_35⟩ := hw_35
        replace e9 := e9.symm
        subst e9
        have hw_35 : (z_37 = 1 ∧ 1 ≤ z_34 ∧ z_34 ≤ 26) ∨ (z_37 = 0 ∧ ¬ (1 ≤ z_34 ∧ z_34 ≤ 26)) := hw_35
        refine lv_istore_n (lv' := [(1, .int (I z_37)), (2, .int (I v2q30))]) hx hb dX11_isKey_39 rfl hl (by decide) rfl (fun ls hl => ?_)
        refine lv_iload_n hx hb dX11_isKey_40 rfl (lv_at hl 1 rfl) ?_
        refine lv_bipush (v := I 32) hx hb dX11_isKey_41 (by decide) ?_
        refine lv_idiv hx hb dX11_isKey_43 (by decide) ?_
        refine th_div (n := 32) rv2q30 (by omega) (by decide) (fun z_38 rz_38 hz_38 => ?_)
        refine lv_istore_n (lv' := [(2, .int (I z_38)), (1, .int (I z_37))]) hx hb dX11_isKey_44 rfl hl (by decide) rfl (fun ls hl => ?_)
        refine lv_goto (tgt := 21) hx hb dX11_isKey_45 (by decide) ?_
        exact ihJ_31 (z_37, z_38) σ _ _ _ (by first | (dsimp only; omega) | omega) ⟨rfl, hH, hS, lv_sub hl [1, 0] rfl, rz_37, rz_38, by first | (dsimp only; omega) | omega, by first | (dsimp only; omega) | omega⟩
  · refine lv_if_le (tgt := 17) hx hb dX11_isKey_1 (by decide) (fun c_44 => ?_) (fun c_44 => ?_)
    · replace c_44 := (I_le (a := ky) (b := 0) rky (show rng 0 from ⟨by decide, by decide⟩)).mp c_44
      exact jK_29 () σ _ _ _ ⟨rfl, hH, hS, lv_sub hl [0] rfl⟩
    · replace c_44 := mt (I_le (a := ky) (b := 0) rky (show rng 0 from ⟨by decide, by decide⟩)).mpr c_44
      refine lv_iload_n hx hb dX11_isKey_4 rfl (lv_at hl 0 rfl) ?_
      refine th_calli (va_runS (As := [.int (I ky)]) (rest := []) ⟨hx, hb, hml, hown, hts⟩ (w_lettersOf l G y b0 σ E hO ky (show rng ky from rky)) (va_cwS 1 hts gX11_isKey_X11_lettersOf rfl rfl rfl (by decide +kernel) ⟨Nat.le_of_ble_eq_true rfl, Nat.le_of_ble_eq_true rfl⟩) (th_PS hK hH) rfl rfl hl.1 rfl (lv_room (Nat.le_of_ble_eq_true rfl)) dX11_isKey_5 ⟨Nat.le_of_ble_eq_true rfl, Nat.le_of_ble_eq_true rfl⟩) hS (fun z_47 σ_s_46 H locs rz_47 hw_45 hH hS => ?_)
      obtain ⟨e9, hw_45⟩ := hw_45
      replace e9 := e9.symm
      subst e9
      have hw_45 : 0 ≤ z_47 ∧ z_47 ≤ 7 := hw_45
      refine lv_bipush (v := I 6) hx hb dX11_isKey_8 (by decide) ?_
      refine lv_icmp_gt (tgt := 17) hx hb dX11_isKey_10 (by decide) (fun c_48 => ?_) (fun c_48 => ?_)
      · replace c_48 := (I_lt (a := 6) (b := z_47) (show rng 6 from ⟨by decide, by decide⟩) rz_47).mp c_48
        exact jK_29 () σ _ _ _ ⟨rfl, hH, hS, lv_sub hl [0] rfl⟩
      · replace c_48 := mt (I_lt (a := 6) (b := z_47) (show rng 6 from ⟨by decide, by decide⟩) rz_47).mpr c_48
        refine lv_iconst (v := I 1) hx hb dX11_isKey_13 (by decide) ?_
        refine lv_goto (tgt := 18) hx hb dX11_isKey_14 (by decide) ?_
        refine lv_istore_n (lv' := [(1, .int (I 1)), (0, .int (I ky))]) hx hb dX11_isKey_18 rfl hl (by decide) rfl (fun ls hl => ?_)
        refine lv_iload_n hx hb dX11_isKey_19 rfl (lv_at hl 1 rfl) ?_
        refine lv_istore_n (lv' := [(2, .int (I ky)), (1, .int (I 1)), (0, .int (I ky))]) hx hb dX11_isKey_20 rfl hl (by decide) rfl (fun ls hl => ?_)
        replace hl : lv_has ls 3 [(2, .int (I ky)), (1, .int (I 1))] := lv_sub hl [0, 1] rfl
        refine th_loop (α := Int × Int) (pc := 21) (fun x9 => (x9.2).toNat) (fun x9 σ9 H9 l9 ls9 => σ9 = σ ∧ th_H G b0 σ9 H9 ∧ va_S (th_A b0) s.heap H9 l9 ∧ lv_has ls9 3 [(1, .int (I x9.1)), (2, .int (I x9.2))] ∧ rng x9.1 ∧ rng x9.2 ∧ (0 ≤ x9.1) ∧ (x9.1 ≤ 1)) ?_ (1, ky) σ _ _ _ ⟨rfl, hH, hS, lv_sub hl [1, 0] rfl, (show rng 1 from ⟨by decide, by decide⟩), rky, by first | (dsimp only; omega) | omega, by first | (dsimp only; omega) | omega⟩
        intro x9 σ_J_50 H locs ls hI9 ihJ_50
        obtain ⟨v1q49, v2q49⟩ := x9
        obtain ⟨eJ_50, hH, hS, hl, rv1q49, rv2q49, J_50_0, J_50_1⟩ := hI9
        replace eJ_50 := eJ_50.symm
        subst eJ_50
        have hl : lv_has ls 3 [(1, .int (I v1q49)), (2, .int (I v2q49))] := hl
        have rv1q49 : rng v1q49 := rv1q49
        have rv2q49 : rng v2q49 := rv2q49
        have J_50_0 : 0 ≤ v1q49 := J_50_0
        have J_50_1 : v1q49 ≤ 1 := J_50_1
        refine lv_iload_n hx hb dX11_isKey_21 rfl (lv_at hl 1 rfl) ?_
        refine lv_if_le (tgt := 48) hx hb dX11_isKey_22 (by decide) (fun c_51 => ?_) (fun c_51 => ?_)
        · replace c_51 := (I_le (a := v2q49) (b := 0) rv2q49 (show rng 0 from ⟨by decide, by decide⟩)).mp c_51
          refine lv_iload_n hx hb dX11_isKey_48 rfl (lv_at hl 0 rfl) ?_
          exact th_zret hx hb hr hlocks hH hS (z := v1q49) (by omega) ⟨rfl, ⟨by omega, by omega⟩, trivial⟩ dX11_isKey_49
        · replace c_51 := mt (I_le (a := v2q49) (b := 0) rv2q49 (show rng 0 from ⟨by decide, by decide⟩)).mpr c_51
          refine lv_iload_n hx hb dX11_isKey_25 rfl (lv_at hl 0 rfl) ?_
          refine lv_if_eq (tgt := 48) hx hb dX11_isKey_26 (by decide) (fun c_52 => ?_) (fun c_52 => ?_)
          · replace c_52 := (I_eq (a := v1q49) (b := 0) rv1q49 (show rng 0 from ⟨by decide, by decide⟩)).mp c_52
            refine lv_iload_n hx hb dX11_isKey_48 rfl (lv_at hl 0 rfl) ?_
            exact th_zret hx hb hr hlocks hH hS (z := v1q49) (by omega) ⟨rfl, ⟨by omega, by omega⟩, trivial⟩ dX11_isKey_49
          · replace c_52 := mt (I_eq (a := v1q49) (b := 0) rv1q49 (show rng 0 from ⟨by decide, by decide⟩)).mpr c_52
            refine lv_iload_n hx hb dX11_isKey_29 rfl (lv_at hl 1 rfl) ?_
            refine lv_bipush (v := I 32) hx hb dX11_isKey_30 (by decide) ?_
            refine lv_irem hx hb dX11_isKey_32 (by decide) ?_
            refine th_topi (fun z_53 rz_53 => ?_)
            refine lv_iconst (v := I 1) hx hb dX11_isKey_33 (by decide) ?_
            refine lv_bipush (v := I 26) hx hb dX11_isKey_34 (by decide) ?_
            refine th_calli (va_runS (As := [.int (I z_53), .int (I 1), .int (I 26)]) (rest := []) ⟨hx, hb, hml, hown, hts⟩ (w_isIn l G y b0 σ E hO z_53 (show rng z_53 from rz_53) 1 (show rng 1 from (show rng 1 from ⟨by decide, by decide⟩)) 26 (show rng 26 from (show rng 26 from ⟨by decide, by decide⟩))) (va_cwS 3 hts gX11_isKey_X11_isIn rfl rfl rfl (by decide +kernel) ⟨Nat.le_of_ble_eq_true rfl, Nat.le_of_ble_eq_true rfl⟩) (th_PS hK hH) rfl rfl hl.1 rfl (lv_room (Nat.le_of_ble_eq_true rfl)) dX11_isKey_36 ⟨Nat.le_of_ble_eq_true rfl, Nat.le_of_ble_eq_true rfl⟩) hS (fun z_56 σ_s_55 H locs rz_56 hw_54 hH hS => ?_)
            obtain ⟨e9, bhw_54, hw_54⟩ := hw_54
            replace e9 := e9.symm
            subst e9
            have hw_54 : (z_56 = 1 ∧ 1 ≤ z_53 ∧ z_53 ≤ 26) ∨ (z_56 = 0 ∧ ¬ (1 ≤ z_53 ∧ z_53 ≤ 26)) := hw_54
            refine lv_istore_n (lv' := [(1, .int (I z_56)), (2, .int (I v2q49))]) hx hb dX11_isKey_39 rfl hl (by decide) rfl (fun ls hl => ?_)
            refine lv_iload_n hx hb dX11_isKey_40 rfl (lv_at hl 1 rfl) ?_
            refine lv_bipush (v := I 32) hx hb dX11_isKey_41 (by decide) ?_
            refine lv_idiv hx hb dX11_isKey_43 (by decide) ?_
            refine th_div (n := 32) rv2q49 (by omega) (by decide) (fun z_57 rz_57 hz_57 => ?_)
            refine lv_istore_n (lv' := [(2, .int (I z_57)), (1, .int (I z_56))]) hx hb dX11_isKey_44 rfl hl (by decide) rfl (fun ls hl => ?_)
            refine lv_goto (tgt := 21) hx hb dX11_isKey_45 (by decide) ?_
            exact ihJ_50 (z_56, z_57) σ _ _ _ (by first | (dsimp only; omega) | omega) ⟨rfl, hH, hS, lv_sub hl [1, 0] rfl, rz_56, rz_57, by first | (dsimp only; omega) | omega, by first | (dsimp only; omega) | omega⟩

set_option maxHeartbeats 4000000 in
set_option maxRecDepth 100000 in
theorem m_changes (l : Launch) (G : va_G) (y : Nat → ClassId) (b0 : Nat) (σ : th_M) (E : th_E) (hO : ok y E σ) (a : Nat) (h_a : kd E a = 13) (slot : Int) (rslot : rng slot) (l_slot : 0 ≤ slot) (u_slot : slot ≤ 3) (wh : Int) (rwh : rng wh) (l_wh : 0 ≤ wh) (u_wh : wh ≤ 6) (bz : Int) (rbz : rng bz) (f1 : Nat → Int32) (ef1 : aF σ (ad E a 1) = f1) (f2 : Nat → Int32) (ef2 : aF σ (ad E a 2) = f2) (f3 : Nat → Int32) (ef3 : aF σ (ad E a 3) = f3) (f8 : Nat → Int32) (ef8 : aF σ (ad E a 8) = f8) (f35 : Nat → Int32) (ef35 : aF σ (ad E a 35) = f35) (f37 : Nat → Int32) (ef37 : aF σ (ad E a 37) = f37) (hy0 : wf f1 0 (mS f1 0)) (hy1 : 1 ≤ mS f1 0 ∧ mS f1 0 ≤ 60) (hy2 : tr f1) (hy3 : trs f37 (gI σ a 36)) (hy4 : 1 ≤ (f8 slot.toNat).toInt) (hy5 : tdc wh f2) : Met l yX11_changes wsX11_changes ({ frames := 51, cells := 0, slots := 0, locals := 1713 }) (th_P G y b0 σ [.ref a, .int (I slot), .int (I wh), .int (I bz)]) (th_Qi G b0 (fun r σ1 => ok y E σ1 ∧ fr [13] E σ σ1 ∧ fm [1, 3, 5, 9, 10, 11, 13, 14, 15, 16, 17, 18, 19, 20, 23, 24, 25, 26, 27, 28, 29, 30, 32, 34, 35, 36, 37] E σ σ1 a ∧ (tr (aF σ1 (ad E a 1)) ∧ trs (aF σ1 (ad E a 37)) (gI σ1 a 36)))) 0 0 (th_A b0) := by
  refine Met.ofW (cc := cX11_changes) (maxL := 6) (ret := (some .int)) (by decide) rfl ?_
  intro p e s m args below meth c s₁ B hml hv
  obtain ⟨rfl, hH, hK⟩ := hv
  have hx := B.exec
  have hb := B.bytes
  have hr := B.returns
  have hts := atoms_spec (ws := wsX11_changes) B.pre
  have hown : s.vm.findClass RX11 = some m.cls := findClass_of_methodNamed B.named
  have hlocks := B.notSynchronized
  have h00 : b0 ≤ s.heap.size := hH.1
  have hS : va_S (th_A b0) s.heap s.heap [] := va_S.rf
  have hF : fr [13] E σ σ := fr.rf
  have hM : fm [1, 3, 5, 9, 10, 11, 13, 14, 15, 16, 17, 18, 19, 20, 23, 24, 25, 26, 27, 28, 29, 30, 32, 34, 35, 36, 37] E σ σ a := fm.rf
  have inX11 : ∀ w ∈ wsX110, w ∈ wsX11_changes := by decide +kernel
  have fl0 := hts (.fieldLink RX11 369 "NestQueryModel" "change" "I") (by decide +kernel)
  have fl1 := hts (.fieldLink RX11 375 "NestQueryModel" "changeBy" "I") (by decide +kernel)
  have fl2 := hts (.fieldLink RX11 353 "NestQueryModel" "madeMany" "I") (by decide +kernel)
  have fl3 := hts (.fieldLink RX11 35 "NestQueryModel" "set" "[Z") (by decide +kernel)
  have hl := lv_entry ([.ref a, .int (I slot), .int (I wh), .int (I bz)]) (n := 6) (Nat.le_of_ble_eq_true rfl)
  rw [lg_entry_eq]
  generalize (lg_sl ([.ref a, .int (I slot), .int (I wh), .int (I bz)]) ++ List.replicate (6 - (lg_sl ([.ref a, .int (I slot), .int (I wh), .int (I bz)])).length) Slot.unset).toArray = ls at hl ⊢
  have hl : lv_has ls 6 [(0, .ref a), (1, .int (I slot)), (2, .int (I wh)), (3, .int (I bz))] := hl
  obtain ⟨a360, ea360, ra360, la360, ua360⟩ := hO.gi h_a (by decide) k13_36
  refine lv_aload_n hx hb dX11_changes_0 rfl (lv_at hl 0 rfl) ?_
  refine lv_iload_n hx hb dX11_changes_1 rfl (lv_at hl 1 rfl) ?_
  refine lv_iconst (v := I (-1)) hx hb dX11_changes_2 (by decide) ?_
  obtain ⟨_, hc_1⟩ := hO.cell h_a (by decide) (ci := 11) rfl
  refine th_callv (va_runV (As := [.int (I slot), .int (I (-1))]) (rest := []) ⟨hx, hb, hml, hown, hts⟩ (m_goes l G y b0 σ E hO a h_a slot (show rng slot from rslot) (by omega) (by omega) (-1) (show rng (-1) from (show rng (-1) from ⟨by decide, by decide⟩)) f1 ef1 f8 ef8 (hy0) (by omega) (by omega)) (cwV 2 hts gX11_changes_X11_goes rfl rfl rfl (by decide +kernel) ⟨Nat.le_of_ble_eq_true rfl, Nat.le_of_ble_eq_true rfl⟩) (th_PV hK hH rfl hc_1) rfl rfl hl.1 rfl (lv_room (Nat.le_of_ble_eq_true rfl)) dX11_changes_3 ⟨Nat.le_of_ble_eq_true rfl, Nat.le_of_ble_eq_true rfl⟩) hS (fun σ_s_3 H locs hw_2 hH hS => ?_)
  obtain ⟨hO9, hF9, hM9, hw_2⟩ := hw_2
  replace hM := hM.tu hM9 (by decide)
  replace hF := hF.tu hF9 (by decide)
  have e_4 : aF σ_s_3 (ad E a 1) = f1 := (hM9.a (by decide) (by decide)).trans ef1
  have e_5 : aF σ_s_3 (ad E a 2) = f2 := (hM9.a (by decide) (by decide)).trans ef2
  have e_6 : aF σ_s_3 (ad E a 3) = f3 := (hM9.a (by decide) (by decide)).trans ef3
  have e_7 : aF σ_s_3 (ad E a 8) = f8 := (hM9.a (by decide) (by decide)).trans ef8
  have e_8 : aF σ_s_3 (ad E a 35) = f35 := (hM9.a (by decide) (by decide)).trans ef35
  have e_9 : aF σ_s_3 (ad E a 37) = f37 := (hM9.a (by decide) (by decide)).trans ef37
  have e_10 : gI σ_s_3 a 36 = a360 := (hM9.i (by decide)).trans ea360
  replace hO := hO9
  refine lv_aload_n hx hb dX11_changes_6 rfl (lv_at hl 0 rfl) ?_
  refine lv_iload_n hx hb dX11_changes_7 rfl (lv_at hl 2 rfl) ?_
  refine ok.putJ hO h_a k13_32 rwh (by omega) (by omega) (fun _ he hl9 kk => th_put (ci := 11) (v := .int (I wh)) (ty := .int) (C := RX11) (T := TX11) (N := 66) hx hb hts inX11 tyX11 tyX11_ok nmX11 hown hK hH hS h00 he rfl 32 (by decide) fl0 rfl (by decide +kernel) rfl rfl hl9 dX11_changes_8 kk) (fun σ_s_11 H locs hO hF9 hM9 hg9 ha9 hH hS => ?_)
  replace hM := hM.tu hM9 (by decide)
  replace hF := hF.tu hF9 (by decide)
  have e_12 : aF σ_s_11 (ad E a 1) = f1 := (hM9.a (by decide) (by decide)).trans e_4
  have e_13 : aF σ_s_11 (ad E a 2) = f2 := (hM9.a (by decide) (by decide)).trans e_5
  have e_14 : aF σ_s_11 (ad E a 3) = f3 := (hM9.a (by decide) (by decide)).trans e_6
  have e_15 : aF σ_s_11 (ad E a 8) = f8 := (hM9.a (by decide) (by decide)).trans e_7
  have e_16 : aF σ_s_11 (ad E a 35) = f35 := (hM9.a (by decide) (by decide)).trans e_8
  have e_17 : aF σ_s_11 (ad E a 37) = f37 := (hM9.a (by decide) (by decide)).trans e_9
  have e_18 : gI σ_s_11 a 36 = a360 := (hM9.i (by decide)).trans e_10
  have e_19 := hg9
  refine lv_aload_n hx hb dX11_changes_11 rfl (lv_at hl 0 rfl) ?_
  refine lv_iload_n hx hb dX11_changes_12 rfl (lv_at hl 3 rfl) ?_
  refine ok.putJ hO h_a k13_34 rbz (by omega) (by omega) (fun _ he hl9 kk => th_put (ci := 11) (v := .int (I bz)) (ty := .int) (C := RX11) (T := TX11) (N := 66) hx hb hts inX11 tyX11 tyX11_ok nmX11 hown hK hH hS h00 he rfl 34 (by decide) fl1 rfl (by decide +kernel) rfl rfl hl9 dX11_changes_13 kk) (fun σ_s_20 H locs hO hF9 hM9 hg9 ha9 hH hS => ?_)
  replace hM := hM.tu hM9 (by decide)
  replace hF := hF.tu hF9 (by decide)
  have e_21 : aF σ_s_20 (ad E a 1) = f1 := (hM9.a (by decide) (by decide)).trans e_12
  have e_22 : aF σ_s_20 (ad E a 2) = f2 := (hM9.a (by decide) (by decide)).trans e_13
  have e_23 : aF σ_s_20 (ad E a 3) = f3 := (hM9.a (by decide) (by decide)).trans e_14
  have e_24 : aF σ_s_20 (ad E a 8) = f8 := (hM9.a (by decide) (by decide)).trans e_15
  have e_25 : aF σ_s_20 (ad E a 35) = f35 := (hM9.a (by decide) (by decide)).trans e_16
  have e_26 : aF σ_s_20 (ad E a 37) = f37 := (hM9.a (by decide) (by decide)).trans e_17
  have e_27 : gI σ_s_20 a 36 = a360 := (hM9.i (by decide)).trans e_18
  have e_28 : gI σ_s_20 a 32 = wh := (hM9.i (by decide)).trans e_19
  have e_29 := hg9
  refine lv_iload_n hx hb dX11_changes_16 rfl (lv_at hl 2 rfl) ?_
  refine lv_bipush (v := I 6) hx hb dX11_changes_17 (by decide) ?_
  refine th_join (α := Int) (J := 36) (stk := fun x9 => [.int (I x9)]) (fun x9 σ9 H9 l9 ls9 => σ9 = σ_s_20 ∧ th_H G b0 σ9 H9 ∧ va_S (th_A b0) s.heap H9 l9 ∧ lv_has ls9 6 [(0, .ref a), (2, .int (I wh))] ∧ rng x9 ∧ (x9 = 0 ∨ x9 = 1)) ?_ (fun jK_34 => ?_)
  · intro x9 σ_K_34 H locs ls hI9
    obtain ⟨w0q33, ex9⟩ : ∃ z, z = x9 := ⟨_, rfl⟩
    subst ex9
    obtain ⟨eK_34, hH, hS, hl, rw0q33, K_34_0⟩ := hI9
    replace eK_34 := eK_34.symm
    subst eK_34
    have hl : lv_has ls 6 [(0, .ref a), (2, .int (I wh))] := hl
    have rw0q33 : rng w0q33 := rw0q33
    have K_34_0 : w0q33 = 0 ∨ w0q33 = 1 := K_34_0
    refine lv_istore (lv' := [(4, .int (I w0q33)), (0, .ref a), (2, .int (I wh))]) hx hb dX11_changes_36 hl (by decide) rfl (fun ls hl => ?_)
    refine lv_iload_n hx hb dX11_changes_38 rfl (lv_at hl 2 rfl) ?_
    refine th_join (α := Int) (J := 98) (stk := fun x9 => [.int (I x9)]) (fun x9 σ9 H9 l9 ls9 => σ9 = σ_s_20 ∧ th_H G b0 σ9 H9 ∧ va_S (th_A b0) s.heap H9 l9 ∧ lv_has ls9 6 [(0, .ref a), (4, .int (I w0q33))] ∧ rng x9 ∧ (0 ≤ x9) ∧ (x9 ≤ 60) ∧ (0 ≤ x9) ∧ (x9 ≤ 60)) ?_ (fun jK_57 => ?_)
    · intro x9 σ_K_57 H locs ls hI9
      obtain ⟨w0q56, ex9⟩ : ∃ z, z = x9 := ⟨_, rfl⟩
      subst ex9
      obtain ⟨eK_57, hH, hS, hl, rw0q56, K_57_0, K_57_1, K_57_2, K_57_3⟩ := hI9
      replace eK_57 := eK_57.symm
      subst eK_57
      have hl : lv_has ls 6 [(0, .ref a), (4, .int (I w0q33))] := hl
      have rw0q56 : rng w0q56 := rw0q56
      have K_57_0 : 0 ≤ w0q56 := K_57_0
      have K_57_1 : w0q56 ≤ 60 := K_57_1
      have K_57_2 : 0 ≤ w0q56 := K_57_2
      have K_57_3 : w0q56 ≤ 60 := K_57_3
      refine lv_istore (lv' := [(5, .int (I w0q56)), (0, .ref a), (4, .int (I w0q33))]) hx hb dX11_changes_98 hl (by decide) rfl (fun ls hl => ?_)
      refine lv_iload hx hb dX11_changes_100 (lv_at hl 0 rfl) ?_
      refine lv_if_eq (tgt := 110) hx hb dX11_changes_102 (by decide) (fun c_58 => ?_) (fun c_58 => ?_)
      · replace c_58 := (I_eq (a := w0q56) (b := 0) rw0q56 (show rng 0 from ⟨by decide, by decide⟩)).mp c_58
        refine lv_iconst (v := I (-1)) hx hb dX11_changes_110 (by decide) ?_
        exact th_iret hx hb hr hlocks hH hS (z := (-1)) (show rng (-1) from ⟨by decide, by decide⟩) ⟨hO, hF, hM, by rw [show aF σ_s_20 (ad E a 1) = f1 from e_21, show aF σ_s_20 (ad E a 37) = f37 from e_26]; exact ⟨hy2, hy3.le (by omega)⟩⟩ dX11_changes_111
      · replace c_58 := mt (I_eq (a := w0q56) (b := 0) rw0q56 (show rng 0 from ⟨by decide, by decide⟩)).mpr c_58
        refine lv_iload hx hb dX11_changes_105 (lv_at hl 2 rfl) ?_
        refine lv_if_eq (tgt := 112) hx hb dX11_changes_107 (by decide) (fun c_59 => ?_) (fun c_59 => ?_)
        · replace c_59 := (I_eq (a := w0q33) (b := 0) rw0q33 (show rng 0 from ⟨by decide, by decide⟩)).mp c_59
          have hq0 := hy0 0 (by omega) (by omega)
          refine lv_aload_n hx hb dX11_changes_112 rfl (lv_at hl 1 rfl) ?_
          refine lv_iconst (v := I 0) hx hb dX11_changes_113 (by decide) ?_
          refine ok.putJ hO h_a k13_5 (show rng 0 from ⟨by decide, by decide⟩) (by omega) (by omega) (fun _ he hl9 kk => th_put (ci := 11) (v := .int (I 0)) (ty := .int) (C := RX11) (T := TX11) (N := 66) hx hb hts inX11 tyX11 tyX11_ok nmX11 hown hK hH hS h00 he rfl 5 (by decide) fl2 rfl (by decide +kernel) rfl rfl hl9 dX11_changes_114 kk) (fun σ_s_60 H locs hO hF9 hM9 hg9 ha9 hH hS => ?_)
          replace hM := hM.tu hM9 (by decide)
          replace hF := hF.tu hF9 (by decide)
          have e_61 : aF σ_s_60 (ad E a 1) = f1 := (hM9.a (by decide) (by decide)).trans e_21
          have e_62 : aF σ_s_60 (ad E a 2) = f2 := (hM9.a (by decide) (by decide)).trans e_22
          have e_63 : aF σ_s_60 (ad E a 3) = f3 := (hM9.a (by decide) (by decide)).trans e_23
          have e_64 : aF σ_s_60 (ad E a 8) = f8 := (hM9.a (by decide) (by decide)).trans e_24
          have e_65 : aF σ_s_60 (ad E a 35) = f35 := (hM9.a (by decide) (by decide)).trans e_25
          have e_66 : aF σ_s_60 (ad E a 37) = f37 := (hM9.a (by decide) (by decide)).trans e_26
          have e_67 : gI σ_s_60 a 36 = a360 := (hM9.i (by decide)).trans e_27
          have e_68 : gI σ_s_60 a 32 = wh := (hM9.i (by decide)).trans e_28
          have e_69 : gI σ_s_60 a 34 = bz := (hM9.i (by decide)).trans e_29
          have e_70 := hg9
          refine lv_aload_n hx hb dX11_changes_117 rfl (lv_at hl 1 rfl) ?_
          refine lv_iconst (v := I 0) hx hb dX11_changes_118 (by decide) ?_
          refine lv_iconst (v := I 0) hx hb dX11_changes_119 (by decide) ?_
          obtain ⟨_, hc_71⟩ := hO.cell h_a (by decide) (ci := 11) rfl
          refine th_callv (va_runV (As := [.int (I 0), .int (I 0)]) (rest := []) ⟨hx, hb, hml, hown, hts⟩ (m_emit 9 l G y b0 σ_s_60 E hO a h_a 0 (show rng 0 from (show rng 0 from ⟨by decide, by decide⟩)) (by omega) (by omega) 0 (show rng 0 from (show rng 0 from ⟨by decide, by decide⟩)) (by omega) (by omega) f1 e_61 f2 e_62 f3 e_63 f35 e_65 (hy0) (by omega) (hy2) ((by rw [show gI σ_s_60 a 32 = wh by omega]; exact hy5)) (by omega) ((cn_nn _)) (by omega) (by omega)) (cwV 2 hts gX11_changes_X11_emit rfl rfl rfl (by decide +kernel) ⟨Nat.le_of_ble_eq_true rfl, Nat.le_of_ble_eq_true rfl⟩) (th_PV hK hH rfl hc_71) rfl rfl hl.1 rfl (lv_room (Nat.le_of_ble_eq_true rfl)) dX11_changes_120 ⟨Nat.le_of_ble_eq_true rfl, Nat.le_of_ble_eq_true rfl⟩) hS (fun σ_s_73 H locs hw_72 hH hS => ?_)
          obtain ⟨hO9, hF9, hM9, hw_72⟩ := hw_72
          replace hM := hM.tu hM9 (by decide)
          replace hF := hF.tu hF9 (by decide)
          have e_74 : aF σ_s_73 (ad E a 1) = f1 := (hM9.a (by decide) (by decide)).trans e_61
          have e_75 : aF σ_s_73 (ad E a 2) = f2 := (hM9.a (by decide) (by decide)).trans e_62
          have e_76 : aF σ_s_73 (ad E a 8) = f8 := (hM9.a (by decide) (by decide)).trans e_64
          have e_77 : aF σ_s_73 (ad E a 37) = f37 := (hM9.a (by decide) (by decide)).trans e_66
          have e_78 : gI σ_s_73 a 36 = a360 := (hM9.i (by decide)).trans e_67
          have e_79 : gI σ_s_73 a 32 = wh := (hM9.i (by decide)).trans e_68
          have e_80 : gI σ_s_73 a 34 = bz := (hM9.i (by decide)).trans e_69
          replace hO := hO9
          generalize ef_82 : aF σ_s_73 (ad E a 3) = g_81 at hw_72
          generalize ef_84 : aF σ_s_73 (ad E a 35) = g_83 at hw_72
          have hw_72 : blk f3 g_81 (gI σ_s_60 a 5) (gI σ_s_73 a 5) (mY f1 0) ∧ gI σ_s_73 a 5 - gI σ_s_60 a 5 ≤ 61 * mS f1 0 ∧ ofr f35 g_83 (60 * 0) := hw_72
          refine lv_aload_n hx hb dX11_changes_123 rfl (lv_at hl 1 rfl) ?_
          have hb9 := hw_72.1
          rw [show gI σ_s_60 a 5 = 0 by omega] at hb9
          have hb8 := hb9.2.1
          have hb7 := hb9.2.2.2.2
          obtain ⟨_, hc_85⟩ := hO.cell h_a (by decide) (ci := 11) rfl
          refine th_calli (va_runV (As := []) (rest := []) ⟨hx, hb, hml, hown, hts⟩ (m_becomesTree l G y b0 σ_s_73 E hO a h_a f1 e_74 g_81 ef_82 f37 e_77 (hy2) ((hy3.le (by omega))) ((by rw [show gI σ_s_73 a 5 = gI σ_s_73 a 5 by omega]; exact hb9.1)) (by omega) (by omega)) (cwV 0 hts gX11_changes_X11_becomesTree rfl rfl rfl (by decide +kernel) ⟨Nat.le_of_ble_eq_true rfl, Nat.le_of_ble_eq_true rfl⟩) (th_PV hK hH rfl hc_85) rfl rfl hl.1 rfl (lv_room (Nat.le_of_ble_eq_true rfl)) dX11_changes_124 ⟨Nat.le_of_ble_eq_true rfl, Nat.le_of_ble_eq_true rfl⟩) hS (fun z_88 σ_s_87 H locs rz_88 hw_86 hH hS => ?_)
          obtain ⟨hO9, hF9, hM9, bhw_86, hw_86⟩ := hw_86
          replace hM := hM.tu hM9 (by decide)
          replace hF := hF.tu hF9 (by decide)
          have e_89 : aF σ_s_87 (ad E a 2) = f2 := (hM9.a (by decide) (by decide)).trans e_75
          have e_90 : aF σ_s_87 (ad E a 8) = f8 := (hM9.a (by decide) (by decide)).trans e_76
          have e_91 : gI σ_s_87 a 32 = wh := (hM9.i (by decide)).trans e_79
          have e_92 : gI σ_s_87 a 34 = bz := (hM9.i (by decide)).trans e_80
          have e_93 : aF σ_s_87 (ad E a 3) = g_81 := (hM9.a (by decide) (by decide)).trans ef_82
          have e_94 : aF σ_s_87 (ad E a 35) = g_83 := (hM9.a (by decide) (by decide)).trans ef_84
          replace hO := hO9
          generalize ef_96 : aF σ_s_87 (ad E a 1) = g_95 at hw_86
          generalize ef_98 : aF σ_s_87 (ad E a 37) = g_97 at hw_86
          have hw_86 : tr g_95 ∧ trs g_97 (gI σ_s_87 a 36) := hw_86
          refine lv_if_eq (tgt := 135) hx hb dX11_changes_127 (by decide) (fun c_99 => ?_) (fun c_99 => ?_)
          · replace c_99 := (I_eq (a := z_88) (b := 0) rz_88 (show rng 0 from ⟨by decide, by decide⟩)).mp c_99
            refine lv_iconst (v := I (-1)) hx hb dX11_changes_135 (by decide) ?_
            exact th_iret hx hb hr hlocks hH hS (z := (-1)) (show rng (-1) from ⟨by decide, by decide⟩) ⟨hO, hF, hM, by have h9 := hw_86; rw [show aF σ_s_87 (ad E a 1) = g_95 from ef_96, show aF σ_s_87 (ad E a 37) = g_97 from ef_98]; exact ⟨h9.1, h9.2⟩⟩ dX11_changes_136
          · replace c_99 := mt (I_eq (a := z_88) (b := 0) rz_88 (show rng 0 from ⟨by decide, by decide⟩)).mpr c_99
            refine lv_iload hx hb dX11_changes_130 (lv_at hl 0 rfl) ?_
            refine lv_goto (tgt := 136) hx hb dX11_changes_132 (by decide) ?_
            exact th_iret hx hb hr hlocks hH hS (z := w0q56) rw0q56 ⟨hO, hF, hM, by have h9 := hw_86; rw [show aF σ_s_87 (ad E a 1) = g_95 from ef_96, show aF σ_s_87 (ad E a 37) = g_97 from ef_98]; exact ⟨h9.1, h9.2⟩⟩ dX11_changes_136
        · replace c_59 := mt (I_eq (a := w0q33) (b := 0) rw0q33 (show rng 0 from ⟨by decide, by decide⟩)).mpr c_59
          refine lv_iconst (v := I (-1)) hx hb dX11_changes_110 (by decide) ?_
          exact th_iret hx hb hr hlocks hH hS (z := (-1)) (show rng (-1) from ⟨by decide, by decide⟩) ⟨hO, hF, hM, by rw [show aF σ_s_20 (ad E a 1) = f1 from e_21, show aF σ_s_20 (ad E a 37) = f37 from e_26]; exact ⟨hy2, hy3.le (by omega)⟩⟩ dX11_changes_111
    · refine lv_if_ne (tgt := 49) hx hb dX11_changes_39 (by decide) (fun c_100 => ?_) (fun c_100 => ?_)
      · replace c_100 := mt (I_eq (a := wh) (b := 0) rwh (show rng 0 from ⟨by decide, by decide⟩)).mpr c_100
        refine lv_aload_n hx hb dX11_changes_49 rfl (lv_at hl 1 rfl) ?_
        refine lv_iload_n hx hb dX11_changes_50 rfl (lv_at hl 2 rfl) ?_
        refine lv_iconst (v := I 1) hx hb dX11_changes_51 (by decide) ?_
        refine th_join (α := Int) (J := 95) (stk := fun x9 => [.int (I x9), .ref a]) (fun x9 σ9 H9 l9 ls9 => σ9 = σ_s_20 ∧ th_H G b0 σ9 H9 ∧ va_S (th_A b0) s.heap H9 l9 ∧ lv_has ls9 6 [(0, .ref a), (4, .int (I w0q33))] ∧ rng x9 ∧ (1 ≤ x9) ∧ (x9 ≤ 15)) ?_ (fun jK_107 => ?_)
        · intro x9 σ_K_107 H locs ls hI9
          obtain ⟨w0q106, ex9⟩ : ∃ z, z = x9 := ⟨_, rfl⟩
          subst ex9
          obtain ⟨eK_107, hH, hS, hl, rw0q106, K_107_0, K_107_1⟩ := hI9
          replace eK_107 := eK_107.symm
          subst eK_107
          have hl : lv_has ls 6 [(0, .ref a), (4, .int (I w0q33))] := hl
          have rw0q106 : rng w0q106 := rw0q106
          have K_107_0 : 1 ≤ w0q106 := K_107_0
          have K_107_1 : w0q106 ≤ 15 := K_107_1
          obtain ⟨_, hc_108⟩ := hO.cell h_a (by decide) (ci := 11) rfl
          refine th_calli (va_runV (As := [.int (I w0q106)]) (rest := []) ⟨hx, hb, hml, hown, hts⟩ (m_answersOf l G y b0 σ_s_20 E hO a h_a w0q106 (show rng w0q106 from rw0q106) f1 e_21 (hy0) (by omega)) (cwV 1 hts gX11_changes_X11_answersOf rfl rfl rfl (by decide +kernel) ⟨Nat.le_of_ble_eq_true rfl, Nat.le_of_ble_eq_true rfl⟩) (th_PV hK hH rfl hc_108) rfl rfl hl.1 rfl (lv_room (Nat.le_of_ble_eq_true rfl)) dX11_changes_95 ⟨Nat.le_of_ble_eq_true rfl, Nat.le_of_ble_eq_true rfl⟩) hS (fun z_111 σ_s_110 H locs rz_111 hw_109 hH hS => ?_)
          obtain ⟨e9, hw_109⟩ := hw_109
          replace e9 := e9.symm
          subst e9
          have hw_109 : 0 ≤ z_111 ∧ z_111 ≤ 60 := hw_109
          exact jK_57 (z_111) σ_s_20 _ _ _ ⟨rfl, hH, hS, lv_sub hl [0, 1] rfl, rz_111, by first | (dsimp only; omega) | omega, by first | (dsimp only; omega) | omega, by first | (dsimp only; omega) | omega, by first | (dsimp only; omega) | omega⟩
        · refine lv_icmp_eq (tgt := 60) hx hb dX11_changes_52 (by decide) (fun c_112 => ?_) (fun c_112 => ?_)
          · replace c_112 := (I_eq (a := wh) (b := 1) rwh (show rng 1 from ⟨by decide, by decide⟩)).mp c_112
            refine lv_iconst (v := I 4) hx hb dX11_changes_60 (by decide) ?_
            refine lv_goto (tgt := 95) hx hb dX11_changes_61 (by decide) ?_
            replace hl : lv_has ls 6 [(4, .int (I w0q33)), (0, .ref a)] := lv_sub hl [0, 1] rfl
            exact jK_107 (4) σ_s_20 _ _ _ ⟨rfl, hH, hS, lv_sub hl [1, 0] rfl, (show rng 4 from ⟨by decide, by decide⟩), by first | (dsimp only; omega) | omega, by first | (dsimp only; omega) | omega⟩
          · replace c_112 := mt (I_eq (a := wh) (b := 1) rwh (show rng 1 from ⟨by decide, by decide⟩)).mpr c_112
            refine lv_iload_n hx hb dX11_changes_55 rfl (lv_at hl 2 rfl) ?_
            refine lv_iconst (v := I 5) hx hb dX11_changes_56 (by decide) ?_
            refine lv_icmp_ne (tgt := 64) hx hb dX11_changes_57 (by decide) (fun c_113 => ?_) (fun c_113 => ?_)
            · replace c_113 := mt (I_eq (a := wh) (b := 5) rwh (show rng 5 from ⟨by decide, by decide⟩)).mpr c_113
              refine lv_iload_n hx hb dX11_changes_64 rfl (lv_at hl 2 rfl) ?_
              refine lv_iconst (v := I 2) hx hb dX11_changes_65 (by decide) ?_
              refine lv_icmp_ne (tgt := 74) hx hb dX11_changes_66 (by decide) (fun c_114 => ?_) (fun c_114 => ?_)
              · replace c_114 := mt (I_eq (a := wh) (b := 2) rwh (show rng 2 from ⟨by decide, by decide⟩)).mpr c_114
                refine lv_iload_n hx hb dX11_changes_74 rfl (lv_at hl 2 rfl) ?_
                refine lv_iconst (v := I 3) hx hb dX11_changes_75 (by decide) ?_
                refine lv_icmp_ne (tgt := 83) hx hb dX11_changes_76 (by decide) (fun c_115 => ?_) (fun c_115 => ?_)
                · replace c_115 := mt (I_eq (a := wh) (b := 3) rwh (show rng 3 from ⟨by decide, by decide⟩)).mpr c_115
                  refine lv_iload_n hx hb dX11_changes_83 rfl (lv_at hl 2 rfl) ?_
                  refine lv_iconst (v := I 4) hx hb dX11_changes_84 (by decide) ?_
                  refine lv_icmp_ne (tgt := 93) hx hb dX11_changes_85 (by decide) (fun c_116 => ?_) (fun c_116 => ?_)
                  · replace c_116 := mt (I_eq (a := wh) (b := 4) rwh (show rng 4 from ⟨by decide, by decide⟩)).mpr c_116
                    refine lv_bipush (v := I 15) hx hb dX11_changes_93 (by decide) ?_
                    replace hl : lv_has ls 6 [(4, .int (I w0q33)), (0, .ref a)] := lv_sub hl [0, 1] rfl
                    exact jK_107 (15) σ_s_20 _ _ _ ⟨rfl, hH, hS, lv_sub hl [1, 0] rfl, (show rng 15 from ⟨by decide, by decide⟩), by first | (dsimp only; omega) | omega, by first | (dsimp only; omega) | omega⟩
                  · replace c_116 := (I_eq (a := wh) (b := 4) rwh (show rng 4 from ⟨by decide, by decide⟩)).mp c_116
                    refine lv_bipush (v := I 12) hx hb dX11_changes_88 (by decide) ?_
                    refine lv_goto (tgt := 95) hx hb dX11_changes_90 (by decide) ?_
                    replace hl : lv_has ls 6 [(4, .int (I w0q33)), (0, .ref a)] := lv_sub hl [0, 1] rfl
                    exact jK_107 (12) σ_s_20 _ _ _ ⟨rfl, hH, hS, lv_sub hl [1, 0] rfl, (show rng 12 from ⟨by decide, by decide⟩), by first | (dsimp only; omega) | omega, by first | (dsimp only; omega) | omega⟩
                · replace c_115 := (I_eq (a := wh) (b := 3) rwh (show rng 3 from ⟨by decide, by decide⟩)).mp c_115
                  refine lv_iconst (v := I 1) hx hb dX11_changes_79 (by decide) ?_
                  refine lv_goto (tgt := 95) hx hb dX11_changes_80 (by decide) ?_
                  replace hl : lv_has ls 6 [(4, .int (I w0q33)), (0, .ref a)] := lv_sub hl [0, 1] rfl
                  exact jK_107 (1) σ_s_20 _ _ _ ⟨rfl, hH, hS, lv_sub hl [1, 0] rfl, (show rng 1 from ⟨by decide, by decide⟩), by first | (dsimp only; omega) | omega, by first | (dsimp only; omega) | omega⟩
              · replace c_114 := (I_eq (a := wh) (b := 2) rwh (show rng 2 from ⟨by decide, by decide⟩)).mp c_114
                refine lv_bipush (v := I 8) hx hb dX11_changes_69 (by decide) ?_
                refine lv_goto (tgt := 95) hx hb dX11_changes_71 (by decide) ?_
                replace hl : lv_has ls 6 [(4, .int (I w0q33)), (0, .ref a)] := lv_sub hl [0, 1] rfl
                exact jK_107 (8) σ_s_20 _ _ _ ⟨rfl, hH, hS, lv_sub hl [1, 0] rfl, (show rng 8 from ⟨by decide, by decide⟩), by first | (dsimp only; omega) | omega, by first | (dsimp only; omega) | omega⟩
            · replace c_113 := (I_eq (a := wh) (b := 5) rwh (show rng 5 from ⟨by decide, by decide⟩)).mp c_113
              refine lv_iconst (v := I 4) hx hb dX11_changes_60 (by decide) ?_
              refine lv_goto (tgt := 95) hx hb dX11_changes_61 (by decide) ?_
              replace hl : lv_has ls 6 [(4, .int (I w0q33)), (0, .ref a)] := lv_sub hl [0, 1] rfl
              exact jK_107 (4) σ_s_20 _ _ _ ⟨rfl, hH, hS, lv_sub hl [1, 0] rfl, (show rng 4 from ⟨by decide, by decide⟩), by first | (dsimp only; omega) | omega, by first | (dsimp only; omega) | omega⟩
      · replace c_100 := (I_eq (a := wh) (b := 0) rwh (show rng 0 from ⟨by decide, by decide⟩)).mp c_100
        refine lv_aload_n hx hb dX11_changes_42 rfl (lv_at hl 1 rfl) ?_
        obtain ⟨_, hc_117⟩ := hO.cell h_a (by decide) (ci := 11) rfl
        refine th_calli (va_runV (As := []) (rest := []) ⟨hx, hb, hml, hown, hts⟩ (m_outermost l G y b0 σ_s_20 E hO a h_a f1 e_21 (hy0) (by omega)) (cwV 0 hts gX11_changes_X11_outermost rfl rfl rfl (by decide +kernel) ⟨Nat.le_of_ble_eq_true rfl, Nat.le_of_ble_eq_true rfl⟩) (th_PV hK hH rfl hc_117) rfl rfl hl.1 rfl (lv_room (Nat.le_of_ble_eq_true rfl)) dX11_changes_43 ⟨Nat.le_of_ble_eq_true rfl, Nat.le_of_ble_eq_true rfl⟩) hS (fun z_120 σ_s_119 H locs rz_120 hw_118 hH hS => ?_)
        obtain ⟨e9, hw_118⟩ := hw_118
        replace e9 := e9.symm
        subst e9
        have hw_118 : 0 ≤ z_120 ∧ z_120 ≤ 60 := hw_118
        refine lv_goto (tgt := 98) hx hb dX11_changes_46 (by decide) ?_
        replace hl : lv_has ls 6 [(4, .int (I w0q33)), (0, .ref a)] := lv_sub hl [0, 1] rfl
        exact jK_57 (z_120) σ_s_20 _ _ _ ⟨rfl, hH, hS, lv_sub hl [1, 0] rfl, rz_120, by first | (dsimp only; omega) | omega, by first | (dsimp only; omega) | omega, by first | (dsimp only; omega) | omega, by first | (dsimp only; omega) | omega⟩
  · refine lv_icmp_ne (tgt := 35) hx hb dX11_changes_19 (by decide) (fun c_121 => ?_) (fun c_121 => ?_)
    · replace c_121 := mt (I_eq (a := wh) (b := 6) rwh (show rng 6 from ⟨by decide, by decide⟩)).mpr c_121
      refine lv_iconst (v := I 0) hx hb dX11_changes_35 (by decide) ?_
      replace hl : lv_has ls 6 [(0, .ref a), (2, .int (I wh))] := lv_sub hl [0, 2] rfl
      exact jK_34 (0) σ_s_20 _ _ _ ⟨rfl, hH, hS, lv_sub hl [0, 1] rfl, (show rng 0 from ⟨by decide, by decide⟩), by first | (dsimp only; omega) | omega⟩
    · replace c_121 := (I_eq (a := wh) (b := 6) rwh (show rng 6 from ⟨by decide, by decide⟩)).mp c_121
      refine lv_aload_n hx hb dX11_changes_22 rfl (lv_at hl 0 rfl) ?_
      refine ok.getR hO h_a (by decide) k13_23 (by decide) (fun _ _ he hv kk => th_get (ci := 11) (C := RX11) (T := TX11) (N := 66) hx hb hts inX11 hown hK hH he rfl 23 (by decide) fl3 hv dX11_changes_23 kk) ?_
      refine lv_iconst (v := I 0) hx hb dX11_changes_26 (by decide) ?_
      refine m_zald hx hb hK hH hO h_a k13_23 (show rng 0 from ⟨by decide, by decide⟩) (by omega) (by omega) dX11_changes_27 (fun z_122 rz_122 uz_122 => ?_)
      refine lv_if_eq (tgt := 35) hx hb dX11_changes_28 (by decide) (fun c_123 => ?_) (fun c_123 => ?_)
      · replace c_123 := (I_eq (a := z_122) (b := 0) rz_122 (show rng 0 from ⟨by decide, by decide⟩)).mp c_123
        refine lv_iconst (v := I 0) hx hb dX11_changes_35 (by decide) ?_
        replace hl : lv_has ls 6 [(0, .ref a), (2, .int (I wh))] := lv_sub hl [0, 2] rfl
        exact jK_34 (0) σ_s_20 _ _ _ ⟨rfl, hH, hS, lv_sub hl [0, 1] rfl, (show rng 0 from ⟨by decide, by decide⟩), by first | (dsimp only; omega) | omega⟩
      · replace c_123 := mt (I_eq (a := z_122) (b := 0) rz_122 (show rng 0 from ⟨by decide, by decide⟩)).mpr c_123
        refine lv_iconst (v := I 1) hx hb dX11_changes_31 (by decide) ?_
        refine lv_goto (tgt := 36) hx hb dX11_changes_32 (by decide) ?_
        replace hl : lv_has ls 6 [(0, .ref a), (2, .int (I wh))] := lv_sub hl [0, 2] rfl
        exact jK_34 (1) σ_s_20 _ _ _ ⟨rfl, hH, hS, lv_sub hl [0, 1] rfl, (show rng 1 from ⟨by decide, by decide⟩), by first | (dsimp only; omega) | omega⟩
