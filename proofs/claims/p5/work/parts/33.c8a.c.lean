set_option maxHeartbeats 4000000 in
set_option maxRecDepth 100000 in
theorem w_stepOf (l : Launch) (G : va_G) (y : Nat → ClassId) (b0 : Nat) (σ : th_M) (E : th_E) (hO : ok y E σ) (pp : Int) (rpp : rng pp) (l_pp : 0 ≤ pp) (u_pp : pp ≤ 60) : Met l yX11_stepOf wsX11_stepOf ({ frames := 0, cells := 0, slots := 0, locals := 0 }) (th_P G y b0 σ [.int (I pp)]) (th_Qi G b0 (fun r σ1 => σ1 = σ ∧ (True))) 0 0 (th_A b0) := by
  refine Met.ofW (cc := cX11_stepOf) (maxL := 1) (ret := (some .int)) (by decide) rfl ?_
  intro p e s m args below meth c s₁ B hml hv
  obtain ⟨rfl, hH, hK⟩ := hv
  have hx := B.exec
  have hb := B.bytes
  have hr := B.returns
  have hts := atoms_spec (ws := wsX11_stepOf) B.pre
  have hown : s.vm.findClass RX11 = some m.cls := findClass_of_methodNamed B.named
  have hlocks := B.notSynchronized
  have h00 : b0 ≤ s.heap.size := hH.1
  have hS : va_S (th_A b0) s.heap s.heap [] := va_S.rf
  have hl := lv_entry ([.int (I pp)]) (n := 1) (Nat.le_of_ble_eq_true rfl)
  rw [lg_entry_eq]
  generalize (lg_sl ([.int (I pp)]) ++ List.replicate (1 - (lg_sl ([.int (I pp)])).length) Slot.unset).toArray = ls at hl ⊢
  have hl : lv_has ls 1 [(0, .int (I pp))] := hl
  refine lv_iconst (v := I (-1)) hx hb dX11_stepOf_0 (by decide) ?_
  refine lv_iload_n hx hb dX11_stepOf_1 rfl (lv_at hl 0 rfl) ?_
  refine lv_isub hx hb dX11_stepOf_2 ?_
  refine nq_top (I_sub _ _) ?_
  exact th_iret hx hb hr hlocks hH hS (z := ((-1) - pp)) ⟨by omega, by omega⟩ ⟨rfl, trivial⟩ dX11_stepOf_3

set_option maxHeartbeats 4000000 in
set_option maxRecDepth 100000 in
theorem m_addN61 (l : Launch) (G : va_G) (y : Nat → ClassId) (b0 : Nat) (σ : th_M) (E : th_E) (hO : ok y E σ) (a : Nat) (h_a : kd E a = 13) (i : Int) (ri : rng i) (l_i : -1 ≤ i) (u_i : i ≤ -1) : Met l yX11_addThings wsX11_addThings ({ frames := 0, cells := 0, slots := 0, locals := 0 }) (th_P G y b0 σ [.ref a, .ref (ad E a 61), .int (I i)]) (th_Qi G b0 (fun r σ1 => σ1 = σ ∧ (r = -1))) 0 0 (th_A b0) := by
  refine Met.ofW (cc := cX11_addThings) (maxL := 5) (ret := (some .int)) (by decide) rfl ?_
  intro p e s m args below meth c s₁ B hml hv
  obtain ⟨rfl, hH, hK⟩ := hv
  have hx := B.exec
  have hb := B.bytes
  have hr := B.returns
  have hts := atoms_spec (ws := wsX11_addThings) B.pre
  have hown : s.vm.findClass RX11 = some m.cls := findClass_of_methodNamed B.named
  have hlocks := B.notSynchronized
  have h00 : b0 ≤ s.heap.size := hH.1
  have hS : va_S (th_A b0) s.heap s.heap [] := va_S.rf
  have hl := lv_entry ([.ref a, .ref (ad E a 61), .int (I i)]) (n := 5) (Nat.le_of_ble_eq_true rfl)
  rw [lg_entry_eq]
  generalize (lg_sl ([.ref a, .ref (ad E a 61), .int (I i)]) ++ List.replicate (5 - (lg_sl ([.ref a, .ref (ad E a 61), .int (I i)])).length) Slot.unset).toArray = ls at hl ⊢
  have hl : lv_has ls 5 [(0, .ref a), (1, .ref (ad E a 61)), (2, .int (I i))] := hl
  refine lv_iload_n hx hb dX11_addThings_0 rfl (lv_at hl 2 rfl) ?_
  refine lv_iconst (v := I (-1)) hx hb dX11_addThings_1 (by decide) ?_
  refine lv_icmp_ne (tgt := 7) hx hb dX11_addThings_2 (by decide) (fun c_1 => ?_) (fun c_1 => ?_)
  · replace c_1 := mt (I_eq (a := i) (b := (-1)) ri (show rng (-1) from ⟨by decide, by decide⟩)).mpr c_1
    exfalso; omega
  · replace c_1 := (I_eq (a := i) (b := (-1)) ri (show rng (-1) from ⟨by decide, by decide⟩)).mp c_1
    refine lv_iconst (v := I (-1)) hx hb dX11_addThings_5 (by decide) ?_
    exact th_iret hx hb hr hlocks hH hS (z := (-1)) (show rng (-1) from ⟨by decide, by decide⟩) ⟨rfl, by omega⟩ dX11_addThings_6

set_option maxHeartbeats 4000000 in
set_option maxRecDepth 100000 in
theorem m_addN1 (l : Launch) (G : va_G) (y : Nat → ClassId) (b0 : Nat) (σ : th_M) (E : th_E) (hO : ok y E σ) (a : Nat) (h_a : kd E a = 13) (i : Int) (ri : rng i) (l_i : -1 ≤ i) (u_i : i ≤ -1) : Met l yX11_addThings wsX11_addThings ({ frames := 0, cells := 0, slots := 0, locals := 0 }) (th_P G y b0 σ [.ref a, .ref (ad E a 1), .int (I i)]) (th_Qi G b0 (fun r σ1 => σ1 = σ ∧ (r = -1))) 0 0 (th_A b0) := by
  refine Met.ofW (cc := cX11_addThings) (maxL := 5) (ret := (some .int)) (by decide) rfl ?_
  intro p e s m args below meth c s₁ B hml hv
  obtain ⟨rfl, hH, hK⟩ := hv
  have hx := B.exec
  have hb := B.bytes
  have hr := B.returns
  have hts := atoms_spec (ws := wsX11_addThings) B.pre
  have hown : s.vm.findClass RX11 = some m.cls := findClass_of_methodNamed B.named
  have hlocks := B.notSynchronized
  have h00 : b0 ≤ s.heap.size := hH.1
  have hS : va_S (th_A b0) s.heap s.heap [] := va_S.rf
  have hl := lv_entry ([.ref a, .ref (ad E a 1), .int (I i)]) (n := 5) (Nat.le_of_ble_eq_true rfl)
  rw [lg_entry_eq]
  generalize (lg_sl ([.ref a, .ref (ad E a 1), .int (I i)]) ++ List.replicate (5 - (lg_sl ([.ref a, .ref (ad E a 1), .int (I i)])).length) Slot.unset).toArray = ls at hl ⊢
  have hl : lv_has ls 5 [(0, .ref a), (1, .ref (ad E a 1)), (2, .int (I i))] := hl
  refine lv_iload_n hx hb dX11_addThings_0 rfl (lv_at hl 2 rfl) ?_
  refine lv_iconst (v := I (-1)) hx hb dX11_addThings_1 (by decide) ?_
  refine lv_icmp_ne (tgt := 7) hx hb dX11_addThings_2 (by decide) (fun c_1 => ?_) (fun c_1 => ?_)
  · replace c_1 := mt (I_eq (a := i) (b := (-1)) ri (show rng (-1) from ⟨by decide, by decide⟩)).mpr c_1
    exfalso; omega
  · replace c_1 := (I_eq (a := i) (b := (-1)) ri (show rng (-1) from ⟨by decide, by decide⟩)).mp c_1
    refine lv_iconst (v := I (-1)) hx hb dX11_addThings_5 (by decide) ?_
    exact th_iret hx hb hr hlocks hH hS (z := (-1)) (show rng (-1) from ⟨by decide, by decide⟩) ⟨rfl, by omega⟩ dX11_addThings_6

set_option maxHeartbeats 4000000 in
set_option maxRecDepth 100000 in
theorem m_add61 (l : Launch) (G : va_G) (y : Nat → ClassId) (b0 : Nat) (σ : th_M) (E : th_E) (hO : ok y E σ) (a : Nat) (h_a : kd E a = 13) (i : Int) (ri : rng i) (l_i : 0 ≤ i) (u_i : i ≤ 59) (w : Int) (f61 : Nat → Int32) (ef61 : aF σ (ad E a 61) = f61) (f44 : Nat → Int32) (ef44 : aF σ (ad E a 44) = f44) (f46 : Nat → Int32) (ef46 : aF σ (ad E a 46) = f46) (hy0 : gI σ a 48 = w) (hy1 : 0 ≤ w ∧ w ≤ 1) (hy2 : 1 ≤ mS f61 i ∧ mS f61 i ≤ 60 ∧ i + mS f61 i ≤ 60) (hy3 : 0 ≤ (f46 w.toNat).toInt ∧ (f46 w.toNat).toInt + mS f61 i ≤ 150) : Met l yX11_addThings wsX11_addThings ({ frames := 1, cells := 0, slots := 0, locals := 25 }) (th_P G y b0 σ [.ref a, .ref (ad E a 61), .int (I i)]) (th_Qi G b0 (fun r σ1 => ok y E σ1 ∧ fr [13] E σ σ1 ∧ fm [44, 46] E σ σ1 a ∧ (r = 150 * w + (f46 w.toNat).toInt ∧ cpx f44 (aF σ1 (ad E a 44)) f61 r i (4 * mS f61 i) ∧ (aF σ1 (ad E a 46)) = upd f46 w.toNat (I ((f46 w.toNat).toInt + mS f61 i))))) 0 0 (th_A b0) := by
  refine Met.ofW (cc := cX11_addThings) (maxL := 5) (ret := (some .int)) (by decide) rfl ?_
  intro p e s m args below meth c s₁ B hml hv
  obtain ⟨rfl, hH, hK⟩ := hv
  have hx := B.exec
  have hb := B.bytes
  have hr := B.returns
  have hts := atoms_spec (ws := wsX11_addThings) B.pre
  have hown : s.vm.findClass RX11 = some m.cls := findClass_of_methodNamed B.named
  have hlocks := B.notSynchronized
  have h00 : b0 ≤ s.heap.size := hH.1
  have hS : va_S (th_A b0) s.heap s.heap [] := va_S.rf
  have hF : fr [13] E σ σ := fr.rf
  have hM : fm [44, 46] E σ σ a := fm.rf
  have inX11 : ∀ w ∈ wsX110, w ∈ wsX11_addThings := by decide +kernel
  have fl0 := hts (.fieldLink RX11 438 "NestQueryModel" "which" "I") (by decide +kernel)
  have fl1 := hts (.fieldLink RX11 72 "NestQueryModel" "poolMany" "[I") (by decide +kernel)
  have fl2 := hts (.fieldLink RX11 66 "NestQueryModel" "pool" "[I") (by decide +kernel)
  have hl := lv_entry ([.ref a, .ref (ad E a 61), .int (I i)]) (n := 5) (Nat.le_of_ble_eq_true rfl)
  rw [lg_entry_eq]
  generalize (lg_sl ([.ref a, .ref (ad E a 61), .int (I i)]) ++ List.replicate (5 - (lg_sl ([.ref a, .ref (ad E a 61), .int (I i)])).length) Slot.unset).toArray = ls at hl ⊢
  have hl : lv_has ls 5 [(0, .ref a), (1, .ref (ad E a 61)), (2, .int (I i))] := hl
  obtain ⟨a480, ea480, ra480, la480, ua480⟩ := hO.gi h_a (by decide) k13_48
  have hw9 : a480 = w := by omega
  refine lv_iload_n hx hb dX11_addThings_0 rfl (lv_at hl 2 rfl) ?_
  refine lv_iconst (v := I (-1)) hx hb dX11_addThings_1 (by decide) ?_
  refine lv_icmp_ne (tgt := 7) hx hb dX11_addThings_2 (by decide) (fun c_1 => ?_) (fun c_1 => ?_)
  · replace c_1 := mt (I_eq (a := i) (b := (-1)) ri (show rng (-1) from ⟨by decide, by decide⟩)).mpr c_1
    refine lv_sipush (v := I 150) hx hb dX11_addThings_7 (by decide) ?_
    refine lv_aload_n hx hb dX11_addThings_10 rfl (lv_at hl 0 rfl) ?_
    refine ok.getIc hO h_a (by decide) k13_48 ea480 (fun _ _ he hv kk => th_get (ci := 11) (C := RX11) (T := TX11) (N := 66) hx hb hts inX11 hown hK hH he rfl 48 (by decide) fl0 hv dX11_addThings_11 kk) ?_
    refine lv_imul hx hb dX11_addThings_14 ?_
    refine nq_top (I_mul _ _) ?_
    refine lv_aload_n hx hb dX11_addThings_15 rfl (lv_at hl 0 rfl) ?_
    refine ok.getR hO h_a (by decide) k13_46 (by decide) (fun _ _ he hv kk => th_get (ci := 11) (C := RX11) (T := TX11) (N := 66) hx hb hts inX11 hown hK hH he rfl 46 (by decide) fl1 hv dX11_addThings_16 kk) ?_
    refine lv_aload_n hx hb dX11_addThings_19 rfl (lv_at hl 0 rfl) ?_
    refine ok.getIc hO h_a (by decide) k13_48 ea480 (fun _ _ he hv kk => th_get (ci := 11) (C := RX11) (T := TX11) (N := 66) hx hb hts inX11 hown hK hH he rfl 48 (by decide) fl0 hv dX11_addThings_20 kk) ?_
    refine m_iald hx hb hK hH hO h_a k13_46 isA1 ef46 ra480 (by omega) (by omega) dX11_addThings_23 (fun z_2 ez_2 rz_2 elx9 => ?_)
    have hzm : (f46 w.toNat).toInt = z_2 := by rw [← hw9]; exact ez_2
    refine lv_iadd hx hb dX11_addThings_24 ?_
    refine nq_top (I_add _ _) ?_
    refine lv_istore_n (lv' := [(3, .int (I (150 * a480 + z_2))), (0, .ref a), (1, .ref (ad E a 61)), (2, .int (I i))]) hx hb dX11_addThings_25 rfl hl (by decide) rfl (fun ls hl => ?_)
    refine lv_iconst (v := I 0) hx hb dX11_addThings_26 (by decide) ?_
    refine lv_istore (lv' := [(4, .int (I 0)), (3, .int (I (150 * a480 + z_2))), (0, .ref a), (1, .ref (ad E a 61)), (2, .int (I i))]) hx hb dX11_addThings_27 hl (by decide) rfl (fun ls hl => ?_)
    refine th_loop (α := Int × (Nat → Int32)) (pc := 29) (fun x9 => (4 * mS f61 i - x9.1).toNat) (fun x9 σ9 H9 l9 ls9 => ok y E σ9 ∧ fr [13] E σ σ9 ∧ fm [44, 46] E σ σ9 a ∧ th_H G b0 σ9 H9 ∧ va_S (th_A b0) s.heap H9 l9 ∧ lv_has ls9 5 [(0, .ref a), (1, .ref (ad E a 61)), (2, .int (I i)), (3, .int (I (150 * a480 + z_2))), (4, .int (I x9.1))] ∧ rng x9.1 ∧ (0 ≤ x9.1) ∧ (x9.1 ≤ 240) ∧ (x9.1 ≤ 4 * mS f61 i) ∧ (cpx f44 x9.2 f61 (150 * a480 + z_2) i x9.1) ∧ (gI σ9 a 48 = a480) ∧ (aF σ9 (ad E a 61) = f61) ∧ (aF σ9 (ad E a 46) = f46) ∧ (aF σ9 (ad E a 44) = x9.2)) ?_ (0, f44) σ _ _ _ ⟨hO, hF, hM, hH, hS, lv_sub hl [2, 3, 4, 1, 0] rfl, (show rng 0 from ⟨by decide, by decide⟩), by first | (dsimp only; omega) | omega, by first | (dsimp only; omega) | omega, by first | (dsimp only; omega) | omega, cpx.zero, ea480, ef61, ef46, ef44⟩
    intro x9 σ_J_35 H locs ls hI9 ihJ_35
    obtain ⟨v4q34, F44q33⟩ := x9
    obtain ⟨hO, hF, hM, hH, hS, hl, rv4q34, J_35_0, J_35_1, J_35_2, J_35_3, J_35_4, J_35_5, J_35_6, J_35_7⟩ := hI9
    have hl : lv_has ls 5 [(0, .ref a), (1, .ref (ad E a 61)), (2, .int (I i)), (3, .int (I (150 * a480 + z_2))), (4, .int (I v4q34))] := hl
    have rv4q34 : rng v4q34 := rv4q34
    have J_35_0 : 0 ≤ v4q34 := J_35_0
    have J_35_1 : v4q34 ≤ 240 := J_35_1
    have J_35_2 : v4q34 ≤ 4 * mS f61 i := J_35_2
    have J_35_3 : cpx f44 F44q33 f61 (150 * a480 + z_2) i v4q34 := J_35_3
    have J_35_4 : gI σ_J_35 a 48 = a480 := J_35_4
    have J_35_5 : aF σ_J_35 (ad E a 61) = f61 := J_35_5
    have J_35_6 : aF σ_J_35 (ad E a 46) = f46 := J_35_6
    have J_35_7 : aF σ_J_35 (ad E a 44) = F44q33 := J_35_7
    refine lv_iload hx hb dX11_addThings_29 (lv_at hl 4 rfl) ?_
    refine lv_iconst (v := I 4) hx hb dX11_addThings_31 (by decide) ?_
    refine lv_aload_n hx hb dX11_addThings_32 rfl (lv_at hl 1 rfl) ?_
    refine lv_iload_n hx hb dX11_addThings_33 rfl (lv_at hl 2 rfl) ?_
    refine th_calli (va_runS (As := [.ref (ad E a 61), .int (I i)]) (rest := [.int (I 4), .int (I v4q34)]) ⟨hx, hb, hml, hown, hts⟩ (w_size l G y b0 σ_J_35 E hO (ad E a 61) 240 f61 (hO.roww h_a k13_61 isA1 J_35_5 rfl) i (show rng i from ri) (by omega) (by omega) (by omega)) (va_cwS 2 hts gX11_addThings_X11_size rfl rfl rfl (by decide +kernel) ⟨Nat.le_of_ble_eq_true rfl, Nat.le_of_ble_eq_true rfl⟩) (th_PS hK hH) rfl rfl hl.1 rfl (lv_room (Nat.le_of_ble_eq_true rfl)) dX11_addThings_34 ⟨Nat.le_of_ble_eq_true rfl, Nat.le_of_ble_eq_true rfl⟩) hS (fun z_38 σ_s_37 H locs rz_38 hw_36 hH hS => ?_)
    obtain ⟨e9, hw_36⟩ := hw_36
    replace e9 := e9.symm
    subst e9
    have hw_36 : z_38 = mS f61 i := hw_36
    refine lv_imul hx hb dX11_addThings_37 ?_
    refine nq_top (I_mul _ _) ?_
    refine lv_icmp_ge (tgt := 66) hx hb dX11_addThings_38 (by decide) (fun c_39 => ?_) (fun c_39 => ?_)
    · replace c_39 := (I_le (a := 4 * z_38) (b := v4q34) ⟨by omega, by omega⟩ rv4q34).mp c_39
      refine lv_aload_n hx hb dX11_addThings_66 rfl (lv_at hl 0 rfl) ?_
      refine ok.getR hO h_a (by decide) k13_46 (by decide) (fun _ _ he hv kk => th_get (ci := 11) (C := RX11) (T := TX11) (N := 66) hx hb hts inX11 hown hK hH he rfl 46 (by decide) fl1 hv dX11_addThings_67 kk) ?_
      refine lv_aload_n hx hb dX11_addThings_70 rfl (lv_at hl 0 rfl) ?_
      refine ok.getIc hO h_a (by decide) k13_48 J_35_4 (fun _ _ he hv kk => th_get (ci := 11) (C := RX11) (T := TX11) (N := 66) hx hb hts inX11 hown hK hH he rfl 48 (by decide) fl0 hv dX11_addThings_71 kk) ?_
      refine lv_dup2_11 hx hb dX11_addThings_74 rfl rfl ?_
      refine m_iald hx hb hK hH hO h_a k13_46 isA1 J_35_6 ra480 (by omega) (by omega) dX11_addThings_75 (fun z_40 ez_40 rz_40 elx9 => ?_)
      have hzn : z_40 = z_2 := by have h9 := ez_40; rw [hw9] at h9; omega
      refine lv_aload_n hx hb dX11_addThings_76 rfl (lv_at hl 1 rfl) ?_
      refine lv_iload_n hx hb dX11_addThings_77 rfl (lv_at hl 2 rfl) ?_
      refine th_calli (va_runS (As := [.ref (ad E a 61), .int (I i)]) (rest := [.int (I z_40), .int (I a480), .ref (ad E a 46)]) ⟨hx, hb, hml, hown, hts⟩ (w_size l G y b0 σ_J_35 E hO (ad E a 61) 240 f61 (hO.roww h_a k13_61 isA1 J_35_5 rfl) i (show rng i from ri) (by omega) (by omega) (by omega)) (va_cwS 2 hts gX11_addThings_X11_size rfl rfl rfl (by decide +kernel) ⟨Nat.le_of_ble_eq_true rfl, Nat.le_of_ble_eq_true rfl⟩) (th_PS hK hH) rfl rfl hl.1 rfl (lv_room (Nat.le_of_ble_eq_true rfl)) dX11_addThings_78 ⟨Nat.le_of_ble_eq_true rfl, Nat.le_of_ble_eq_true rfl⟩) hS (fun z_43 σ_s_42 H locs rz_43 hw_41 hH hS => ?_)
      obtain ⟨e9, hw_41⟩ := hw_41
      replace e9 := e9.symm
      subst e9
      have hw_41 : z_43 = mS f61 i := hw_41
      refine lv_iadd hx hb dX11_addThings_81 ?_
      refine nq_top (I_add _ _) ?_
      refine m_iast hx hb hK hH hS h00 hO h_a k13_46 isA1 (by decide) J_35_6 ra480 (by omega) (by omega) ⟨by omega, by omega⟩ el1 dX11_addThings_82 (fun σ_s_44 H locs hO hF9 hM9 ha9 hH hS => ?_)
      replace hM := hM.tu hM9 (by decide)
      replace hF := hF.tu hF9 (by decide)
      have e_45 : gI σ_s_44 a 48 = a480 := (hM9.i (by decide)).trans J_35_4
      have e_46 : aF σ_s_44 (ad E a 61) = f61 := (hM9.a (by decide) (by decide)).trans J_35_5
      have e_47 : aF σ_s_44 (ad E a 44) = F44q33 := (hM9.a (by decide) (by decide)).trans J_35_7
      obtain ⟨g_48, dg_48⟩ : ∃ g9, g9 = upd f46 (a480).toNat (I (z_40 + z_43)) := ⟨_, rfl⟩
      rw [← dg_48] at ha9
      have ef_49 := ha9
      refine lv_iload_n hx hb dX11_addThings_83 rfl (lv_at hl 3 rfl) ?_
      exact th_iret hx hb hr hlocks hH hS (z := (150 * a480 + z_2)) ⟨by omega, by omega⟩ ⟨hO, hF, hM, by rw [show aF σ_s_44 (ad E a 44) = F44q33 from e_47, show aF σ_s_44 (ad E a 46) = g_48 from ef_49]; exact ⟨by omega, J_35_3.to (by omega), upd_to dg_48 (by rw [hw9]) (by omega)⟩⟩ dX11_addThings_84
    · replace c_39 := mt (I_le (a := 4 * z_38) (b := v4q34) ⟨by omega, by omega⟩ rv4q34).mpr c_39
      refine lv_aload_n hx hb dX11_addThings_41 rfl (lv_at hl 0 rfl) ?_
      refine ok.getR hO h_a (by decide) k13_44 (by decide) (fun _ _ he hv kk => th_get (ci := 11) (C := RX11) (T := TX11) (N := 66) hx hb hts inX11 hown hK hH he rfl 44 (by decide) fl2 hv dX11_addThings_42 kk) ?_
      refine lv_iconst (v := I 4) hx hb dX11_addThings_45 (by decide) ?_
      refine lv_iload_n hx hb dX11_addThings_46 rfl (lv_at hl 3 rfl) ?_
      refine lv_imul hx hb dX11_addThings_47 ?_
      refine nq_top (I_mul _ _) ?_
      refine lv_iload hx hb dX11_addThings_48 (lv_at hl 4 rfl) ?_
      refine lv_iadd hx hb dX11_addThings_50 ?_
      refine th_addo (fun z_50 rz_50 hz_50 => ?_)
      refine lv_aload_n hx hb dX11_addThings_51 rfl (lv_at hl 1 rfl) ?_
      refine lv_iconst (v := I 4) hx hb dX11_addThings_52 (by decide) ?_
      refine lv_iload_n hx hb dX11_addThings_53 rfl (lv_at hl 2 rfl) ?_
      refine lv_imul hx hb dX11_addThings_54 ?_
      refine nq_top (I_mul _ _) ?_
      refine lv_iload hx hb dX11_addThings_55 (lv_at hl 4 rfl) ?_
      refine lv_iadd hx hb dX11_addThings_57 ?_
      refine nq_top (I_add _ _) ?_
      refine m_iald hx hb hK hH hO h_a k13_61 isA1 J_35_5 ⟨by omega, by omega⟩ (by omega) (by omega) dX11_addThings_58 (fun z_51 ez_51 rz_51 elx9 => ?_)
      refine m_iast hx hb hK hH hS h00 hO h_a k13_44 isA1 (by decide) J_35_7 rz_50 (by omega) (by omega) rz_51 el1 dX11_addThings_59 (fun σ_s_52 H locs hO hF9 hM9 ha9 hH hS => ?_)
      replace hM := hM.tu hM9 (by decide)
      replace hF := hF.tu hF9 (by decide)
      have e_53 : gI σ_s_52 a 48 = a480 := (hM9.i (by decide)).trans J_35_4
      have e_54 : aF σ_s_52 (ad E a 61) = f61 := (hM9.a (by decide) (by decide)).trans J_35_5
      have e_55 : aF σ_s_52 (ad E a 46) = f46 := (hM9.a (by decide) (by decide)).trans J_35_6
      obtain ⟨g_56, dg_56⟩ : ∃ g9, g9 = upd F44q33 (z_50).toNat (I z_51) := ⟨_, rfl⟩
      rw [← dg_56] at ha9
      have ef_57 := ha9
      refine lv_iinc (v := I (v4q34 + 1)) (lv' := [(4, .int (I (v4q34 + 1))), (0, .ref a), (1, .ref (ad E a 61)), (2, .int (I i)), (3, .int (I (150 * a480 + z_2)))]) hx hb dX11_addThings_60 hl (k := 4) rfl (I_add _ _) (by decide) rfl (fun ls hl => ?_)
      refine lv_goto (tgt := 29) hx hb dX11_addThings_63 (by decide) ?_
      exact ihJ_35 (v4q34 + 1, g_56) σ_s_52 _ _ _ (by first | (dsimp only; omega) | omega) ⟨hO, hF, hM, hH, hS, lv_sub hl [1, 2, 3, 4, 0] rfl, ⟨by first | (dsimp only; omega) | omega, by first | (dsimp only; omega) | omega⟩, by first | (dsimp only; omega) | omega, by first | (dsimp only; omega) | omega, by first | (dsimp only; omega) | omega, (J_35_3.step dg_56 (by first | (dsimp only; omega) | omega) ez_51 (by first | (dsimp only; omega) | omega) (by first | (dsimp only; omega) | omega) (by first | (dsimp only; omega) | omega)), e_53, e_54, e_55, ef_57⟩
  · replace c_1 := (I_eq (a := i) (b := (-1)) ri (show rng (-1) from ⟨by decide, by decide⟩)).mp c_1
    exfalso; omega

set_option maxHeartbeats 4000000 in
set_option maxRecDepth 100000 in
theorem m_add1 (l : Launch) (G : va_G) (y : Nat → ClassId) (b0 : Nat) (σ : th_M) (E : th_E) (hO : ok y E σ) (a : Nat) (h_a : kd E a = 13) (i : Int) (ri : rng i) (l_i : 0 ≤ i) (u_i : i ≤ 59) (w : Int) (f1 : Nat → Int32) (ef1 : aF σ (ad E a 1) = f1) (f44 : Nat → Int32) (ef44 : aF σ (ad E a 44) = f44) (f46 : Nat → Int32) (ef46 : aF σ (ad E a 46) = f46) (hy0 : gI σ a 48 = w) (hy1 : 0 ≤ w ∧ w ≤ 1) (hy2 : 1 ≤ mS f1 i ∧ mS f1 i ≤ 60 ∧ i + mS f1 i ≤ 60) (hy3 : 0 ≤ (f46 w.toNat).toInt ∧ (f46 w.toNat).toInt + mS f1 i ≤ 150) : Met l yX11_addThings wsX11_addThings ({ frames := 1, cells := 0, slots := 0, locals := 25 }) (th_P G y b0 σ [.ref a, .ref (ad E a 1), .int (I i)]) (th_Qi G b0 (fun r σ1 => ok y E σ1 ∧ fr [13] E σ σ1 ∧ fm [44, 46] E σ σ1 a ∧ (r = 150 * w + (f46 w.toNat).toInt ∧ cpx f44 (aF σ1 (ad E a 44)) f1 r i (4 * mS f1 i) ∧ (aF σ1 (ad E a 46)) = upd f46 w.toNat (I ((f46 w.toNat).toInt + mS f1 i))))) 0 0 (th_A b0) := by
  refine Met.ofW (cc := cX11_addThings) (maxL := 5) (ret := (some .int)) (by decide) rfl ?_
  intro p e s m args below meth c s₁ B hml hv
  obtain ⟨rfl, hH, hK⟩ := hv
  have hx := B.exec
  have hb := B.bytes
  have hr := B.returns
  have hts := atoms_spec (ws := wsX11_addThings) B.pre
  have hown : s.vm.findClass RX11 = some m.cls := findClass_of_methodNamed B.named
  have hlocks := B.notSynchronized
  have h00 : b0 ≤ s.heap.size := hH.1
  have hS : va_S (th_A b0) s.heap s.heap [] := va_S.rf
  have hF : fr [13] E σ σ := fr.rf
  have hM : fm [44, 46] E σ σ a := fm.rf
  have inX11 : ∀ w ∈ wsX110, w ∈ wsX11_addThings := by decide +kernel
  have fl0 := hts (.fieldLink RX11 438 "NestQueryModel" "which" "I") (by decide +kernel)
  have fl1 := hts (.fieldLink RX11 72 "NestQueryModel" "poolMany" "[I") (by decide +kernel)
  have fl2 := hts (.fieldLink RX11 66 "NestQueryModel" "pool" "[I") (by decide +kernel)
  have hl := lv_entry ([.ref a, .ref (ad E a 1), .int (I i)]) (n := 5) (Nat.le_of_ble_eq_true rfl)
  rw [lg_entry_eq]
  generalize (lg_sl ([.ref a, .ref (ad E a 1), .int (I i)]) ++ List.replicate (5 - (lg_sl ([.ref a, .ref (ad E a 1), .int (I i)])).length) Slot.unset).toArray = ls at hl ⊢
  have hl : lv_has ls 5 [(0, .ref a), (1, .ref (ad E a 1)), (2, .int (I i))] := hl
  obtain ⟨a480, ea480, ra480, la480, ua480⟩ := hO.gi h_a (by decide) k13_48
  have hw9 : a480 = w := by omega
  refine lv_iload_n hx hb dX11_addThings_0 rfl (lv_at hl 2 rfl) ?_
  refine lv_iconst (v := I (-1)) hx hb dX11_addThings_1 (by decide) ?_
  refine lv_icmp_ne (tgt := 7) hx hb dX11_addThings_2 (by decide) (fun c_1 => ?_) (fun c_1 => ?_)
  · replace c_1 := mt (I_eq (a := i) (b := (-1)) ri (show rng (-1) from ⟨by decide, by decide⟩)).mpr c_1
    refine lv_sipush (v := I 150) hx hb dX11_addThings_7 (by decide) ?_
    refine lv_aload_n hx hb dX11_addThings_10 rfl (lv_at hl 0 rfl) ?_
    refine ok.getIc hO h_a (by decide) k13_48 ea480 (fun _ _ he hv kk => th_get (ci := 11) (C := RX11) (T := TX11) (N := 66) hx hb hts inX11 hown hK hH he rfl 48 (by decide) fl0 hv dX11_addThings_11 kk) ?_
    refine lv_imul hx hb dX11_addThings_14 ?_
    refine nq_top (I_mul _ _) ?_
    refine lv_aload_n hx hb dX11_addThings_15 rfl (lv_at hl 0 rfl) ?_
    refine ok.getR hO h_a (by decide) k13_46 (by decide) (fun _ _ he hv kk => th_get (ci := 11) (C := RX11) (T := TX11) (N := 66) hx hb hts inX11 hown hK hH he rfl 46 (by decide) fl1 hv dX11_addThings_16 kk) ?_
    refine lv_aload_n hx hb dX11_addThings_19 rfl (lv_at hl 0 rfl) ?_
    refine ok.getIc hO h_a (by decide) k13_48 ea480 (fun _ _ he hv kk => th_get (ci := 11) (C := RX11) (T := TX11) (N := 66) hx hb hts inX11 hown hK hH he rfl 48 (by decide) fl0 hv dX11_addThings_20 kk) ?_
    refine m_iald hx hb hK hH hO h_a k13_46 isA1 ef46 ra480 (by omega) (by omega) dX11_addThings_23 (fun z_2 ez_2 rz_2 elx9 => ?_)
    have hzm : (f46 w.toNat).toInt = z_2 := by rw [← hw9]; exact ez_2
    refine lv_iadd hx hb dX11_addThings_24 ?_
    refine nq_top (I_add _ _) ?_
    refine lv_istore_n (lv' := [(3, .int (I (150 * a480 + z_2))), (0, .ref a), (1, .ref (ad E a 1)), (2, .int (I i))]) hx hb dX11_addThings_25 rfl hl (by decide) rfl (fun ls hl => ?_)
    refine lv_iconst (v := I 0) hx hb dX11_addThings_26 (by decide) ?_
    refine lv_istore (lv' := [(4, .int (I 0)), (3, .int (I (150 * a480 + z_2))), (0, .ref a), (1, .ref (ad E a 1)), (2, .int (I i))]) hx hb dX11_addThings_27 hl (by decide) rfl (fun ls hl => ?_)
    refine th_loop (α := Int × (Nat → Int32)) (pc := 29) (fun x9 => (4 * mS f1 i - x9.1).toNat) (fun x9 σ9 H9 l9 ls9 => ok y E σ9 ∧ fr [13] E σ σ9 ∧ fm [44, 46] E σ σ9 a ∧ th_H G b0 σ9 H9 ∧ va_S (th_A b0) s.heap H9 l9 ∧ lv_has ls9 5 [(0, .ref a), (1, .ref (ad E a 1)), (2, .int (I i)), (3, .int (I (150 * a480 + z_2))), (4, .int (I x9.1))] ∧ rng x9.1 ∧ (0 ≤ x9.1) ∧ (x9.1 ≤ 240) ∧ (x9.1 ≤ 4 * mS f1 i) ∧ (cpx f44 x9.2 f1 (150 * a480 + z_2) i x9.1) ∧ (gI σ9 a 48 = a480) ∧ (aF σ9 (ad E a 1) = f1) ∧ (aF σ9 (ad E a 46) = f46) ∧ (aF σ9 (ad E a 44) = x9.2)) ?_ (0, f44) σ _ _ _ ⟨hO, hF, hM, hH, hS, lv_sub hl [2, 3, 4, 1, 0] rfl, (show rng 0 from ⟨by decide, by decide⟩), by first | (dsimp only; omega) | omega, by first | (dsimp only; omega) | omega, by first | (dsimp only; omega) | omega, cpx.zero, ea480, ef1, ef46, ef44⟩
    intro x9 σ_J_35 H locs ls hI9 ihJ_35
    obtain ⟨v4q34, F44q33⟩ := x9
    obtain ⟨hO, hF, hM, hH, hS, hl, rv4q34, J_35_0, J_35_1, J_35_2, J_35_3, J_35_4, J_35_5, J_35_6, J_35_7⟩ := hI9
    have hl : lv_has ls 5 [(0, .ref a), (1, .ref (ad E a 1)), (2, .int (I i)), (3, .int (I (150 * a480 + z_2))), (4, .int (I v4q34))] := hl
    have rv4q34 : rng v4q34 := rv4q34
    have J_35_0 : 0 ≤ v4q34 := J_35_0
    have J_35_1 : v4q34 ≤ 240 := J_35_1
    have J_35_2 : v4q34 ≤ 4 * mS f1 i := J_35_2
    have J_35_3 : cpx f44 F44q33 f1 (150 * a480 + z_2) i v4q34 := J_35_3
    have J_35_4 : gI σ_J_35 a 48 = a480 := J_35_4
    have J_35_5 : aF σ_J_35 (ad E a 1) = f1 := J_35_5
    have J_35_6 : aF σ_J_35 (ad E a 46) = f46 := J_35_6
    have J_35_7 : aF σ_J_35 (ad E a 44) = F44q33 := J_35_7
    refine lv_iload hx hb dX11_addThings_29 (lv_at hl 4 rfl) ?_
    refine lv_iconst (v := I 4) hx hb dX11_addThings_31 (by decide) ?_
    refine lv_aload_n hx hb dX11_addThings_32 rfl (lv_at hl 1 rfl) ?_
    refine lv_iload_n hx hb dX11_addThings_33 rfl (lv_at hl 2 rfl) ?_
    refine th_calli (va_runS (As := [.ref (ad E a 1), .int (I i)]) (rest := [.int (I 4), .int (I v4q34)]) ⟨hx, hb, hml, hown, hts⟩ (w_size l G y b0 σ_J_35 E hO (ad E a 1) 240 f1 (hO.roww h_a k13_1 isA1 J_35_5 rfl) i (show rng i from ri) (by omega) (by omega) (by omega)) (va_cwS 2 hts gX11_addThings_X11_size rfl rfl rfl (by decide +kernel) ⟨Nat.le_of_ble_eq_true rfl, Nat.le_of_ble_eq_true rfl⟩) (th_PS hK hH) rfl rfl hl.1 rfl (lv_room (Nat.le_of_ble_eq_true rfl)) dX11_addThings_34 ⟨Nat.le_of_ble_eq_true rfl, Nat.le_of_ble_eq_true rfl⟩) hS (fun z_38 σ_s_37 H locs rz_38 hw_36 hH hS => ?_)
    obtain ⟨e9, hw_36⟩ := hw_36
    replace e9 := e9.symm
    subst e9
    have hw_36 : z_38 = mS f1 i := hw_36
    refine lv_imul hx hb dX11_addThings_37 ?_
    refine nq_top (I_mul _ _) ?_
    refine lv_icmp_ge (tgt := 66) hx hb dX11_addThings_38 (by decide) (fun c_39 => ?_) (fun c_39 => ?_)
    · replace c_39 := (I_le (a := 4 * z_38) (b := v4q34) ⟨by omega, by omega⟩ rv4q34).mp c_39
      refine lv_aload_n hx hb dX11_addThings_66 rfl (lv_at hl 0 rfl) ?_
      refine ok.getR hO h_a (by decide) k13_46 (by decide) (fun _ _ he hv kk => th_get (ci := 11) (C := RX11) (T := TX11) (N := 66) hx hb hts inX11 hown hK hH he rfl 46 (by decide) fl1 hv dX11_addThings_67 kk) ?_
      refine lv_aload_n hx hb dX11_addThings_70 rfl (lv_at hl 0 rfl) ?_
      refine ok.getIc hO h_a (by decide) k13_48 J_35_4 (fun _ _ he hv kk => th_get (ci := 11) (C := RX11) (T := TX11) (N := 66) hx hb hts inX11 hown hK hH he rfl 48 (by decide) fl0 hv dX11_addThings_71 kk) ?_
      refine lv_dup2_11 hx hb dX11_addThings_74 rfl rfl ?_
      refine m_iald hx hb hK hH hO h_a k13_46 isA1 J_35_6 ra480 (by omega) (by omega) dX11_addThings_75 (fun z_40 ez_40 rz_40 elx9 => ?_)
      have hzn : z_40 = z_2 := by have h9 := ez_40; rw [hw9] at h9; omega
      refine lv_aload_n hx hb dX11_addThings_76 rfl (lv_at hl 1 rfl) ?_
      refine lv_iload_n hx hb dX11_addThings_77 rfl (lv_at hl 2 rfl) ?_
      refine th_calli (va_runS (As := [.ref (ad E a 1), .int (I i)]) (rest := [.int (I z_40), .int (I a480), .ref (ad E a 46)]) ⟨hx, hb, hml, hown, hts⟩ (w_size l G y b0 σ_J_35 E hO (ad E a 1) 240 f1 (hO.roww h_a k13_1 isA1 J_35_5 rfl) i (show rng i from ri) (by omega) (by omega) (by omega)) (va_cwS 2 hts gX11_addThings_X11_size rfl rfl rfl (by decide +kernel) ⟨Nat.le_of_ble_eq_true rfl, Nat.le_of_ble_eq_true rfl⟩) (th_PS hK hH) rfl rfl hl.1 rfl (lv_room (Nat.le_of_ble_eq_true rfl)) dX11_addThings_78 ⟨Nat.le_of_ble_eq_true rfl, Nat.le_of_ble_eq_true rfl⟩) hS (fun z_43 σ_s_42 H locs rz_43 hw_41 hH hS => ?_)
      obtain ⟨e9, hw_41⟩ := hw_41
      replace e9 := e9.symm
      subst e9
      have hw_41 : z_43 = mS f1 i := hw_41
      refine lv_iadd hx hb dX11_addThings_81 ?_
      refine nq_top (I_add _ _) ?_
      refine m_iast hx hb hK hH hS h00 hO h_a k13_46 isA1 (by decide) J_35_6 ra480 (by omega) (by omega) ⟨by omega, by omega⟩ el1 dX11_addThings_82 (fun σ_s_44 H locs hO hF9 hM9 ha9 hH hS => ?_)
      replace hM := hM.tu hM9 (by decide)
      replace hF := hF.tu hF9 (by decide)
      have e_45 : gI σ_s_44 a 48 = a480 := (hM9.i (by decide)).trans J_35_4
      have e_46 : aF σ_s_44 (ad E a 1) = f1 := (hM9.a (by decide) (by decide)).trans J_35_5
      have e_47 : aF σ_s_44 (ad E a 44) = F44q33 := (hM9.a (by decide) (by decide)).trans J_35_7
      obtain ⟨g_48, dg_48⟩ : ∃ g9, g9 = upd f46 (a480).toNat (I (z_40 + z_43)) := ⟨_, rfl⟩
      rw [← dg_48] at ha9
      have ef_49 := ha9
      refine lv_iload_n hx hb dX11_addThings_83 rfl (lv_at hl 3 rfl) ?_
      exact th_iret hx hb hr hlocks hH hS (z := (150 * a480 + z_2)) ⟨by omega, by omega⟩ ⟨hO, hF, hM, by rw [show aF σ_s_44 (ad E a 44) = F44q33 from e_47, show aF σ_s_44 (ad E a 46) = g_48 from ef_49]; exact ⟨by omega, J_35_3.to (by omega), upd_to dg_48 (by rw [hw9]) (by omega)⟩⟩ dX11_addThings_84
    · replace c_39 := mt (I_le (a := 4 * z_38) (b := v4q34) ⟨by omega, by omega⟩ rv4q34).mpr c_39
      refine lv_aload_n hx hb dX11_addThings_41 rfl (lv_at hl 0 rfl) ?_
      refine ok.getR hO h_a (by decide) k13_44 (by decide) (fun _ _ he hv kk => th_get (ci := 11) (C := RX11) (T := TX11) (N := 66) hx hb hts inX11 hown hK hH he rfl 44 (by decide) fl2 hv dX11_addThings_42 kk) ?_
      refine lv_iconst (v := I 4) hx hb dX11_addThings_45 (by decide) ?_
      refine lv_iload_n hx hb dX11_addThings_46 rfl (lv_at hl 3 rfl) ?_
      refine lv_imul hx hb dX11_addThings_47 ?_
      refine nq_top (I_mul _ _) ?_
      refine lv_iload hx hb dX11_addThings_48 (lv_at hl 4 rfl) ?_
      refine lv_iadd hx hb dX11_addThings_50 ?_
      refine th_addo (fun z_50 rz_50 hz_50 => ?_)
      refine lv_aload_n hx hb dX11_addThings_51 rfl (lv_at hl 1 rfl) ?_
      refine lv_iconst (v := I 4) hx hb dX11_addThings_52 (by decide) ?_
      refine lv_iload_n hx hb dX11_addThings_53 rfl (lv_at hl 2 rfl) ?_
      refine lv_imul hx hb dX11_addThings_54 ?_
      refine nq_top (I_mul _ _) ?_
      refine lv_iload hx hb dX11_addThings_55 (lv_at hl 4 rfl) ?_
      refine lv_iadd hx hb dX11_addThings_57 ?_
      refine nq_top (I_add _ _) ?_
      refine m_iald hx hb hK hH hO h_a k13_1 isA1 J_35_5 ⟨by omega, by omega⟩ (by omega) (by omega) dX11_addThings_58 (fun z_51 ez_51 rz_51 elx9 => ?_)
      refine m_iast hx hb hK hH hS h00 hO h_a k13_44 isA1 (by decide) J_35_7 rz_50 (by omega) (by omega) rz_51 el1 dX11_addThings_59 (fun σ_s_52 H locs hO hF9 hM9 ha9 hH hS => ?_)
      replace hM := hM.tu hM9 (by decide)
      replace hF := hF.tu hF9 (by decide)
      have e_53 : gI σ_s_52 a 48 = a480 := (hM9.i (by decide)).trans J_35_4
      have e_54 : aF σ_s_52 (ad E a 1) = f1 := (hM9.a (by decide) (by decide)).trans J_35_5
      have e_55 : aF σ_s_52 (ad E a 46) = f46 := (hM9.a (by decide) (by decide)).trans J_35_6
      obtain ⟨g_56, dg_56⟩ : ∃ g9, g9 = upd F44q33 (z_50).toNat (I z_51) := ⟨_, rfl⟩
      rw [← dg_56] at ha9
      have ef_57 := ha9
      refine lv_iinc (v := I (v4q34 + 1)) (lv' := [(4, .int (I (v4q34 + 1))), (0, .ref a), (1, .ref (ad E a 1)), (2, .int (I i)), (3, .int (I (150 * a480 + z_2)))]) hx hb dX11_addThings_60 hl (k := 4) rfl (I_add _ _) (by decide) rfl (fun ls hl => ?_)
      refine lv_goto (tgt := 29) hx hb dX11_addThings_63 (by decide) ?_
      exact ihJ_35 (v4q34 + 1, g_56) σ_s_52 _ _ _ (by first | (dsimp only; omega) | omega) ⟨hO, hF, hM, hH, hS, lv_sub hl [1, 2, 3, 4, 0] rfl, ⟨by first | (dsimp only; omega) | omega, by first | (dsimp only; omega) | omega⟩, by first | (dsimp only; omega) | omega, by first | (dsimp only; omega) | omega, by first | (dsimp only; omega) | omega, (J_35_3.step dg_56 (by first | (dsimp only; omega) | omega) ez_51 (by first | (dsimp only; omega) | omega) (by first | (dsimp only; omega) | omega) (by first | (dsimp only; omega) | omega)), e_53, e_54, e_55, ef_57⟩
  · replace c_1 := (I_eq (a := i) (b := (-1)) ri (show rng (-1) from ⟨by decide, by decide⟩)).mp c_1
    exfalso; omega
