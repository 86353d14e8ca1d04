set_option maxHeartbeats 4000000 in
set_option maxRecDepth 100000 in
theorem m_moves (l : Launch) (G : va_G) (y : Nat → ClassId) (b0 : Nat) (σ : th_M) (E : th_E) (hO : ok y E σ) (a : Nat) (h_a : kd E a = 13) (th : Int) (rth : rng th) (ot : Int) (rot : rng ot) (ky : Int) (rky : rng ky) (f1 : Nat → Int32) (ef1 : aF σ (ad E a 1) = f1) (f37 : Nat → Int32) (ef37 : aF σ (ad E a 37) = f37) (hy0 : wf f1 0 (mS f1 0)) (hy1 : 1 ≤ mS f1 0 ∧ mS f1 0 ≤ 60) (hy2 : tr f1) (hy3 : trs f37 (gI σ a 36)) : Met l yX11_moves wsX11_moves ({ frames := 4, cells := 0, slots := 0, locals := 103 }) (th_P G y b0 σ [.ref a, .int (I th), .int (I ot), .int (I ky)]) (th_Qi G b0 (fun r σ1 => ok y E σ1 ∧ fr [13] E σ σ1 ∧ fm [1, 3, 5, 31, 36, 37] E σ σ1 a ∧ (tr (aF σ1 (ad E a 1)) ∧ trs (aF σ1 (ad E a 37)) (gI σ1 a 36)))) 0 0 (th_A b0) := by
  refine Met.ofW (cc := cX11_moves) (maxL := 9) (ret := (some .int)) (by decide) rfl ?_
  intro p e s m args below meth c s₁ B hml hv
  obtain ⟨rfl, hH, hK⟩ := hv
  have hx := B.exec
  have hb := B.bytes
  have hr := B.returns
  have hts := atoms_spec (ws := wsX11_moves) B.pre
  have hown : s.vm.findClass RX11 = some m.cls := findClass_of_methodNamed B.named
  have hlocks := B.notSynchronized
  have h00 : b0 ≤ s.heap.size := hH.1
  have hS : va_S (th_A b0) s.heap s.heap [] := va_S.rf
  have hF : fr [13] E σ σ := fr.rf
  have hM : fm [1, 3, 5, 31, 36, 37] E σ σ a := fm.rf
  have inX11 : ∀ w ∈ wsX110, w ∈ wsX11_moves := by decide +kernel
  have fl0 := hts (.fieldLink RX11 9 "NestQueryModel" "tree" "[I") (by decide +kernel)
  have fl1 := hts (.fieldLink RX11 16 "NestQueryModel" "made" "[I") (by decide +kernel)
  have hl := lv_entry ([.ref a, .int (I th), .int (I ot), .int (I ky)]) (n := 9) (Nat.le_of_ble_eq_true rfl)
  rw [lg_entry_eq]
  generalize (lg_sl ([.ref a, .int (I th), .int (I ot), .int (I ky)]) ++ List.replicate (9 - (lg_sl ([.ref a, .int (I th), .int (I ot), .int (I ky)])).length) Slot.unset).toArray = ls at hl ⊢
  have hl : lv_has ls 9 [(0, .ref a), (1, .int (I th)), (2, .int (I ot)), (3, .int (I ky))] := hl
  obtain ⟨a360, ea360, ra360, la360, ua360⟩ := hO.gi h_a (by decide) k13_36
  refine lv_aload_n hx hb dX11_moves_0 rfl (lv_at hl 0 rfl) ?_
  refine lv_iload_n hx hb dX11_moves_1 rfl (lv_at hl 1 rfl) ?_
  obtain ⟨_, hc_1⟩ := hO.cell h_a (by decide) (ci := 11) rfl
  refine th_calli (va_runV (As := [.int (I th)]) (rest := []) ⟨hx, hb, hml, hown, hts⟩ (m_isThing l G y b0 σ E hO a h_a th (show rng th from rth) f1 ef1 (by omega)) (cwV 1 hts gX11_moves_X11_isThing rfl rfl rfl (by decide +kernel) ⟨Nat.le_of_ble_eq_true rfl, Nat.le_of_ble_eq_true rfl⟩) (th_PV hK hH rfl hc_1) rfl rfl hl.1 rfl (lv_room (Nat.le_of_ble_eq_true rfl)) dX11_moves_2 ⟨Nat.le_of_ble_eq_true rfl, Nat.le_of_ble_eq_true rfl⟩) hS (fun z_4 σ_s_3 H locs rz_4 hw_2 hH hS => ?_)
  obtain ⟨e9, bhw_2, hw_2⟩ := hw_2
  replace e9 := e9.symm
  subst e9
  have hw_2 : (z_4 = 1 ∧ 0 ≤ th ∧ th < mS f1 0) ∨ (z_4 = 0 ∧ ¬ (0 ≤ th ∧ th < mS f1 0)) := hw_2
  refine th_join (α := Int) (J := 44) (stk := fun x9 => [.int (I x9)]) (fun x9 σ9 H9 l9 ls9 => σ9 = σ ∧ th_H G b0 σ9 H9 ∧ va_S (th_A b0) s.heap H9 l9 ∧ lv_has ls9 9 [(0, .ref a), (1, .int (I th)), (2, .int (I ot)), (3, .int (I ky))] ∧ rng x9 ∧ (x9 = 0 ∨ (0 < th ∧ th < mS f1 0 ∧ 0 ≤ ot ∧ ot < mS f1 0 ∧ (ot < th ∨ th + mS f1 th ≤ ot))) ∧ (x9 = 0 ∨ x9 = 1)) ?_ (fun jK_18 => ?_)
  · intro x9 σ_K_18 H locs ls hI9
    obtain ⟨w0q17, ex9⟩ : ∃ z, z = x9 := ⟨_, rfl⟩
    subst ex9
    obtain ⟨eK_18, hH, hS, hl, rw0q17, K_18_0, K_18_1⟩ := hI9
    replace eK_18 := eK_18.symm
    subst eK_18
    have hl : lv_has ls 9 [(0, .ref a), (1, .int (I th)), (2, .int (I ot)), (3, .int (I ky))] := hl
    have rw0q17 : rng w0q17 := rw0q17
    have K_18_0 : w0q17 = 0 ∨ (0 < th ∧ th < mS f1 0 ∧ 0 ≤ ot ∧ ot < mS f1 0 ∧ (ot < th ∨ th + mS f1 th ≤ ot)) := K_18_0
    have K_18_1 : w0q17 = 0 ∨ w0q17 = 1 := K_18_1
    refine lv_istore (lv' := [(4, .int (I w0q17)), (0, .ref a), (1, .int (I th)), (2, .int (I ot)), (3, .int (I ky))]) hx hb dX11_moves_44 hl (by decide) rfl (fun ls hl => ?_)
    refine lv_iload hx hb dX11_moves_46 (lv_at hl 0 rfl) ?_
    refine lv_if_eq (tgt := 62) hx hb dX11_moves_48 (by decide) (fun c_19 => ?_) (fun c_19 => ?_)
    · replace c_19 := (I_eq (a := w0q17) (b := 0) rw0q17 (show rng 0 from ⟨by decide, by decide⟩)).mp c_19
      refine lv_iconst (v := I (-1)) hx hb dX11_moves_62 (by decide) ?_
      exact th_iret hx hb hr hlocks hH hS (z := (-1)) (show rng (-1) from ⟨by decide, by decide⟩) ⟨hO, hF, hM, by rw [show aF σ (ad E a 1) = f1 from ef1, show aF σ (ad E a 37) = f37 from ef37]; exact ⟨hy2, hy3.le (by omega)⟩⟩ dX11_moves_63
    · replace c_19 := mt (I_eq (a := w0q17) (b := 0) rw0q17 (show rng 0 from ⟨by decide, by decide⟩)).mpr c_19
      refine lv_aload_n hx hb dX11_moves_51 rfl (lv_at hl 1 rfl) ?_
      refine ok.getR hO h_a (by decide) k13_1 (by decide) (fun _ _ he hv kk => th_get (ci := 11) (C := RX11) (T := TX11) (N := 66) hx hb hts inX11 hown hK hH he rfl 1 (by decide) fl0 hv dX11_moves_52 kk) ?_
      refine lv_iload_n hx hb dX11_moves_55 rfl (lv_at hl 3 rfl) ?_
      refine th_calli (va_runS (As := [.ref (ad E a 1), .int (I ot)]) (rest := []) ⟨hx, hb, hml, hown, hts⟩ (w_holds l G y b0 σ E hO (ad E a 1) 240 f1 (hO.roww h_a k13_1 isA1 ef1 rfl) ot (show rng ot from rot) (by omega) (by omega) (by omega)) (va_cwS 2 hts gX11_moves_X11_holds rfl rfl rfl (by decide +kernel) ⟨Nat.le_of_ble_eq_true rfl, Nat.le_of_ble_eq_true rfl⟩) (th_PS hK hH) rfl rfl hl.1 rfl (lv_room (Nat.le_of_ble_eq_true rfl)) dX11_moves_56 ⟨Nat.le_of_ble_eq_true rfl, Nat.le_of_ble_eq_true rfl⟩) hS (fun z_22 σ_s_21 H locs rz_22 hw_20 hH hS => ?_)
      obtain ⟨e9, bhw_20, hw_20⟩ := hw_20
      replace e9 := e9.symm
      subst e9
      have hw_20 : (z_22 = 1 ∧ 2 ≤ mK f1 ot) ∨ (z_22 = 0 ∧ ¬ 2 ≤ mK f1 ot) := hw_20
      refine lv_if_ne (tgt := 64) hx hb dX11_moves_59 (by decide) (fun c_23 => ?_) (fun c_23 => ?_)
      · replace c_23 := mt (I_eq (a := z_22) (b := 0) rz_22 (show rng 0 from ⟨by decide, by decide⟩)).mpr c_23
        refine lv_aload_n hx hb dX11_moves_64 rfl (lv_at hl 1 rfl) ?_
        refine ok.getR hO h_a (by decide) k13_1 (by decide) (fun _ _ he hv kk => th_get (ci := 11) (C := RX11) (T := TX11) (N := 66) hx hb hts inX11 hown hK hH he rfl 1 (by decide) fl0 hv dX11_moves_65 kk) ?_
        refine lv_iload_n hx hb dX11_moves_68 rfl (lv_at hl 3 rfl) ?_
        refine th_calli (va_runS (As := [.ref (ad E a 1), .int (I ot)]) (rest := []) ⟨hx, hb, hml, hown, hts⟩ (w_kind l G y b0 σ E hO (ad E a 1) 240 f1 (hO.roww h_a k13_1 isA1 ef1 rfl) ot (show rng ot from rot) (by omega) (by omega) (by omega)) (va_cwS 2 hts gX11_moves_X11_kind rfl rfl rfl (by decide +kernel) ⟨Nat.le_of_ble_eq_true rfl, Nat.le_of_ble_eq_true rfl⟩) (th_PS hK hH) rfl rfl hl.1 rfl (lv_room (Nat.le_of_ble_eq_true rfl)) dX11_moves_69 ⟨Nat.le_of_ble_eq_true rfl, Nat.le_of_ble_eq_true rfl⟩) hS (fun z_26 σ_s_25 H locs rz_26 hw_24 hH hS => ?_)
        obtain ⟨e9, hw_24⟩ := hw_24
        replace e9 := e9.symm
        subst e9
        have hw_24 : z_26 = mK f1 ot := hw_24
        refine lv_iconst (v := I 2) hx hb dX11_moves_72 (by decide) ?_
        refine th_join (α := Int) (J := 113) (stk := fun x9 => [.int (I x9)]) (fun x9 σ9 H9 l9 ls9 => σ9 = σ ∧ th_H G b0 σ9 H9 ∧ va_S (th_A b0) s.heap H9 l9 ∧ lv_has ls9 9 [(0, .ref a), (1, .int (I th)), (2, .int (I ot)), (3, .int (I ky))] ∧ rng x9 ∧ (x9 = 0 ∨ gk f1 ot ky) ∧ (x9 = 0 ∨ x9 = 1)) ?_ (fun jK_38 => ?_)
        · intro x9 σ_K_38 H locs ls hI9
          obtain ⟨w0q37, ex9⟩ : ∃ z, z = x9 := ⟨_, rfl⟩
          subst ex9
          obtain ⟨eK_38, hH, hS, hl, rw0q37, K_38_0, K_38_1⟩ := hI9
          replace eK_38 := eK_38.symm
          subst eK_38
          have hl : lv_has ls 9 [(0, .ref a), (1, .int (I th)), (2, .int (I ot)), (3, .int (I ky))] := hl
          have rw0q37 : rng w0q37 := rw0q37
          have K_38_0 : w0q37 = 0 ∨ gk f1 ot ky := K_38_0
          have K_38_1 : w0q37 = 0 ∨ w0q37 = 1 := K_38_1
          refine lv_istore (lv' := [(5, .int (I w0q37)), (0, .ref a), (1, .int (I th)), (2, .int (I ot)), (3, .int (I ky))]) hx hb dX11_moves_113 hl (by decide) rfl (fun ls hl => ?_)
          refine lv_iload hx hb dX11_moves_115 (lv_at hl 0 rfl) ?_
          refine lv_if_ne (tgt := 122) hx hb dX11_moves_117 (by decide) (fun c_39 => ?_) (fun c_39 => ?_)
          · replace c_39 := mt (I_eq (a := w0q37) (b := 0) rw0q37 (show rng 0 from ⟨by decide, by decide⟩)).mpr c_39
            have hgk := K_38_0.resolve_left (by omega)
            refine lv_aload_n hx hb dX11_moves_122 rfl (lv_at hl 1 rfl) ?_
            obtain ⟨_, hc_40⟩ := hO.cell h_a (by decide) (ci := 11) rfl
            refine th_callv (va_runV (As := []) (rest := []) ⟨hx, hb, hml, hown, hts⟩ (m_takeTree l G y b0 σ E hO a h_a f1 ef1 (by omega)) (cwV 0 hts gX11_moves_X11_takeTree rfl rfl rfl (by decide +kernel) ⟨Nat.le_of_ble_eq_true rfl, Nat.le_of_ble_eq_true rfl⟩) (th_PV hK hH rfl hc_40) rfl rfl hl.1 rfl (lv_room (Nat.le_of_ble_eq_true rfl)) dX11_moves_123 ⟨Nat.le_of_ble_eq_true rfl, Nat.le_of_ble_eq_true rfl⟩) hS (fun σ_s_42 H locs hw_41 hH hS => ?_)
            obtain ⟨hO9, hF9, hM9, hw_41⟩ := hw_41
            replace hM := hM.tu hM9 (by decide)
            replace hF := hF.tu hF9 (by decide)
            have e_43 : aF σ_s_42 (ad E a 1) = f1 := (hM9.a (by decide) (by decide)).trans ef1
            have e_44 : aF σ_s_42 (ad E a 37) = f37 := (hM9.a (by decide) (by decide)).trans ef37
            have e_45 : gI σ_s_42 a 36 = a360 := (hM9.i (by decide)).trans ea360
            replace hO := hO9
            generalize ef_47 : aF σ_s_42 (ad E a 3) = g_46 at hw_41
            have hw_41 : same f1 g_46 0 (mS f1 0) 0 ∧ gI σ_s_42 a 5 = mS f1 0 := hw_41
            have hsm := hw_41.1
            have hk1 := hy0 th (by omega) (by omega)
            have hMa : mT g_46 0 (mS f1 0) := hy2.1.to hsm
            have hth := hsm.all (by omega : (0 : Int) ≤ th) (by omega)
            have hn1 := hth.1
            have hz0 := (hsm.all (Int.le_refl 0) (by omega)).1
            refine lv_aload_n hx hb dX11_moves_126 rfl (lv_at hl 1 rfl) ?_
            refine ok.getR hO h_a (by decide) k13_1 (by decide) (fun _ _ he hv kk => th_get (ci := 11) (C := RX11) (T := TX11) (N := 66) hx hb hts inX11 hown hK hH he rfl 1 (by decide) fl0 hv dX11_moves_127 kk) ?_
            refine lv_iload_n hx hb dX11_moves_130 rfl (lv_at hl 2 rfl) ?_
            refine th_calli (va_runS (As := [.ref (ad E a 1), .int (I th)]) (rest := []) ⟨hx, hb, hml, hown, hts⟩ (w_size l G y b0 σ_s_42 E hO (ad E a 1) 240 f1 (hO.roww h_a k13_1 isA1 e_43 rfl) th (show rng th from rth) (by omega) (by omega) (by omega)) (va_cwS 2 hts gX11_moves_X11_size rfl rfl rfl (by decide +kernel) ⟨Nat.le_of_ble_eq_true rfl, Nat.le_of_ble_eq_true rfl⟩) (th_PS hK hH) rfl rfl hl.1 rfl (lv_room (Nat.le_of_ble_eq_true rfl)) dX11_moves_131 ⟨Nat.le_of_ble_eq_true rfl, Nat.le_of_ble_eq_true rfl⟩) hS (fun z_50 σ_s_49 H locs rz_50 hw_48 hH hS => ?_)
            obtain ⟨e9, hw_48⟩ := hw_48
            replace e9 := e9.symm
            subst e9
            have hw_48 : z_50 = mS f1 th := hw_48
            refine lv_istore (lv' := [(6, .int (I z_50)), (5, .int (I w0q37)), (0, .ref a), (1, .int (I th)), (2, .int (I ot)), (3, .int (I ky))]) hx hb dX11_moves_134 hl (by decide) rfl (fun ls hl => ?_)
            refine lv_aload_n hx hb dX11_moves_136 rfl (lv_at hl 2 rfl) ?_
            refine lv_aload_n hx hb dX11_moves_137 rfl (lv_at hl 2 rfl) ?_
            refine ok.getR hO h_a (by decide) k13_1 (by decide) (fun _ _ he hv kk => th_get (ci := 11) (C := RX11) (T := TX11) (N := 66) hx hb hts inX11 hown hK hH he rfl 1 (by decide) fl0 hv dX11_moves_138 kk) ?_
            refine lv_iload_n hx hb dX11_moves_141 rfl (lv_at hl 3 rfl) ?_
            obtain ⟨z_51, e_52, rz_51, lz_51, uz_51⟩ := hO.gi h_a (by decide) k13_5
            obtain ⟨f_53, ef_54⟩ : ∃ f9, aF σ_s_42 (ad E a 31) = f9 := ⟨_, rfl⟩
            obtain ⟨_, hc_55⟩ := hO.cell h_a (by decide) (ci := 11) rfl
            refine th_callv (va_runV (As := [.ref (ad E a 1), .int (I th)]) (rest := []) ⟨hx, hb, hml, hown, hts⟩ (m_lift1 l G y b0 σ_s_42 E hO a h_a th (show rng th from rth) (by omega) (by omega) f1 e_43 f_53 ef_54 ((hy2.1.sub (by omega) (by omega))) (by omega) (by omega)) (cwV 2 hts gX11_moves_X11_lift rfl rfl rfl (by decide +kernel) ⟨Nat.le_of_ble_eq_true rfl, Nat.le_of_ble_eq_true rfl⟩) (th_PV hK hH rfl hc_55) rfl rfl hl.1 rfl (lv_room (Nat.le_of_ble_eq_true rfl)) dX11_moves_142 ⟨Nat.le_of_ble_eq_true rfl, Nat.le_of_ble_eq_true rfl⟩) hS (fun σ_s_57 H locs hw_56 hH hS => ?_)
            obtain ⟨hO9, hF9, hM9, hw_56⟩ := hw_56
            replace hM := hM.tu hM9 (by decide)
            replace hF := hF.tu hF9 (by decide)
            have e_58 : aF σ_s_57 (ad E a 1) = f1 := (hM9.a (by decide) (by decide)).trans e_43
            have e_59 : aF σ_s_57 (ad E a 37) = f37 := (hM9.a (by decide) (by decide)).trans e_44
            have e_60 : gI σ_s_57 a 36 = a360 := (hM9.i (by decide)).trans e_45
            have e_61 : aF σ_s_57 (ad E a 3) = g_46 := (hM9.a (by decide) (by decide)).trans ef_47
            have e_62 : gI σ_s_57 a 5 = z_51 := (hM9.i (by decide)).trans e_52
            replace hO := hO9
            generalize ef_64 : aF σ_s_57 (ad E a 31) = g_63 at hw_56
            have hw_56 : mT g_63 0 (mS f1 th) ∧ mS g_63 0 = mS f1 th := hw_56
            refine lv_aload_n hx hb dX11_moves_145 rfl (lv_at hl 2 rfl) ?_
            refine lv_iload_n hx hb dX11_moves_146 rfl (lv_at hl 3 rfl) ?_
            obtain ⟨_, hc_65⟩ := hO.cell h_a (by decide) (ci := 11) rfl
            refine th_callv (va_runV (As := [.int (I th)]) (rest := []) ⟨hx, hb, hml, hown, hts⟩ (m_cut l G y b0 σ_s_57 E hO a h_a th (show rng th from rth) (by omega) (by omega) g_46 e_61 ((by rw [show gI σ_s_57 a 5 = mS f1 0 by omega]; exact hMa)) (by omega)) (cwV 1 hts gX11_moves_X11_cut rfl rfl rfl (by decide +kernel) ⟨Nat.le_of_ble_eq_true rfl, Nat.le_of_ble_eq_true rfl⟩) (th_PV hK hH rfl hc_65) rfl rfl hl.1 rfl (lv_room (Nat.le_of_ble_eq_true rfl)) dX11_moves_147 ⟨Nat.le_of_ble_eq_true rfl, Nat.le_of_ble_eq_true rfl⟩) hS (fun σ_s_67 H locs hw_66 hH hS => ?_)
            obtain ⟨hO9, hF9, hM9, hw_66⟩ := hw_66
            replace hM := hM.tu hM9 (by decide)
            replace hF := hF.tu hF9 (by decide)
            have e_68 : aF σ_s_67 (ad E a 1) = f1 := (hM9.a (by decide) (by decide)).trans e_58
            have e_69 : aF σ_s_67 (ad E a 37) = f37 := (hM9.a (by decide) (by decide)).trans e_59
            have e_70 : gI σ_s_67 a 36 = a360 := (hM9.i (by decide)).trans e_60
            have e_71 : aF σ_s_67 (ad E a 31) = g_63 := (hM9.a (by decide) (by decide)).trans ef_64
            replace hO := hO9
            generalize ef_73 : aF σ_s_67 (ad E a 3) = g_72 at hw_66
            have hw_66 : cutr g_46 g_72 th (mS g_46 th) (gI σ_s_57 a 5) ∧ gI σ_s_67 a 5 = gI σ_s_57 a 5 - mS g_46 th := hw_66
            refine lv_iload_n hx hb dX11_moves_150 rfl (lv_at hl 4 rfl) ?_
            refine lv_iload_n hx hb dX11_moves_151 rfl (lv_at hl 3 rfl) ?_
            refine lv_icmp_le (tgt := 162) hx hb dX11_moves_152 (by decide) (fun c_74 => ?_) (fun c_74 => ?_)
            · replace c_74 := (I_le (a := ot) (b := th) rot rth).mp c_74
              refine lv_iload_n hx hb dX11_moves_162 rfl (lv_at hl 4 rfl) ?_
              refine lv_istore (lv' := [(7, .int (I ot)), (6, .int (I z_50)), (5, .int (I w0q37)), (0, .ref a), (1, .int (I th)), (2, .int (I ot)), (3, .int (I ky))]) hx hb dX11_moves_163 hl (by decide) rfl (fun ls hl => ?_)
              have hC9 := hw_66.1
              rw [show gI σ_s_57 a 5 = mS f1 0 by omega, hth.1] at hC9
              have hM8 := hMa.cut hC9 hth.1.symm (by omega) (by omega)
              have hR8 := hC9.root hMa.1 hth.1.symm (by omega) (by omega) (by omega)
              have hK8 := keys_cut (i := ot) (P := ot) (v := ky) hMa hC9 hth.1.symm (by omega) (by omega) (by omega) (by omega) (by omega) (fun h8 => (hgk.to hsm hy0 (by omega) (by omega) (by omega)) h8)
              have hk8 := hM8.1 ot (by omega) (by omega)
              refine lv_iload hx hb dX11_moves_165 (lv_at hl 0 rfl) ?_
              refine lv_aload_n hx hb dX11_moves_167 rfl (lv_at hl 3 rfl) ?_
              refine ok.getR hO h_a (by decide) k13_3 (by decide) (fun _ _ he hv kk => th_get (ci := 11) (C := RX11) (T := TX11) (N := 66) hx hb hts inX11 hown hK hH he rfl 3 (by decide) fl1 hv dX11_moves_168 kk) ?_
              refine lv_iload hx hb dX11_moves_171 (lv_at hl 0 rfl) ?_
              refine th_calli (va_runS (As := [.ref (ad E a 3), .int (I ot)]) (rest := [.int (I ot)]) ⟨hx, hb, hml, hown, hts⟩ (w_size l G y b0 σ_s_67 E hO (ad E a 3) 16000 g_72 (hO.roww h_a k13_3 isA1 ef_73 rfl) ot (show rng ot from rot) (by omega) (by omega) (by omega)) (va_cwS 2 hts gX11_moves_X11_size rfl rfl rfl (by decide +kernel) ⟨Nat.le_of_ble_eq_true rfl, Nat.le_of_ble_eq_true rfl⟩) (th_PS hK hH) rfl rfl hl.1 rfl (lv_room (Nat.le_of_ble_eq_true rfl)) dX11_moves_173 ⟨Nat.le_of_ble_eq_true rfl, Nat.le_of_ble_eq_true rfl⟩) hS (fun z_77 σ_s_76 H locs rz_77 hw_75 hH hS => ?_)
              obtain ⟨e9, hw_75⟩ := hw_75
              replace e9 := e9.symm
              subst e9
              have hw_75 : z_77 = mS g_72 ot := hw_75
              refine lv_iadd hx hb dX11_moves_176 ?_
              refine nq_top (I_add _ _) ?_
              refine lv_istore (lv' := [(8, .int (I (ot + z_77))), (7, .int (I ot)), (6, .int (I z_50)), (5, .int (I w0q37)), (0, .ref a), (1, .int (I th)), (2, .int (I ot)), (3, .int (I ky))]) hx hb dX11_moves_177 hl (by decide) rfl (fun ls hl => ?_)
              refine lv_aload_n hx hb dX11_moves_179 rfl (lv_at hl 4 rfl) ?_
              refine lv_iload hx hb dX11_moves_180 (lv_at hl 1 rfl) ?_
              refine lv_iload hx hb dX11_moves_182 (lv_at hl 0 rfl) ?_
              refine lv_iload_n hx hb dX11_moves_184 rfl (lv_at hl 7 rfl) ?_
              obtain ⟨_, hc_78⟩ := hO.cell h_a (by decide) (ci := 11) rfl
              refine th_callv (va_runV (As := [.int (I ot), .int (I (ot + z_77)), .int (I ky)]) (rest := []) ⟨hx, hb, hml, hown, hts⟩ (m_layInto l G y b0 σ_s_67 E hO a h_a ot (show rng ot from rot) (by omega) (by omega) (ot + z_77) (show rng (ot + z_77) from ⟨by omega, by omega⟩) (by omega) (by omega) ky (show rng ky from rky) g_72 ef_73 g_63 e_71 ((by rw [show gI σ_s_67 a 5 = mS f1 0 - mS f1 th by omega]; exact hM8)) ((by have h9 := spot_end hM8.1 (q := ot) (by omega) (by omega); rw [show ot + mS g_72 ot = ot + z_77 by omega] at h9; rw [show gI σ_s_67 a 5 = mS f1 0 - mS f1 th by omega]; exact h9)) (by omega) (by omega)) (cwV 3 hts gX11_moves_X11_layInto rfl rfl rfl (by decide +kernel) ⟨Nat.le_of_ble_eq_true rfl, Nat.le_of_ble_eq_true rfl⟩) (th_PV hK hH rfl hc_78) rfl rfl hl.1 rfl (lv_room (Nat.le_of_ble_eq_true rfl)) dX11_moves_185 ⟨Nat.le_of_ble_eq_true rfl, Nat.le_of_ble_eq_true rfl⟩) hS (fun σ_s_80 H locs hw_79 hH hS => ?_)
              obtain ⟨hO9, hF9, hM9, hw_79⟩ := hw_79
              replace hM := hM.tu hM9 (by decide)
              replace hF := hF.tu hF9 (by decide)
              have e_81 : aF σ_s_80 (ad E a 1) = f1 := (hM9.a (by decide) (by decide)).trans e_68
              have e_82 : aF σ_s_80 (ad E a 37) = f37 := (hM9.a (by decide) (by decide)).trans e_69
              have e_83 : gI σ_s_80 a 36 = a360 := (hM9.i (by decide)).trans e_70
              have e_84 : aF σ_s_80 (ad E a 31) = g_63 := (hM9.a (by decide) (by decide)).trans e_71
              replace hO := hO9
              generalize ef_86 : aF σ_s_80 (ad E a 3) = g_85 at hw_79
              have hw_79 : layr g_72 g_85 g_63 ot (ot + z_77) (mS g_63 0) ky (gI σ_s_67 a 5) ∧ gI σ_s_80 a 5 = gI σ_s_67 a 5 + mS g_63 0 := hw_79
              have hL9 := hw_79.1
              have hn2 := hw_56.2
              rw [show gI σ_s_67 a 5 = mS f1 0 - mS f1 th by omega, hn2] at hL9
              have hsp := spot_end hM8.1 (q := ot) (by omega) (by omega)
              rw [show ot + mS g_72 ot = ot + z_77 by omega] at hsp
              have hM7 := hM8.lay hL9 (by omega) hsp hw_56.1 hn2 hK8.2
              have hR7 := hL9.root hM8.1 (by omega) hsp hR8
              rw [show mS f1 0 - mS f1 th + mS f1 th = gI σ_s_80 a 5 by omega] at hM7 hR7
              refine lv_aload_n hx hb dX11_moves_188 rfl (lv_at hl 4 rfl) ?_
              obtain ⟨z_87, e_88, rz_87, lz_87, uz_87⟩ := hO.gi h_a (by decide) k13_5
              obtain ⟨_, hc_89⟩ := hO.cell h_a (by decide) (ci := 11) rfl
              refine th_calli (va_runV (As := []) (rest := []) ⟨hx, hb, hml, hown, hts⟩ (m_becomesTree l G y b0 σ_s_80 E hO a h_a f1 e_81 g_85 ef_86 f37 e_82 (hy2) ((hy3.le (by omega))) (hM7) (by omega) (by omega)) (cwV 0 hts gX11_moves_X11_becomesTree rfl rfl rfl (by decide +kernel) ⟨Nat.le_of_ble_eq_true rfl, Nat.le_of_ble_eq_true rfl⟩) (th_PV hK hH rfl hc_89) rfl rfl hl.1 rfl (lv_room (Nat.le_of_ble_eq_true rfl)) dX11_moves_189 ⟨Nat.le_of_ble_eq_true rfl, Nat.le_of_ble_eq_true rfl⟩) hS (fun z_92 σ_s_91 H locs rz_92 hw_90 hH hS => ?_)
              obtain ⟨hO9, hF9, hM9, bhw_90, hw_90⟩ := hw_90
              replace hM := hM.tu hM9 (by decide)
              replace hF := hF.tu hF9 (by decide)
              have e_93 : aF σ_s_91 (ad E a 31) = g_63 := (hM9.a (by decide) (by decide)).trans e_84
              have e_94 : aF σ_s_91 (ad E a 3) = g_85 := (hM9.a (by decide) (by decide)).trans ef_86
              have e_95 : gI σ_s_91 a 5 = z_87 := (hM9.i (by decide)).trans e_88
              replace hO := hO9
              generalize ef_97 : aF σ_s_91 (ad E a 1) = g_96 at hw_90
              generalize ef_99 : aF σ_s_91 (ad E a 37) = g_98 at hw_90
              have hw_90 : tr g_96 ∧ trs g_98 (gI σ_s_91 a 36) := hw_90
              refine lv_if_eq (tgt := 200) hx hb dX11_moves_192 (by decide) (fun c_100 => ?_) (fun c_100 => ?_)
              · replace c_100 := (I_eq (a := z_92) (b := 0) rz_92 (show rng 0 from ⟨by decide, by decide⟩)).mp c_100
                refine lv_iconst (v := I (-1)) hx hb dX11_moves_200 (by decide) ?_
                exact th_iret hx hb hr hlocks hH hS (z := (-1)) (show rng (-1) from ⟨by decide, by decide⟩) ⟨hO, hF, hM, by have h9 := hw_90; rw [show aF σ_s_91 (ad E a 1) = g_96 from ef_97, show aF σ_s_91 (ad E a 37) = g_98 from ef_99]; exact ⟨h9.1, h9.2⟩⟩ dX11_moves_201
              · replace c_100 := mt (I_eq (a := z_92) (b := 0) rz_92 (show rng 0 from ⟨by decide, by decide⟩)).mpr c_100
                refine lv_iload hx hb dX11_moves_195 (lv_at hl 0 rfl) ?_
                refine lv_goto (tgt := 201) hx hb dX11_moves_197 (by decide) ?_
                exact th_iret hx hb hr hlocks hH hS (z := (ot + z_77)) ⟨by omega, by omega⟩ ⟨hO, hF, hM, by have h9 := hw_90; rw [show aF σ_s_91 (ad E a 1) = g_96 from ef_97, show aF σ_s_91 (ad E a 37) = g_98 from ef_99]; exact ⟨h9.1, h9.2⟩⟩ dX11_moves_201
            · replace c_74 := mt (I_le (a := ot) (b := th) rot rth).mpr c_74
              refine lv_iload_n hx hb dX11_moves_155 rfl (lv_at hl 4 rfl) ?_
              refine lv_iload hx hb dX11_moves_156 (lv_at hl 0 rfl) ?_
              refine lv_isub hx hb dX11_moves_158 ?_
              refine nq_top (I_sub _ _) ?_
              refine lv_goto (tgt := 163) hx hb dX11_moves_159 (by decide) ?_
              refine lv_istore (lv' := [(7, .int (I (ot - z_50))), (6, .int (I z_50)), (5, .int (I w0q37)), (0, .ref a), (1, .int (I th)), (2, .int (I ot)), (3, .int (I ky))]) hx hb dX11_moves_163 hl (by decide) rfl (fun ls hl => ?_)
              have hC9 := hw_66.1
              rw [show gI σ_s_57 a 5 = mS f1 0 by omega, hth.1] at hC9
              have hM8 := hMa.cut hC9 hth.1.symm (by omega) (by omega)
              have hR8 := hC9.root hMa.1 hth.1.symm (by omega) (by omega) (by omega)
              have hK8 := keys_cut (i := (ot - z_50)) (P := ot) (v := ky) hMa hC9 hth.1.symm (by omega) (by omega) (by omega) (by omega) (by omega) (fun h8 => (hgk.to hsm hy0 (by omega) (by omega) (by omega)) h8)
              have hk8 := hM8.1 (ot - z_50) (by omega) (by omega)
              refine lv_iload hx hb dX11_moves_165 (lv_at hl 0 rfl) ?_
              refine lv_aload_n hx hb dX11_moves_167 rfl (lv_at hl 3 rfl) ?_
              refine ok.getR hO h_a (by decide) k13_3 (by decide) (fun _ _ he hv kk => th_get (ci := 11) (C := RX11) (T := TX11) (N := 66) hx hb hts inX11 hown hK hH he rfl 3 (by decide) fl1 hv dX11_moves_168 kk) ?_
              refine lv_iload hx hb dX11_moves_171 (lv_at hl 0 rfl) ?_
              refine th_calli (va_runS (As := [.ref (ad E a 3), .int (I (ot - z_50))]) (rest := [.int (I (ot - z_50))]) ⟨hx, hb, hml, hown, hts⟩ (w_size l G y b0 σ_s_67 E hO (ad E a 3) 16000 g_72 (hO.roww h_a k13_3 isA1 ef_73 rfl) (ot - z_50) (show rng (ot - z_50) from ⟨by omega, by omega⟩) (by omega) (by omega) (by omega)) (va_cwS 2 hts gX11_moves_X11_size rfl rfl rfl (by decide +kernel) ⟨Nat.le_of_ble_eq_true rfl, Nat.le_of_ble_eq_true rfl⟩) (th_PS hK hH) rfl rfl hl.1 rfl (lv_room (Nat.le_of_ble_eq_true rfl)) dX11_moves_173 ⟨Nat.le_of_ble_eq_true rfl, Nat.le_of_ble_eq_true rfl⟩) hS (fun z_103 σ_s_102 H locs rz_103 hw_101 hH hS => ?_)
              obtain ⟨e9, hw_101⟩ := hw_101
              replace e9 := e9.symm
              subst e9
              have hw_101 : z_103 = mS g_72 (ot - z_50) := hw_101
              refine lv_iadd hx hb dX11_moves_176 ?_
              refine nq_top (I_add _ _) ?_
              refine lv_istore (lv' := [(8, .int (I (ot - z_50 + z_103))), (7, .int (I (ot - z_50))), (6, .int (I z_50)), (5, .int (I w0q37)), (0, .ref a), (1, .int (I th)), (2, .int (I ot)), (3, .int (I ky))]) hx hb dX11_moves_177 hl (by decide) rfl (fun ls hl => ?_)
              refine lv_aload_n hx hb dX11_moves_179 rfl (lv_at hl 4 rfl) ?_
              refine lv_iload hx hb dX11_moves_180 (lv_at hl 1 rfl) ?_
              refine lv_iload hx hb dX11_moves_182 (lv_at hl 0 rfl) ?_
              refine lv_iload_n hx hb dX11_moves_184 rfl (lv_at hl 7 rfl) ?_
              obtain ⟨_, hc_104⟩ := hO.cell h_a (by decide) (ci := 11) rfl
              refine th_callv (va_runV (As := [.int (I (ot - z_50)), .int (I (ot - z_50 + z_103)), .int (I ky)]) (rest := []) ⟨hx, hb, hml, hown, hts⟩ (m_layInto l G y b0 σ_s_67 E hO a h_a (ot - z_50) (show rng (ot - z_50) from ⟨by omega, by omega⟩) (by omega) (by omega) (ot - z_50 + z_103) (show rng (ot - z_50 + z_103) from ⟨by omega, by omega⟩) (by omega) (by omega) ky (show rng ky from rky) g_72 ef_73 g_63 e_71 ((by rw [show gI σ_s_67 a 5 = mS f1 0 - mS f1 th by omega]; exact hM8)) ((by have h9 := spot_end hM8.1 (q := (ot - z_50)) (by omega) (by omega); rw [show (ot - z_50) + mS g_72 (ot - z_50) = ot - z_50 + z_103 by omega] at h9; rw [show gI σ_s_67 a 5 = mS f1 0 - mS f1 th by omega]; exact h9)) (by omega) (by omega)) (cwV 3 hts gX11_moves_X11_layInto rfl rfl rfl (by decide +kernel) ⟨Nat.le_of_ble_eq_true rfl, Nat.le_of_ble_eq_true rfl⟩) (th_PV hK hH rfl hc_104) rfl rfl hl.1 rfl (lv_room (Nat.le_of_ble_eq_true rfl)) dX11_moves_185 ⟨Nat.le_of_ble_eq_true rfl, Nat.le_of_ble_eq_true rfl⟩) hS (fun σ_s_106 H locs hw_105 hH hS => ?_)
              obtain ⟨hO9, hF9, hM9, hw_105⟩ := hw_105
              replace hM := hM.tu hM9 (by decide)
              replace hF := hF.tu hF9 (by decide)
              have e_107 : aF σ_s_106 (ad E a 1) = f1 := (hM9.a (by decide) (by decide)).trans e_68
              have e_108 : aF σ_s_106 (ad E a 37) = f37 := (hM9.a (by decide) (by decide)).trans e_69
              have e_109 : gI σ_s_106 a 36 = a360 := (hM9.i (by decide)).trans e_70
              have e_110 : aF σ_s_106 (ad E a 31) = g_63 := (hM9.a (by decide) (by decide)).trans e_71
              replace hO := hO9
              generalize ef_112 : aF σ_s_106 (ad E a 3) = g_111 at hw_105
              have hw_105 : layr g_72 g_111 g_63 (ot - z_50) (ot - z_50 + z_103) (mS g_63 0) ky (gI σ_s_67 a 5) ∧ gI σ_s_106 a 5 = gI σ_s_67 a 5 + mS g_63 0 := hw_105
              have hL9 := hw_105.1
              have hn2 := hw_56.2
              rw [show gI σ_s_67 a 5 = mS f1 0 - mS f1 th by omega, hn2] at hL9
              have hsp := spot_end hM8.1 (q := (ot - z_50)) (by omega) (by omega)
              rw [show (ot - z_50) + mS g_72 (ot - z_50) = ot - z_50 + z_103 by omega] at hsp
              have hM7 := hM8.lay hL9 (by omega) hsp hw_56.1 hn2 hK8.2
              have hR7 := hL9.root hM8.1 (by omega) hsp hR8
              rw [show mS f1 0 - mS f1 th + mS f1 th = gI σ_s_106 a 5 by omega] at hM7 hR7
              refine lv_aload_n hx hb dX11_moves_188 rfl (lv_at hl 4 rfl) ?_
              obtain ⟨z_113, e_114, rz_113, lz_113, uz_113⟩ := hO.gi h_a (by decide) k13_5
              obtain ⟨_, hc_115⟩ := hO.cell h_a (by decide) (ci := 11) rfl
              refine th_calli (va_runV (As := []) (rest := []) ⟨hx, hb, hml, hown, hts⟩ (m_becomesTree l G y b0 σ_s_106 E hO a h_a f1 e_107 g_111 ef_112 f37 e_108 (hy2) ((hy3.le (by omega))) (hM7) (by omega) (by omega)) (cwV 0 hts gX11_moves_X11_becomesTree rfl rfl rfl (by decide +kernel) ⟨Nat.le_of_ble_eq_true rfl, Nat.le_of_ble_eq_true rfl⟩) (th_PV hK hH rfl hc_115) rfl rfl hl.1 rfl (lv_room (Nat.le_of_ble_eq_true rfl)) dX11_moves_189 ⟨Nat.le_of_ble_eq_true rfl, Nat.le_of_ble_eq_true rfl⟩) hS (fun z_118 σ_s_117 H locs rz_118 hw_116 hH hS => ?_)
              obtain ⟨hO9, hF9, hM9, bhw_116, hw_116⟩ := hw_116
              replace hM := hM.tu hM9 (by decide)
              replace hF := hF.tu hF9 (by decide)
              have e_119 : aF σ_s_117 (ad E a 31) = g_63 := (hM9.a (by decide) (by decide)).trans e_110
              have e_120 : aF σ_s_117 (ad E a 3) = g_111 := (hM9.a (by decide) (by decide)).trans ef_112
              have e_121 : gI σ_s_117 a 5 = z_113 := (hM9.i (by decide)).trans e_114
              replace hO := hO9
              generalize ef_123 : aF σ_s_117 (ad E a 1) = g_122 at hw_116
              generalize ef_125 : aF σ_s_117 (ad E a 37) = g_124 at hw_116
              have hw_116 : tr g_122 ∧ trs g_124 (gI σ_s_117 a 36) := hw_116
              refine lv_if_eq (tgt := 200) hx hb dX11_moves_192 (by decide) (fun c_126 => ?_) (fun c_126 => ?_)
              · replace c_126 := (I_eq (a := z_118) (b := 0) rz_118 (show rng 0 from ⟨by decide, by decide⟩)).mp c_126
                refine lv_iconst (v := I (-1)) hx hb dX11_moves_200 (by decide) ?_
                exact th_iret hx hb hr hlocks hH hS (z := (-1)) (show rng (-1) from ⟨by decide, by decide⟩) ⟨hO, hF, hM, by have h9 := hw_116; rw [show aF σ_s_117 (ad E a 1) = g_122 from ef_123, show aF σ_s_117 (ad E a 37) = g_124 from ef_125]; exact ⟨h9.1, h9.2⟩⟩ dX11_moves_201
              · replace c_126 := mt (I_eq (a := z_118) (b := 0) rz_118 (show rng 0 from ⟨by decide, by decide⟩)).mpr c_126
                refine lv_iload hx hb dX11_moves_195 (lv_at hl 0 rfl) ?_
                refine lv_goto (tgt := 201) hx hb dX11_moves_197 (by decide) ?_
                exact th_iret hx hb hr hlocks hH hS (z := (ot - z_50 + z_103)) ⟨by omega, by omega⟩ ⟨hO, hF, hM, by have h9 := hw_116; rw [show aF σ_s_117 (ad E a 1) = g_122 from ef_123, show aF σ_s_117 (ad E a 37) = g_124 from ef_125]; exact ⟨h9.1, h9.2⟩⟩ dX11_moves_201
          · replace c_39 := (I_eq (a := w0q37) (b := 0) rw0q37 (show rng 0 from ⟨by decide, by decide⟩)).mp c_39
            refine lv_iconst (v := I (-1)) hx hb dX11_moves_120 (by decide) ?_
            exact th_iret hx hb hr hlocks hH hS (z := (-1)) (show rng (-1) from ⟨by decide, by decide⟩) ⟨hO, hF, hM, by rw [show aF σ (ad E a 1) = f1 from ef1, show aF σ (ad E a 37) = f37 from ef37]; exact ⟨hy2, hy3.le (by omega)⟩⟩ dX11_moves_121
        · refine lv_icmp_ne (tgt := 88) hx hb dX11_moves_73 (by decide) (fun c_127 => ?_) (fun c_127 => ?_)
          · replace c_127 := mt (I_eq (a := z_26) (b := 2) rz_26 (show rng 2 from ⟨by decide, by decide⟩)).mpr c_127
            refine lv_iload_n hx hb dX11_moves_88 rfl (lv_at hl 4 rfl) ?_
            refine th_calli (va_runS (As := [.int (I ky)]) (rest := []) ⟨hx, hb, hml, hown, hts⟩ (w_isKey l G y b0 σ E hO ky (show rng ky from rky)) (va_cwS 1 hts gX11_moves_X11_isKey rfl rfl rfl (by decide +kernel) ⟨Nat.le_of_ble_eq_true rfl, Nat.le_of_ble_eq_true rfl⟩) (th_PS hK hH) rfl rfl hl.1 rfl (lv_room (Nat.le_of_ble_eq_true rfl)) dX11_moves_89 ⟨Nat.le_of_ble_eq_true rfl, Nat.le_of_ble_eq_true rfl⟩) hS (fun z_130 σ_s_129 H locs rz_130 hw_128 hH hS => ?_)
            obtain ⟨e9, bhw_128, hw_128⟩ := hw_128
            replace e9 := e9.symm
            subst e9
            refine lv_if_eq (tgt := 112) hx hb dX11_moves_92 (by decide) (fun c_131 => ?_) (fun c_131 => ?_)
            · replace c_131 := (I_eq (a := z_130) (b := 0) rz_130 (show rng 0 from ⟨by decide, by decide⟩)).mp c_131
              refine lv_iconst (v := I 0) hx hb dX11_moves_112 (by decide) ?_
              replace hl : lv_has ls 9 [(0, .ref a), (1, .int (I th)), (2, .int (I ot)), (3, .int (I ky))] := lv_sub hl [1, 2, 3, 4] rfl
              exact jK_38 (0) σ _ _ _ ⟨rfl, hH, hS, lv_sub hl [0, 1, 2, 3] rfl, (show rng 0 from ⟨by decide, by decide⟩), (Or.inl rfl), by first | (dsimp only; omega) | omega⟩
            · replace c_131 := mt (I_eq (a := z_130) (b := 0) rz_130 (show rng 0 from ⟨by decide, by decide⟩)).mpr c_131
              have hk2 := hy0 ot (by omega) (by omega)
              refine lv_aload_n hx hb dX11_moves_95 rfl (lv_at hl 1 rfl) ?_
              refine ok.getR hO h_a (by decide) k13_1 (by decide) (fun _ _ he hv kk => th_get (ci := 11) (C := RX11) (T := TX11) (N := 66) hx hb hts inX11 hown hK hH he rfl 1 (by decide) fl0 hv dX11_moves_96 kk) ?_
              refine lv_iload_n hx hb dX11_moves_99 rfl (lv_at hl 3 rfl) ?_
              refine lv_iload_n hx hb dX11_moves_100 rfl (lv_at hl 4 rfl) ?_
              refine th_calli (va_runS (As := [.ref (ad E a 1), .int (I ot), .int (I ky)]) (rest := []) ⟨hx, hb, hml, hown, hts⟩ (w_byKey l G y b0 σ E hO (ad E a 1) 240 f1 (hO.roww h_a k13_1 isA1 ef1 rfl) ot (show rng ot from rot) (by omega) (by omega) ky (show rng ky from rky) (by first | exact hy0 | exact (hy0).sub (by omega) (by omega)) (by omega) (by omega) (by omega)) (va_cwS 3 hts gX11_moves_X11_byKey rfl rfl rfl (by decide +kernel) ⟨Nat.le_of_ble_eq_true rfl, Nat.le_of_ble_eq_true rfl⟩) (th_PS hK hH) rfl rfl hl.1 rfl (lv_room (Nat.le_of_ble_eq_true rfl)) dX11_moves_101 ⟨Nat.le_of_ble_eq_true rfl, Nat.le_of_ble_eq_true rfl⟩) hS (fun z_134 σ_s_133 H locs rz_134 hw_132 hH hS => ?_)
              obtain ⟨e9, hw_132⟩ := hw_132
              replace e9 := e9.symm
              subst e9
              have hw_132 : (z_134 = -1 ∧ nok f1 (ot + 1) (ot + mS f1 ot) ky) ∨ (kid f1 ot z_134 ∧ mY f1 z_134 = ky ∧ ot < z_134 ∧ z_134 < ot + mS f1 ot) := hw_132
              refine lv_iconst (v := I (-1)) hx hb dX11_moves_104 (by decide) ?_
              refine lv_icmp_ne (tgt := 112) hx hb dX11_moves_105 (by decide) (fun c_135 => ?_) (fun c_135 => ?_)
              · replace c_135 := mt (I_eq (a := z_134) (b := (-1)) rz_134 (show rng (-1) from ⟨by decide, by decide⟩)).mpr c_135
                refine lv_iconst (v := I 0) hx hb dX11_moves_112 (by decide) ?_
                replace hl : lv_has ls 9 [(0, .ref a), (1, .int (I th)), (2, .int (I ot)), (3, .int (I ky))] := lv_sub hl [1, 2, 3, 4] rfl
                exact jK_38 (0) σ _ _ _ ⟨rfl, hH, hS, lv_sub hl [0, 1, 2, 3] rfl, (show rng 0 from ⟨by decide, by decide⟩), (Or.inl rfl), by first | (dsimp only; omega) | omega⟩
              · replace c_135 := (I_eq (a := z_134) (b := (-1)) rz_134 (show rng (-1) from ⟨by decide, by decide⟩)).mp c_135
                refine lv_iconst (v := I 1) hx hb dX11_moves_108 (by decide) ?_
                refine lv_goto (tgt := 113) hx hb dX11_moves_109 (by decide) ?_
                replace hl : lv_has ls 9 [(0, .ref a), (1, .int (I th)), (2, .int (I ot)), (3, .int (I ky))] := lv_sub hl [1, 2, 3, 4] rfl
                exact jK_38 (1) σ _ _ _ ⟨rfl, hH, hS, lv_sub hl [0, 1, 2, 3] rfl, (show rng 1 from ⟨by decide, by decide⟩), (Or.inr (fun _ => nok_of hy0 (by omega) (by omega) ((hw_132.resolve_right (fun h9 => by have h8 := h9.2.2.1; omega)).2))), by first | (dsimp only; omega) | omega⟩
          · replace c_127 := (I_eq (a := z_26) (b := 2) rz_26 (show rng 2 from ⟨by decide, by decide⟩)).mp c_127
            refine lv_iload_n hx hb dX11_moves_76 rfl (lv_at hl 4 rfl) ?_
            refine lv_if_ne (tgt := 84) hx hb dX11_moves_77 (by decide) (fun c_136 => ?_) (fun c_136 => ?_)
            · replace c_136 := mt (I_eq (a := ky) (b := 0) rky (show rng 0 from ⟨by decide, by decide⟩)).mpr c_136
              refine lv_iconst (v := I 0) hx hb dX11_moves_84 (by decide) ?_
              refine lv_goto (tgt := 113) hx hb dX11_moves_85 (by decide) ?_
              replace hl : lv_has ls 9 [(0, .ref a), (1, .int (I th)), (2, .int (I ot)), (3, .int (I ky))] := lv_sub hl [1, 2, 3, 4] rfl
              exact jK_38 (0) σ _ _ _ ⟨rfl, hH, hS, lv_sub hl [0, 1, 2, 3] rfl, (show rng 0 from ⟨by decide, by decide⟩), (Or.inl rfl), by first | (dsimp only; omega) | omega⟩
            · replace c_136 := (I_eq (a := ky) (b := 0) rky (show rng 0 from ⟨by decide, by decide⟩)).mp c_136
              refine lv_iconst (v := I 1) hx hb dX11_moves_80 (by decide) ?_
              refine lv_goto (tgt := 113) hx hb dX11_moves_81 (by decide) ?_
              replace hl : lv_has ls 9 [(0, .ref a), (1, .int (I th)), (2, .int (I ot)), (3, .int (I ky))] := lv_sub hl [1, 2, 3, 4] rfl
              exact jK_38 (1) σ _ _ _ ⟨rfl, hH, hS, lv_sub hl [0, 1, 2, 3] rfl, (show rng 1 from ⟨by decide, by decide⟩), (Or.inr (fun h9 => absurd h9 (by omega))), by first | (dsimp only; omega) | omega⟩
      · replace c_23 := (I_eq (a := z_22) (b := 0) rz_22 (show rng 0 from ⟨by decide, by decide⟩)).mp c_23
        refine lv_iconst (v := I (-1)) hx hb dX11_moves_62 (by decide) ?_
        exact th_iret hx hb hr hlocks hH hS (z := (-1)) (show rng (-1) from ⟨by decide, by decide⟩) ⟨hO, hF, hM, by rw [show aF σ (ad E a 1) = f1 from ef1, show aF σ (ad E a 37) = f37 from ef37]; exact ⟨hy2, hy3.le (by omega)⟩⟩ dX11_moves_63
  · refine lv_if_eq (tgt := 43) hx hb dX11_moves_5 (by decide) (fun c_137 => ?_) (fun c_137 => ?_)
    · replace c_137 := (I_eq (a := z_4) (b := 0) rz_4 (show rng 0 from ⟨by decide, by decide⟩)).mp c_137
      refine lv_iconst (v := I 0) hx hb dX11_moves_43 (by decide) ?_
      exact jK_18 (0) σ _ _ _ ⟨rfl, hH, hS, lv_sub hl [0, 1, 2, 3] rfl, (show rng 0 from ⟨by decide, by decide⟩), by first | (dsimp only; omega) | omega, by first | (dsimp only; omega) | omega⟩
    · replace c_137 := mt (I_eq (a := z_4) (b := 0) rz_4 (show rng 0 from ⟨by decide, by decide⟩)).mpr c_137
      refine lv_aload_n hx hb dX11_moves_8 rfl (lv_at hl 0 rfl) ?_
      refine lv_iload_n hx hb dX11_moves_9 rfl (lv_at hl 2 rfl) ?_
      obtain ⟨_, hc_138⟩ := hO.cell h_a (by decide) (ci := 11) rfl
      refine th_calli (va_runV (As := [.int (I ot)]) (rest := []) ⟨hx, hb, hml, hown, hts⟩ (m_isThing l G y b0 σ E hO a h_a ot (show rng ot from rot) f1 ef1 (by omega)) (cwV 1 hts gX11_moves_X11_isThing rfl rfl rfl (by decide +kernel) ⟨Nat.le_of_ble_eq_true rfl, Nat.le_of_ble_eq_true rfl⟩) (th_PV hK hH rfl hc_138) rfl rfl hl.1 rfl (lv_room (Nat.le_of_ble_eq_true rfl)) dX11_moves_10 ⟨Nat.le_of_ble_eq_true rfl, Nat.le_of_ble_eq_true rfl⟩) hS (fun z_141 σ_s_140 H locs rz_141 hw_139 hH hS => ?_)
      obtain ⟨e9, bhw_139, hw_139⟩ := hw_139
      replace e9 := e9.symm
      subst e9
      have hw_139 : (z_141 = 1 ∧ 0 ≤ ot ∧ ot < mS f1 0) ∨ (z_141 = 0 ∧ ¬ (0 ≤ ot ∧ ot < mS f1 0)) := hw_139
      refine lv_if_eq (tgt := 43) hx hb dX11_moves_13 (by decide) (fun c_142 => ?_) (fun c_142 => ?_)
      · replace c_142 := (I_eq (a := z_141) (b := 0) rz_141 (show rng 0 from ⟨by decide, by decide⟩)).mp c_142
        refine lv_iconst (v := I 0) hx hb dX11_moves_43 (by decide) ?_
        exact jK_18 (0) σ _ _ _ ⟨rfl, hH, hS, lv_sub hl [0, 1, 2, 3] rfl, (show rng 0 from ⟨by decide, by decide⟩), by first | (dsimp only; omega) | omega, by first | (dsimp only; omega) | omega⟩
      · replace c_142 := mt (I_eq (a := z_141) (b := 0) rz_141 (show rng 0 from ⟨by decide, by decide⟩)).mpr c_142
        refine lv_iload_n hx hb dX11_moves_16 rfl (lv_at hl 1 rfl) ?_
        refine lv_if_le (tgt := 43) hx hb dX11_moves_17 (by decide) (fun c_143 => ?_) (fun c_143 => ?_)
        · replace c_143 := (I_le (a := th) (b := 0) rth (show rng 0 from ⟨by decide, by decide⟩)).mp c_143
          refine lv_iconst (v := I 0) hx hb dX11_moves_43 (by decide) ?_
          exact jK_18 (0) σ _ _ _ ⟨rfl, hH, hS, lv_sub hl [0, 1, 2, 3] rfl, (show rng 0 from ⟨by decide, by decide⟩), by first | (dsimp only; omega) | omega, by first | (dsimp only; omega) | omega⟩
        · replace c_143 := mt (I_le (a := th) (b := 0) rth (show rng 0 from ⟨by decide, by decide⟩)).mpr c_143
          refine lv_iload_n hx hb dX11_moves_20 rfl (lv_at hl 2 rfl) ?_
          refine lv_iload_n hx hb dX11_moves_21 rfl (lv_at hl 1 rfl) ?_
          refine lv_icmp_lt (tgt := 39) hx hb dX11_moves_22 (by decide) (fun c_144 => ?_) (fun c_144 => ?_)
          · replace c_144 := (I_lt (a := ot) (b := th) rot rth).mp c_144
            refine lv_iconst (v := I 1) hx hb dX11_moves_39 (by decide) ?_
            refine lv_goto (tgt := 44) hx hb dX11_moves_40 (by decide) ?_
            exact jK_18 (1) σ _ _ _ ⟨rfl, hH, hS, lv_sub hl [0, 1, 2, 3] rfl, (show rng 1 from ⟨by decide, by decide⟩), by first | (dsimp only; omega) | omega, by first | (dsimp only; omega) | omega⟩
          · replace c_144 := mt (I_lt (a := ot) (b := th) rot rth).mpr c_144
            refine lv_iload_n hx hb dX11_moves_25 rfl (lv_at hl 2 rfl) ?_
            refine lv_iload_n hx hb dX11_moves_26 rfl (lv_at hl 1 rfl) ?_
            refine lv_aload_n hx hb dX11_moves_27 rfl (lv_at hl 0 rfl) ?_
            have hk7 := hy0 th (by omega) (by omega)
            refine ok.getR hO h_a (by decide) k13_1 (by decide) (fun _ _ he hv kk => th_get (ci := 11) (C := RX11) (T := TX11) (N := 66) hx hb hts inX11 hown hK hH he rfl 1 (by decide) fl0 hv dX11_moves_28 kk) ?_
            refine lv_iload_n hx hb dX11_moves_31 rfl (lv_at hl 1 rfl) ?_
            refine th_calli (va_runS (As := [.ref (ad E a 1), .int (I th)]) (rest := [.int (I th), .int (I ot)]) ⟨hx, hb, hml, hown, hts⟩ (w_size l G y b0 σ E hO (ad E a 1) 240 f1 (hO.roww h_a k13_1 isA1 ef1 rfl) th (show rng th from rth) (by omega) (by omega) (by omega)) (va_cwS 2 hts gX11_moves_X11_size rfl rfl rfl (by decide +kernel) ⟨Nat.le_of_ble_eq_true rfl, Nat.le_of_ble_eq_true rfl⟩) (th_PS hK hH) rfl rfl hl.1 rfl (lv_room (Nat.le_of_ble_eq_true rfl)) dX11_moves_32 ⟨Nat.le_of_ble_eq_true rfl, Nat.le_of_ble_eq_true rfl⟩) hS (fun z_147 σ_s_146 H locs rz_147 hw_145 hH hS => ?_)
            obtain ⟨e9, hw_145⟩ := hw_145
            replace e9 := e9.symm
            subst e9
            have hw_145 : z_147 = mS f1 th := hw_145
            refine lv_iadd hx hb dX11_moves_35 ?_
            refine nq_top (I_add _ _) ?_
            refine lv_icmp_lt (tgt := 43) hx hb dX11_moves_36 (by decide) (fun c_148 => ?_) (fun c_148 => ?_)
            · replace c_148 := (I_lt (a := ot) (b := th + z_147) rot ⟨by omega, by omega⟩).mp c_148
              refine lv_iconst (v := I 0) hx hb dX11_moves_43 (by decide) ?_
              exact jK_18 (0) σ _ _ _ ⟨rfl, hH, hS, lv_sub hl [0, 1, 2, 3] rfl, (show rng 0 from ⟨by decide, by decide⟩), by first | (dsimp only; omega) | omega, by first | (dsimp only; omega) | omega⟩
            · replace c_148 := mt (I_lt (a := ot) (b := th + z_147) rot ⟨by omega, by omega⟩).mpr c_148
              refine lv_iconst (v := I 1) hx hb dX11_moves_39 (by decide) ?_
              refine lv_goto (tgt := 44) hx hb dX11_moves_40 (by decide) ?_
              exact jK_18 (1) σ _ _ _ ⟨rfl, hH, hS, lv_sub hl [0, 1, 2, 3] rfl, (show rng 1 from ⟨by decide, by decide⟩), by first | (dsimp only; omega) | omega, by first | (dsimp only; omega) | omega⟩
