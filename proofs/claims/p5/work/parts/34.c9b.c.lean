set_option maxHeartbeats 4000000 in
set_option maxRecDepth 100000 in
theorem m_lays (l : Launch) (G : va_G) (y : Nat → ClassId) (b0 : Nat) (σ : th_M) (E : th_E) (hO : ok y E σ) (a : Nat) (h_a : kd E a = 13) (w : Int) (rw : rng w) (l_w : 130 ≤ w) (u_w : w ≤ 259) (tu : Int) (rtu : rng tu) (l_tu : 0 ≤ tu) (u_tu : tu ≤ 1) (f3 : Nat → Int32) (ef3 : aF σ (ad E a 3) = f3) (f39 : Nat → Int32) (ef39 : aF σ (ad E a 39) = f39) (f40 : Nat → Int32) (ef40 : aF σ (ad E a 40) = f40) (f41 : Nat → Int32) (ef41 : aF σ (ad E a 41) = f41) (f42 : Nat → Int32) (ef42 : aF σ (ad E a 42) = f42) (f43 : Nat → Int32) (ef43 : aF σ (ad E a 43) = f43) (f44 : Nat → Int32) (ef44 : aF σ (ad E a 44) = f44) (hy0 : mT f3 0 (gI σ a 5)) (hy1 : mS f3 0 = gI σ a 5) (hy2 : 1 ≤ gI σ a 5) (hy3 : rwo 1 150 f39 f40 f42 f43 f44 w) (hy4 : gI σ a 5 + (wt f44 (f42 w.toNat).toInt + wt f44 (f43 w.toNat).toInt) ≤ 4000) : Met l yX11_lays wsX11_lays ({ frames := 131, cells := 0, slots := 0, locals := 3891 }) (th_P G y b0 σ [.ref a, .int (I w), .int (I tu)]) (th_Qi G b0 (fun r σ1 => ok y E σ1 ∧ fr [13] E σ σ1 ∧ fm [3, 5, 31] E σ σ1 a ∧ (0 ≤ r ∧ r ≤ 1) ∧ (mT (aF σ1 (ad E a 3)) 0 (gI σ1 a 5) ∧ mS (aF σ1 (ad E a 3)) 0 = gI σ1 a 5 ∧ 1 ≤ gI σ1 a 5 ∧ gI σ1 a 5 ≤ gI σ a 5 + (wt f44 (f42 w.toNat).toInt + wt f44 (f43 w.toNat).toInt)))) 0 0 (th_A b0) := by
  refine Met.ofW (cc := cX11_lays) (maxL := 11) (ret := (some .boolean)) (by decide) rfl ?_
  intro p e s m args below meth c s₁ B hml hv
  obtain ⟨rfl, hH, hK⟩ := hv
  have hx := B.exec
  have hb := B.bytes
  have hr := B.returns
  have hts := atoms_spec (ws := wsX11_lays) B.pre
  have hown : s.vm.findClass RX11 = some m.cls := findClass_of_methodNamed B.named
  have hlocks := B.notSynchronized
  have h00 : b0 ≤ s.heap.size := hH.1
  have hS : va_S (th_A b0) s.heap s.heap [] := va_S.rf
  have hF : fr [13] E σ σ := fr.rf
  have hM : fm [3, 5, 31] E σ σ a := fm.rf
  have hkk := hy3.1
  have hks := hy3.2.1
  have hk3 := hy3.2.2.1
  have inX11 : ∀ w ∈ wsX110, w ∈ wsX11_lays := by decide +kernel
  have fl0 := hts (.fieldLink RX11 51 "NestQueryModel" "rowKind" "[I") (by decide +kernel)
  have fl1 := hts (.fieldLink RX11 54 "NestQueryModel" "rowSteps" "[I") (by decide +kernel)
  have fl2 := hts (.fieldLink RX11 57 "NestQueryModel" "rowPath" "[I") (by decide +kernel)
  have fl3 := hts (.fieldLink RX11 16 "NestQueryModel" "made" "[I") (by decide +kernel)
  have fl4 := hts (.fieldLink RX11 66 "NestQueryModel" "pool" "[I") (by decide +kernel)
  have fl5 := hts (.fieldLink RX11 353 "NestQueryModel" "madeMany" "I") (by decide +kernel)
  have fl6 := hts (.fieldLink RX11 42 "NestQueryModel" "lifted" "[I") (by decide +kernel)
  have fl7 := hts (.fieldLink RX11 63 "NestQueryModel" "rowIs" "[I") (by decide +kernel)
  have fl8 := hts (.fieldLink RX11 60 "NestQueryModel" "rowWas" "[I") (by decide +kernel)
  have hl := lv_entry ([.ref a, .int (I w), .int (I tu)]) (n := 11) (Nat.le_of_ble_eq_true rfl)
  rw [lg_entry_eq]
  generalize (lg_sl ([.ref a, .int (I w), .int (I tu)]) ++ List.replicate (11 - (lg_sl ([.ref a, .int (I w), .int (I tu)])).length) Slot.unset).toArray = ls at hl ⊢
  have hl : lv_has ls 11 [(0, .ref a), (1, .int (I w)), (2, .int (I tu))] := hl
  obtain ⟨a50, ea50, ra50, la50, ua50⟩ := hO.gi h_a (by decide) k13_5
  refine lv_aload_n hx hb dX11_lays_0 rfl (lv_at hl 0 rfl) ?_
  refine ok.getR hO h_a (by decide) k13_39 (by decide) (fun _ _ he hv kk => th_get (ci := 11) (C := RX11) (T := TX11) (N := 66) hx hb hts inX11 hown hK hH he rfl 39 (by decide) fl0 hv dX11_lays_1 kk) ?_
  refine lv_iload_n hx hb dX11_lays_4 rfl (lv_at hl 1 rfl) ?_
  refine m_iald hx hb hK hH hO h_a k13_39 isA1 ef39 rw (by omega) (by omega) dX11_lays_5 (fun z_1 ez_1 rz_1 elx9 => ?_)
  refine lv_iconst (v := I 3) hx hb dX11_lays_6 (by decide) ?_
  refine th_join (α := Int) (J := 38) (stk := fun x9 => [.int (I x9)]) (fun x9 σ9 H9 l9 ls9 => σ9 = σ ∧ th_H G b0 σ9 H9 ∧ va_S (th_A b0) s.heap H9 l9 ∧ lv_has ls9 11 [(0, .ref a), (1, .int (I w)), (2, .int (I tu))] ∧ rng x9 ∧ ((x9 = 3 ∧ (f39 w.toNat).toInt = 3) ∨ (x9 = 1 ∧ ((tu = 0 ∧ (f39 w.toNat).toInt = 1) ∨ (tu = 1 ∧ (f39 w.toNat).toInt = 2))) ∨ (x9 = 2 ∧ ((tu = 0 ∧ (f39 w.toNat).toInt = 2) ∨ (tu = 1 ∧ (f39 w.toNat).toInt = 1))))) ?_ (fun jK_9 => ?_)
  · intro x9 σ_K_9 H locs ls hI9
    obtain ⟨w0q8, ex9⟩ : ∃ z, z = x9 := ⟨_, rfl⟩
    subst ex9
    obtain ⟨eK_9, hH, hS, hl, rw0q8, K_9_0⟩ := hI9
    replace eK_9 := eK_9.symm
    subst eK_9
    have hl : lv_has ls 11 [(0, .ref a), (1, .int (I w)), (2, .int (I tu))] := hl
    have rw0q8 : rng w0q8 := rw0q8
    have K_9_0 : (w0q8 = 3 ∧ (f39 w.toNat).toInt = 3) ∨ (w0q8 = 1 ∧ ((tu = 0 ∧ (f39 w.toNat).toInt = 1) ∨ (tu = 1 ∧ (f39 w.toNat).toInt = 2))) ∨ (w0q8 = 2 ∧ ((tu = 0 ∧ (f39 w.toNat).toInt = 2) ∨ (tu = 1 ∧ (f39 w.toNat).toInt = 1))) := K_9_0
    refine lv_istore_n (lv' := [(3, .int (I w0q8)), (0, .ref a), (1, .int (I w)), (2, .int (I tu))]) hx hb dX11_lays_38 rfl hl (by decide) rfl (fun ls hl => ?_)
    refine lv_iload_n hx hb dX11_lays_39 rfl (lv_at hl 3 rfl) ?_
    refine th_join (α := Int) (J := 58) (stk := fun x9 => [.int (I x9)]) (fun x9 σ9 H9 l9 ls9 => σ9 = σ ∧ th_H G b0 σ9 H9 ∧ va_S (th_A b0) s.heap H9 l9 ∧ lv_has ls9 11 [(0, .ref a), (1, .int (I w)), (2, .int (I tu)), (3, .int (I w0q8))] ∧ rng x9 ∧ ((tu = 0 ∧ x9 = (f42 w.toNat).toInt) ∨ (tu = 1 ∧ x9 = (f43 w.toNat).toInt))) ?_ (fun jK_14 => ?_)
    · intro x9 σ_K_14 H locs ls hI9
      obtain ⟨w0q13, ex9⟩ : ∃ z, z = x9 := ⟨_, rfl⟩
      subst ex9
      obtain ⟨eK_14, hH, hS, hl, rw0q13, K_14_0⟩ := hI9
      replace eK_14 := eK_14.symm
      subst eK_14
      have hl : lv_has ls 11 [(0, .ref a), (1, .int (I w)), (2, .int (I tu)), (3, .int (I w0q8))] := hl
      have rw0q13 : rng w0q13 := rw0q13
      have K_14_0 : (tu = 0 ∧ w0q13 = (f42 w.toNat).toInt) ∨ (tu = 1 ∧ w0q13 = (f43 w.toNat).toInt) := K_14_0
      refine lv_istore (lv' := [(4, .int (I w0q13)), (0, .ref a), (1, .int (I w)), (2, .int (I tu)), (3, .int (I w0q8))]) hx hb dX11_lays_58 hl (by decide) rfl (fun ls hl => ?_)
      refine lv_iload_n hx hb dX11_lays_60 rfl (lv_at hl 3 rfl) ?_
      refine th_join (α := Int) (J := 79) (stk := fun x9 => [.int (I x9)]) (fun x9 σ9 H9 l9 ls9 => σ9 = σ ∧ th_H G b0 σ9 H9 ∧ va_S (th_A b0) s.heap H9 l9 ∧ lv_has ls9 11 [(0, .ref a), (1, .int (I w)), (3, .int (I w0q8)), (4, .int (I w0q13))] ∧ rng x9 ∧ ((tu = 0 ∧ x9 = (f43 w.toNat).toInt) ∨ (tu = 1 ∧ x9 = (f42 w.toNat).toInt))) ?_ (fun jK_19 => ?_)
      · intro x9 σ_K_19 H locs ls hI9
        obtain ⟨w0q18, ex9⟩ : ∃ z, z = x9 := ⟨_, rfl⟩
        subst ex9
        obtain ⟨eK_19, hH, hS, hl, rw0q18, K_19_0⟩ := hI9
        replace eK_19 := eK_19.symm
        subst eK_19
        have hl : lv_has ls 11 [(0, .ref a), (1, .int (I w)), (3, .int (I w0q8)), (4, .int (I w0q13))] := hl
        have rw0q18 : rng w0q18 := rw0q18
        have K_19_0 : (tu = 0 ∧ w0q18 = (f43 w.toNat).toInt) ∨ (tu = 1 ∧ w0q18 = (f42 w.toNat).toInt) := K_19_0
        refine lv_istore (lv' := [(5, .int (I w0q18)), (0, .ref a), (1, .int (I w)), (3, .int (I w0q8)), (4, .int (I w0q13))]) hx hb dX11_lays_79 hl (by decide) rfl (fun ls hl => ?_)
        obtain ⟨hr1, hr2, hr3, hr4, hr5, hr6, hr7⟩ := hy3
        have hwn1 := wt_nn hr4
        have hwn2 := wt_nn hr5
        have hpa : ¬ w0q8 = 1 → plw 1 150 f44 w0q13 := fun h9 => (by by_cases h8 : tu = 0; rw [show w0q13 = (f42 w.toNat).toInt by omega]; exact hr4.resolve_left (hr6 (by omega)); rw [show w0q13 = (f43 w.toNat).toInt by omega]; exact hr5.resolve_left (hr7 (by omega)))
        have hpb : ¬ w0q8 = 2 → plw 1 150 f44 w0q18 := fun h9 => (by by_cases h8 : tu = 0; rw [show w0q18 = (f43 w.toNat).toInt by omega]; exact hr5.resolve_left (hr7 (by omega)); rw [show w0q18 = (f42 w.toNat).toInt by omega]; exact hr4.resolve_left (hr6 (by omega)))
        have hwb : ¬ w0q8 = 2 → mS f44 w0q18 ≤ (wt f44 (f42 w.toNat).toInt + wt f44 (f43 w.toNat).toInt) := fun h9 => (by have h7 := (hpb h9).1; have h6 := wt_pos (f := f44) (A := w0q18) (by omega); by_cases h8 : tu = 0; rw [show w0q18 = (f43 w.toNat).toInt by omega] at h6 ⊢; omega; rw [show w0q18 = (f42 w.toNat).toInt by omega] at h6 ⊢; omega)
        refine lv_aload_n hx hb dX11_lays_81 rfl (lv_at hl 1 rfl) ?_
        refine ok.getR hO h_a (by decide) k13_40 (by decide) (fun _ _ he hv kk => th_get (ci := 11) (C := RX11) (T := TX11) (N := 66) hx hb hts inX11 hown hK hH he rfl 40 (by decide) fl1 hv dX11_lays_82 kk) ?_
        refine lv_iload_n hx hb dX11_lays_85 rfl (lv_at hl 2 rfl) ?_
        refine m_iald hx hb hK hH hO h_a k13_40 isA1 ef40 rw (by omega) (by omega) dX11_lays_86 (fun z_20 ez_20 rz_20 elx9 => ?_)
        refine lv_istore (lv' := [(6, .int (I z_20)), (5, .int (I w0q18)), (0, .ref a), (1, .int (I w)), (3, .int (I w0q8)), (4, .int (I w0q13))]) hx hb dX11_lays_87 hl (by decide) rfl (fun ls hl => ?_)
        refine lv_iload hx hb dX11_lays_89 (lv_at hl 0 rfl) ?_
        refine lv_if_ne (tgt := 98) hx hb dX11_lays_91 (by decide) (fun c_21 => ?_) (fun c_21 => ?_)
        · replace c_21 := mt (I_eq (a := z_20) (b := 0) rz_20 (show rng 0 from ⟨by decide, by decide⟩)).mpr c_21
          refine lv_aload_n hx hb dX11_lays_98 rfl (lv_at hl 2 rfl) ?_
          refine lv_iload_n hx hb dX11_lays_99 rfl (lv_at hl 3 rfl) ?_
          refine lv_iload hx hb dX11_lays_100 (lv_at hl 0 rfl) ?_
          refine lv_iconst (v := I 1) hx hb dX11_lays_102 (by decide) ?_
          refine lv_isub hx hb dX11_lays_103 ?_
          refine nq_top (I_sub _ _) ?_
          obtain ⟨_, hc_22⟩ := hO.cell h_a (by decide) (ci := 11) rfl
          refine th_calli (va_runV (As := [.int (I w), .int (I (z_20 - 1))]) (rest := []) ⟨hx, hb, hml, hown, hts⟩ (m_leads l G y b0 σ E hO a h_a w (show rng w from rw) (by omega) (by omega) (z_20 - 1) (show rng (z_20 - 1) from ⟨by omega, by omega⟩) (by omega) (by omega) f3 ef3 f41 ef41 ((by rw [show gI σ a 5 = gI σ a 5 by omega]; exact hy0)) (by omega) (by omega)) (cwV 2 hts gX11_lays_X11_leads rfl rfl rfl (by decide +kernel) ⟨Nat.le_of_ble_eq_true rfl, Nat.le_of_ble_eq_true rfl⟩) (th_PV hK hH rfl hc_22) rfl rfl hl.1 rfl (lv_room (Nat.le_of_ble_eq_true rfl)) dX11_lays_104 ⟨Nat.le_of_ble_eq_true rfl, Nat.le_of_ble_eq_true rfl⟩) hS (fun z_25 σ_s_24 H locs rz_25 hw_23 hH hS => ?_)
          obtain ⟨e9, hw_23⟩ := hw_23
          replace e9 := e9.symm
          subst e9
          have hw_23 : ld f3 f41 (8 * w) (z_20 - 1).toNat z_25 ∧ -1 ≤ z_25 ∧ z_25 < gI σ a 5 := hw_23
          refine lv_istore (lv' := [(7, .int (I z_25)), (6, .int (I z_20)), (5, .int (I w0q18)), (0, .ref a), (1, .int (I w)), (3, .int (I w0q8)), (4, .int (I w0q13))]) hx hb dX11_lays_107 hl (by decide) rfl (fun ls hl => ?_)
          refine lv_iload hx hb dX11_lays_109 (lv_at hl 1 rfl) ?_
          refine lv_if_ne (tgt := 118) hx hb dX11_lays_111 (by decide) (fun c_26 => ?_) (fun c_26 => ?_)
          · replace c_26 := mt (I_eq (a := z_20) (b := 0) rz_20 (show rng 0 from ⟨by decide, by decide⟩)).mpr c_26
            refine lv_aload_n hx hb dX11_lays_118 rfl (lv_at hl 3 rfl) ?_
            refine ok.getR hO h_a (by decide) k13_41 (by decide) (fun _ _ he hv kk => th_get (ci := 11) (C := RX11) (T := TX11) (N := 66) hx hb hts inX11 hown hK hH he rfl 41 (by decide) fl2 hv dX11_lays_119 kk) ?_
            refine lv_bipush (v := I 8) hx hb dX11_lays_122 (by decide) ?_
            refine lv_iload_n hx hb dX11_lays_124 rfl (lv_at hl 4 rfl) ?_
            refine lv_imul hx hb dX11_lays_125 ?_
            refine nq_top (I_mul _ _) ?_
            refine lv_iload hx hb dX11_lays_126 (lv_at hl 1 rfl) ?_
            refine lv_iadd hx hb dX11_lays_128 ?_
            refine th_addo (fun z_27 rz_27 hz_27 => ?_)
            refine lv_iconst (v := I 1) hx hb dX11_lays_129 (by decide) ?_
            refine lv_isub hx hb dX11_lays_130 ?_
            refine nq_top (I_sub _ _) ?_
            refine m_iald hx hb hK hH hO h_a k13_41 isA1 ef41 ⟨by omega, by omega⟩ (by omega) (by omega) dX11_lays_131 (fun z_28 ez_28 rz_28 elx9 => ?_)
            refine lv_istore (lv' := [(8, .int (I z_28)), (7, .int (I z_25)), (6, .int (I z_20)), (5, .int (I w0q18)), (0, .ref a), (1, .int (I w)), (3, .int (I w0q8)), (4, .int (I w0q13))]) hx hb dX11_lays_132 hl (by decide) rfl (fun ls hl => ?_)
            refine lv_iload hx hb dX11_lays_134 (lv_at hl 2 rfl) ?_
            refine lv_if_le (tgt := 169) hx hb dX11_lays_136 (by decide) (fun c_29 => ?_) (fun c_29 => ?_)
            · replace c_29 := (I_le (a := z_20) (b := 0) rz_20 (show rng 0 from ⟨by decide, by decide⟩)).mp c_29
              exfalso; omega
            · replace c_29 := mt (I_le (a := z_20) (b := 0) rz_20 (show rng 0 from ⟨by decide, by decide⟩)).mpr c_29
              refine lv_iload hx hb dX11_lays_139 (lv_at hl 1 rfl) ?_
              refine lv_iconst (v := I (-1)) hx hb dX11_lays_141 (by decide) ?_
              refine lv_icmp_eq (tgt := 167) hx hb dX11_lays_142 (by decide) (fun c_30 => ?_) (fun c_30 => ?_)
              · replace c_30 := (I_eq (a := z_25) (b := (-1)) rz_25 (show rng (-1) from ⟨by decide, by decide⟩)).mp c_30
                refine lv_iconst (v := I 0) hx hb dX11_lays_167 (by decide) ?_
                exact th_zret hx hb hr hlocks hH hS (z := 0) (by omega) ⟨hO, hF, hM, ⟨by omega, by omega⟩, by rw [show aF σ (ad E a 3) = f3 from ef3]; exact ⟨hy0.eqM (by omega), by omega, by omega, by omega⟩⟩ dX11_lays_168
              · replace c_30 := mt (I_eq (a := z_25) (b := (-1)) rz_25 (show rng (-1) from ⟨by decide, by decide⟩)).mpr c_30
                refine lv_aload_n hx hb dX11_lays_145 rfl (lv_at hl 4 rfl) ?_
                refine ok.getR hO h_a (by decide) k13_3 (by decide) (fun _ _ he hv kk => th_get (ci := 11) (C := RX11) (T := TX11) (N := 66) hx hb hts inX11 hown hK hH he rfl 3 (by decide) fl3 hv dX11_lays_146 kk) ?_
                refine lv_iload hx hb dX11_lays_149 (lv_at hl 1 rfl) ?_
                refine th_calli (va_runS (As := [.ref (ad E a 3), .int (I z_25)]) (rest := []) ⟨hx, hb, hml, hown, hts⟩ (w_kind l G y b0 σ E hO (ad E a 3) 16000 f3 (hO.roww h_a k13_3 isA1 ef3 rfl) z_25 (show rng z_25 from rz_25) (by omega) (by omega) (by omega)) (va_cwS 2 hts gX11_lays_X11_kind rfl rfl rfl (by decide +kernel) ⟨Nat.le_of_ble_eq_true rfl, Nat.le_of_ble_eq_true rfl⟩) (th_PS hK hH) rfl rfl hl.1 rfl (lv_room (Nat.le_of_ble_eq_true rfl)) dX11_lays_151 ⟨Nat.le_of_ble_eq_true rfl, Nat.le_of_ble_eq_true rfl⟩) hS (fun z_33 σ_s_32 H locs rz_33 hw_31 hH hS => ?_)
                obtain ⟨e9, hw_31⟩ := hw_31
                replace e9 := e9.symm
                subst e9
                have hw_31 : z_33 = mK f3 z_25 := hw_31
                refine lv_iload hx hb dX11_lays_154 (lv_at hl 0 rfl) ?_
                refine lv_if_le (tgt := 163) hx hb dX11_lays_156 (by decide) (fun c_34 => ?_) (fun c_34 => ?_)
                · replace c_34 := (I_le (a := z_28) (b := 0) rz_28 (show rng 0 from ⟨by decide, by decide⟩)).mp c_34
                  refine lv_iconst (v := I 2) hx hb dX11_lays_163 (by decide) ?_
                  refine lv_icmp_eq (tgt := 169) hx hb dX11_lays_164 (by decide) (fun c_35 => ?_) (fun c_35 => ?_)
                  · replace c_35 := (I_eq (a := z_33) (b := 2) rz_33 (show rng 2 from ⟨by decide, by decide⟩)).mp c_35
                    refine lv_aload_n hx hb dX11_lays_169 rfl (lv_at hl 4 rfl) ?_
                    refine lv_iload_n hx hb dX11_lays_170 rfl (lv_at hl 5 rfl) ?_
                    refine lv_iload hx hb dX11_lays_171 (lv_at hl 2 rfl) ?_
                    obtain ⟨_, hc_36⟩ := hO.cell h_a (by decide) (ci := 11) rfl
                    refine th_calli (va_runV (As := [.int (I w), .int (I z_20)]) (rest := []) ⟨hx, hb, hml, hown, hts⟩ (m_leads l G y b0 σ E hO a h_a w (show rng w from rw) (by omega) (by omega) z_20 (show rng z_20 from rz_20) (by omega) (by omega) f3 ef3 f41 ef41 ((by rw [show gI σ a 5 = gI σ a 5 by omega]; exact hy0)) (by omega) (by omega)) (cwV 2 hts gX11_lays_X11_leads rfl rfl rfl (by decide +kernel) ⟨Nat.le_of_ble_eq_true rfl, Nat.le_of_ble_eq_true rfl⟩) (th_PV hK hH rfl hc_36) rfl rfl hl.1 rfl (lv_room (Nat.le_of_ble_eq_true rfl)) dX11_lays_173 ⟨Nat.le_of_ble_eq_true rfl, Nat.le_of_ble_eq_true rfl⟩) hS (fun z_39 σ_s_38 H locs rz_39 hw_37 hH hS => ?_)
                    obtain ⟨e9, hw_37⟩ := hw_37
                    replace e9 := e9.symm
                    subst e9
                    have hw_37 : ld f3 f41 (8 * w) z_20.toNat z_39 ∧ -1 ≤ z_39 ∧ z_39 < gI σ a 5 := hw_37
                    refine lv_istore (lv' := [(9, .int (I z_39)), (8, .int (I z_28)), (7, .int (I z_25)), (6, .int (I z_20)), (5, .int (I w0q18)), (0, .ref a), (1, .int (I w)), (3, .int (I w0q8)), (4, .int (I w0q13))]) hx hb dX11_lays_176 hl (by decide) rfl (fun ls hl => ?_)
                    refine lv_iload hx hb dX11_lays_178 (lv_at hl 1 rfl) ?_
                    refine lv_if_ge (tgt := 187) hx hb dX11_lays_180 (by decide) (fun c_40 => ?_) (fun c_40 => ?_)
                    · replace c_40 := (I_le (a := 0) (b := z_28) (show rng 0 from ⟨by decide, by decide⟩) rz_28).mp c_40
                      refine lv_iconst (v := I 0) hx hb dX11_lays_187 (by decide) ?_
                      refine lv_istore (lv' := [(10, .int (I 0)), (9, .int (I z_39)), (8, .int (I z_28)), (7, .int (I z_25)), (6, .int (I z_20)), (5, .int (I w0q18)), (0, .ref a), (1, .int (I w)), (3, .int (I w0q8)), (4, .int (I w0q13))]) hx hb dX11_lays_188 hl (by decide) rfl (fun ls hl => ?_)
                      refine lv_iload_n hx hb dX11_lays_190 rfl (lv_at hl 8 rfl) ?_
                      refine lv_iconst (v := I 1) hx hb dX11_lays_191 (by decide) ?_
                      refine lv_icmp_ne (tgt := 265) hx hb dX11_lays_192 (by decide) (fun c_41 => ?_) (fun c_41 => ?_)
                      · replace c_41 := mt (I_eq (a := w0q8) (b := 1) rw0q8 (show rng 1 from ⟨by decide, by decide⟩)).mpr c_41
                        refine lv_iload hx hb dX11_lays_265 (lv_at hl 1 rfl) ?_
                        refine lv_iconst (v := I (-1)) hx hb dX11_lays_267 (by decide) ?_
                        refine lv_icmp_eq (tgt := 317) hx hb dX11_lays_268 (by decide) (fun c_42 => ?_) (fun c_42 => ?_)
                        · replace c_42 := (I_eq (a := z_39) (b := (-1)) rz_39 (show rng (-1) from ⟨by decide, by decide⟩)).mp c_42
                          refine lv_iconst (v := I 0) hx hb dX11_lays_317 (by decide) ?_
                          exact th_zret hx hb hr hlocks hH hS (z := 0) (by omega) ⟨hO, hF, hM, ⟨by omega, by omega⟩, by rw [show aF σ (ad E a 3) = f3 from ef3]; exact ⟨hy0.eqM (by omega), by omega, by omega, by omega⟩⟩ dX11_lays_318
                        · replace c_42 := mt (I_eq (a := z_39) (b := (-1)) rz_39 (show rng (-1) from ⟨by decide, by decide⟩)).mpr c_42
                          have hq9 := hy0.1 z_25 (by omega) (by omega)
                          have hld_43 := ld.last hw_23.1 hw_37.1 (by omega) (by omega) hy0 (by omega) (by omega) ez_28 (by omega)
                          have hpa9 := hpa (by omega)
                          have hpa8 := hpa9.2.2.2.2.1
                          have hpa7 := hpa9.1
                          have hpa6 := hpa9.2.1
                          have hpa5 := hpa9.2.2
                          have hpa4 := hpa9.2.2.2.1
                          have hk9 := hy0.1 z_39 (by omega) (by omega)
                          refine lv_aload_n hx hb dX11_lays_271 rfl (lv_at hl 6 rfl) ?_
                          refine ok.getR hO h_a (by decide) k13_3 (by decide) (fun _ _ he hv kk => th_get (ci := 11) (C := RX11) (T := TX11) (N := 66) hx hb hts inX11 hown hK hH he rfl 3 (by decide) fl3 hv dX11_lays_272 kk) ?_
                          refine lv_iload hx hb dX11_lays_275 (lv_at hl 1 rfl) ?_
                          refine lv_aload_n hx hb dX11_lays_277 rfl (lv_at hl 6 rfl) ?_
                          refine ok.getR hO h_a (by decide) k13_44 (by decide) (fun _ _ he hv kk => th_get (ci := 11) (C := RX11) (T := TX11) (N := 66) hx hb hts inX11 hown hK hH he rfl 44 (by decide) fl4 hv dX11_lays_278 kk) ?_
                          refine lv_iload hx hb dX11_lays_281 (lv_at hl 9 rfl) ?_
                          refine th_calli (va_runS (As := [.ref (ad E a 3), .int (I z_39), .ref (ad E a 44), .int (I w0q13)]) (rest := []) ⟨hx, hb, hml, hown, hts⟩ (w_areLike 61 l G y b0 σ E hO (ad E a 3) 16000 f3 (hO.roww h_a k13_3 isA1 ef3 rfl) z_39 (show rng z_39 from rz_39) (by omega) (by omega) (ad E a 44) 1200 f44 (hO.roww h_a k13_44 isA1 ef44 rfl) w0q13 (show rng w0q13 from rw0q13) (by omega) (by omega) (by first | exact hy0.1 | exact (hy0.1).sub (by omega) (by omega) | exact hpa9.2.2.2.2.1 | exact (hpa9.2.2.2.2.1).sub (by omega) (by omega)) (by omega) (by omega) (by omega) (by first | exact hy0.1 | exact (hy0.1).sub (by omega) (by omega) | exact hpa9.2.2.2.2.1 | exact (hpa9.2.2.2.2.1).sub (by omega) (by omega)) (by omega) (by omega) (by omega) (by omega)) (va_cwS 4 hts gX11_lays_X11_areLike rfl rfl rfl (by decide +kernel) ⟨Nat.le_of_ble_eq_true rfl, Nat.le_of_ble_eq_true rfl⟩) (th_PS hK hH) rfl rfl hl.1 rfl (lv_room (Nat.le_of_ble_eq_true rfl)) dX11_lays_283 ⟨Nat.le_of_ble_eq_true rfl, Nat.le_of_ble_eq_true rfl⟩) hS (fun z_46 σ_s_45 H locs rz_46 hw_44 hH hS => ?_)
                          obtain ⟨e9, bhw_44, hw_44⟩ := hw_44
                          replace e9 := e9.symm
                          subst e9
                          refine lv_if_eq (tgt := 317) hx hb dX11_lays_286 (by decide) (fun c_47 => ?_) (fun c_47 => ?_)
                          · replace c_47 := (I_eq (a := z_46) (b := 0) rz_46 (show rng 0 from ⟨by decide, by decide⟩)).mp c_47
                            refine lv_iconst (v := I 0) hx hb dX11_lays_317 (by decide) ?_
                            exact th_zret hx hb hr hlocks hH hS (z := 0) (by omega) ⟨hO, hF, hM, ⟨by omega, by omega⟩, by rw [show aF σ (ad E a 3) = f3 from ef3]; exact ⟨hy0.eqM (by omega), by omega, by omega, by omega⟩⟩ dX11_lays_318
                          · replace c_47 := mt (I_eq (a := z_46) (b := 0) rz_46 (show rng 0 from ⟨by decide, by decide⟩)).mpr c_47
                            refine lv_iload_n hx hb dX11_lays_289 rfl (lv_at hl 8 rfl) ?_
                            refine lv_iconst (v := I 2) hx hb dX11_lays_290 (by decide) ?_
                            refine lv_icmp_ne (tgt := 319) hx hb dX11_lays_291 (by decide) (fun c_48 => ?_) (fun c_48 => ?_)
                            · replace c_48 := mt (I_eq (a := w0q8) (b := 2) rw0q8 (show rng 2 from ⟨by decide, by decide⟩)).mpr c_48
                              refine lv_iload_n hx hb dX11_lays_319 rfl (lv_at hl 8 rfl) ?_
                              refine lv_iconst (v := I 2) hx hb dX11_lays_320 (by decide) ?_
                              refine lv_icmp_ne (tgt := 332) hx hb dX11_lays_321 (by decide) (fun c_49 => ?_) (fun c_49 => ?_)
                              · replace c_49 := mt (I_eq (a := w0q8) (b := 2) rw0q8 (show rng 2 from ⟨by decide, by decide⟩)).mpr c_49
                                have hpl := hpb (by omega)
                                have hpl2 := hpl.2.2
                                have hpl3 := hpl.1
                                have hpl4 := hpl.2.1
                                have hpl5 := hpl.2.2.2.1
                                have hwb9 := hwb (by omega)
                                have hkd := hld_43.kid (by omega) hy0 (by omega) (by omega)
                                have hkd1 := hkd.1.1
                                have hkd2 := hkd.1.2.1
                                refine lv_aload_n hx hb dX11_lays_332 rfl (lv_at hl 6 rfl) ?_
                                refine lv_aload_n hx hb dX11_lays_333 rfl (lv_at hl 6 rfl) ?_
                                refine ok.getR hO h_a (by decide) k13_44 (by decide) (fun _ _ he hv kk => th_get (ci := 11) (C := RX11) (T := TX11) (N := 66) hx hb hts inX11 hown hK hH he rfl 44 (by decide) fl4 hv dX11_lays_334 kk) ?_
                                refine lv_iload hx hb dX11_lays_337 (lv_at hl 5 rfl) ?_
                                obtain ⟨f_50, ef_51⟩ : ∃ f9, aF σ (ad E a 31) = f9 := ⟨_, rfl⟩
                                obtain ⟨_, hc_52⟩ := hO.cell h_a (by decide) (ci := 11) rfl
                                refine th_callv (va_runV (As := [.ref (ad E a 44), .int (I w0q18)]) (rest := []) ⟨hx, hb, hml, hown, hts⟩ (m_lift44 l G y b0 σ E hO a h_a w0q18 (show rng w0q18 from rw0q18) (by omega) (by omega) f44 ef44 f_50 ef_51 (hpl.2.2.2.2) (by omega) (by omega)) (cwV 2 hts gX11_lays_X11_lift rfl rfl rfl (by decide +kernel) ⟨Nat.le_of_ble_eq_true rfl, Nat.le_of_ble_eq_true rfl⟩) (th_PV hK hH rfl hc_52) rfl rfl hl.1 rfl (lv_room (Nat.le_of_ble_eq_true rfl)) dX11_lays_339 ⟨Nat.le_of_ble_eq_true rfl, Nat.le_of_ble_eq_true rfl⟩) hS (fun σ_s_54 H locs hw_53 hH hS => ?_)
                                obtain ⟨hO9, hF9, hM9, hw_53⟩ := hw_53
                                replace hM := hM.tu hM9 (by decide)
                                replace hF := hF.tu hF9 (by decide)
                                have e_55 : aF σ_s_54 (ad E a 3) = f3 := (hM9.a (by decide) (by decide)).trans ef3
                                have e_56 : aF σ_s_54 (ad E a 39) = f39 := (hM9.a (by decide) (by decide)).trans ef39
                                have e_57 : aF σ_s_54 (ad E a 40) = f40 := (hM9.a (by decide) (by decide)).trans ef40
                                have e_58 : aF σ_s_54 (ad E a 41) = f41 := (hM9.a (by decide) (by decide)).trans ef41
                                have e_59 : aF σ_s_54 (ad E a 42) = f42 := (hM9.a (by decide) (by decide)).trans ef42
                                have e_60 : aF σ_s_54 (ad E a 43) = f43 := (hM9.a (by decide) (by decide)).trans ef43
                                have e_61 : aF σ_s_54 (ad E a 44) = f44 := (hM9.a (by decide) (by decide)).trans ef44
                                have e_62 : gI σ_s_54 a 5 = a50 := (hM9.i (by decide)).trans ea50
                                replace hO := hO9
                                generalize ef_64 : aF σ_s_54 (ad E a 31) = g_63 at hw_53
                                have hw_53 : mT g_63 0 (mS f44 w0q18) ∧ mS g_63 0 = mS f44 w0q18 := hw_53
                                refine lv_iload hx hb dX11_lays_342 (lv_at hl 4 rfl) ?_
                                refine lv_if_ne (tgt := 364) hx hb dX11_lays_344 (by decide) (fun c_65 => ?_) (fun c_65 => ?_)
                                · replace c_65 := mt (I_eq (a := z_20) (b := 0) rz_20 (show rng 0 from ⟨by decide, by decide⟩)).mpr c_65
                                  refine lv_aload_n hx hb dX11_lays_364 rfl (lv_at hl 6 rfl) ?_
                                  refine lv_iload hx hb dX11_lays_365 (lv_at hl 1 rfl) ?_
                                  obtain ⟨_, hc_66⟩ := hO.cell h_a (by decide) (ci := 11) rfl
                                  refine th_callv (va_runV (As := [.int (I z_39)]) (rest := []) ⟨hx, hb, hml, hown, hts⟩ (m_cut l G y b0 σ_s_54 E hO a h_a z_39 (show rng z_39 from rz_39) (by omega) (by omega) f3 e_55 ((by rw [show gI σ_s_54 a 5 = gI σ a 5 by omega]; exact hy0)) (by omega)) (cwV 1 hts gX11_lays_X11_cut rfl rfl rfl (by decide +kernel) ⟨Nat.le_of_ble_eq_true rfl, Nat.le_of_ble_eq_true rfl⟩) (th_PV hK hH rfl hc_66) rfl rfl hl.1 rfl (lv_room (Nat.le_of_ble_eq_true rfl)) dX11_lays_367 ⟨Nat.le_of_ble_eq_true rfl, Nat.le_of_ble_eq_true rfl⟩) hS (fun σ_s_68 H locs hw_67 hH hS => ?_)
                                  obtain ⟨hO9, hF9, hM9, hw_67⟩ := hw_67
                                  replace hM := hM.tu hM9 (by decide)
                                  replace hF := hF.tu hF9 (by decide)
                                  have e_69 : aF σ_s_68 (ad E a 39) = f39 := (hM9.a (by decide) (by decide)).trans e_56
                                  have e_70 : aF σ_s_68 (ad E a 40) = f40 := (hM9.a (by decide) (by decide)).trans e_57
                                  have e_71 : aF σ_s_68 (ad E a 41) = f41 := (hM9.a (by decide) (by decide)).trans e_58
                                  have e_72 : aF σ_s_68 (ad E a 42) = f42 := (hM9.a (by decide) (by decide)).trans e_59
                                  have e_73 : aF σ_s_68 (ad E a 43) = f43 := (hM9.a (by decide) (by decide)).trans e_60
                                  have e_74 : aF σ_s_68 (ad E a 44) = f44 := (hM9.a (by decide) (by decide)).trans e_61
                                  have e_75 : aF σ_s_68 (ad E a 31) = g_63 := (hM9.a (by decide) (by decide)).trans ef_64
                                  replace hO := hO9
                                  generalize ef_77 : aF σ_s_68 (ad E a 3) = g_76 at hw_67
                                  have hw_67 : cutr f3 g_76 z_39 (mS f3 z_39) (gI σ_s_54 a 5) ∧ gI σ_s_68 a 5 = gI σ_s_54 a 5 - mS f3 z_39 := hw_67
                                  have hC9 := hw_67.1
                                  rw [show gI σ_s_54 a 5 = gI σ a 5 by omega] at hC9
                                  have hM8 := hy0.cut hC9 rfl (by omega) (by omega)
                                  have hR8 := hC9.root hy0.1 rfl (by omega) (by omega) (by omega)
                                  have hE8 := hy0.1.end (i := z_39) (by omega) (by omega)
                                  have hS8 := spot_cut (v := 0) hy0 hC9 rfl (by omega) (by omega) (by omega) hkd.1 (fun h9 => by omega)
                                  have hT8 := spot_cut (v := z_28) hy0 hC9 rfl (by omega) (by omega) (by omega) hkd.1 (fun h9 => by omega)
                                  refine lv_aload_n hx hb dX11_lays_370 rfl (lv_at hl 6 rfl) ?_
                                  refine lv_iload hx hb dX11_lays_371 (lv_at hl 3 rfl) ?_
                                  refine lv_iload hx hb dX11_lays_373 (lv_at hl 1 rfl) ?_
                                  refine lv_iload hx hb dX11_lays_375 (lv_at hl 0 rfl) ?_
                                  refine lv_if_eq (tgt := 384) hx hb dX11_lays_377 (by decide) (fun _ => ?_) (fun c_78 => absurd (by decide) c_78)
                                  refine lv_iload hx hb dX11_lays_384 (lv_at hl 2 rfl) ?_
                                  obtain ⟨_, hc_79⟩ := hO.cell h_a (by decide) (ci := 11) rfl
                                  refine th_callv (va_runV (As := [.int (I z_25), .int (I z_39), .int (I z_28)]) (rest := []) ⟨hx, hb, hml, hown, hts⟩ (m_layInto l G y b0 σ_s_68 E hO a h_a z_25 (show rng z_25 from rz_25) (by omega) (by omega) z_39 (show rng z_39 from rz_39) (by omega) (by omega) z_28 (show rng z_28 from rz_28) g_76 ef_77 g_63 e_75 ((by rw [show gI σ_s_68 a 5 = gI σ a 5 - mS f3 z_39 by omega]; exact hM8)) ((by rw [show gI σ_s_68 a 5 = gI σ a 5 - mS f3 z_39 by omega]; exact hS8.1)) (by omega) (by omega)) (cwV 3 hts gX11_lays_X11_layInto rfl rfl rfl (by decide +kernel) ⟨Nat.le_of_ble_eq_true rfl, Nat.le_of_ble_eq_true rfl⟩) (th_PV hK hH rfl hc_79) rfl rfl hl.1 rfl (lv_room (Nat.le_of_ble_eq_true rfl)) dX11_lays_386 ⟨Nat.le_of_ble_eq_true rfl, Nat.le_of_ble_eq_true rfl⟩) hS (fun σ_s_81 H locs hw_80 hH hS => ?_)
                                  obtain ⟨hO9, hF9, hM9, hw_80⟩ := hw_80
                                  replace hM := hM.tu hM9 (by decide)
                                  replace hF := hF.tu hF9 (by decide)
                                  have e_82 : aF σ_s_81 (ad E a 39) = f39 := (hM9.a (by decide) (by decide)).trans e_69
                                  have e_83 : aF σ_s_81 (ad E a 40) = f40 := (hM9.a (by decide) (by decide)).trans e_70
                                  have e_84 : aF σ_s_81 (ad E a 41) = f41 := (hM9.a (by decide) (by decide)).trans e_71
                                  have e_85 : aF σ_s_81 (ad E a 42) = f42 := (hM9.a (by decide) (by decide)).trans e_72
                                  have e_86 : aF σ_s_81 (ad E a 43) = f43 := (hM9.a (by decide) (by decide)).trans e_73
                                  have e_87 : aF σ_s_81 (ad E a 44) = f44 := (hM9.a (by decide) (by decide)).trans e_74
                                  have e_88 : aF σ_s_81 (ad E a 31) = g_63 := (hM9.a (by decide) (by decide)).trans e_75
                                  replace hO := hO9
                                  generalize ef_90 : aF σ_s_81 (ad E a 3) = g_89 at hw_80
                                  have hw_80 : layr g_76 g_89 g_63 z_25 z_39 (mS g_63 0) z_28 (gI σ_s_68 a 5) ∧ gI σ_s_81 a 5 = gI σ_s_68 a 5 + mS g_63 0 := hw_80
                                  refine lv_iconst (v := I 1) hx hb dX11_lays_389 (by decide) ?_
                                  exact th_zret hx hb hr hlocks hH hS (z := 1) (by omega) ⟨hO, hF, hM, ⟨by omega, by omega⟩, by have h9 := hw_80.1; rw [show gI σ_s_68 a 5 = gI σ a 5 - mS f3 z_39 by omega, hw_53.2] at h9; have h8 := hM8.lay h9 (by omega) hS8.1 hw_53.1 hw_53.2 hT8.2.2; have h7 := h9.root hM8.1 (by omega) hS8.1 hR8; rw [show aF σ_s_81 (ad E a 3) = g_89 from ef_90]; exact ⟨h8.eqM (by omega), by omega, by omega, by omega⟩⟩ dX11_lays_390
                                · replace c_65 := (I_eq (a := z_20) (b := 0) rz_20 (show rng 0 from ⟨by decide, by decide⟩)).mp c_65
                                  exfalso; omega
                              · replace c_49 := (I_eq (a := w0q8) (b := 2) rw0q8 (show rng 2 from ⟨by decide, by decide⟩)).mp c_49
                                exfalso; omega
                            · replace c_48 := (I_eq (a := w0q8) (b := 2) rw0q8 (show rng 2 from ⟨by decide, by decide⟩)).mp c_48
                              refine lv_iload hx hb dX11_lays_294 (lv_at hl 0 rfl) ?_
                              refine lv_if_eq (tgt := 319) hx hb dX11_lays_296 (by decide) (fun _ => ?_) (fun c_91 => absurd (by decide) c_91)
                              refine lv_iload_n hx hb dX11_lays_319 rfl (lv_at hl 8 rfl) ?_
                              refine lv_iconst (v := I 2) hx hb dX11_lays_320 (by decide) ?_
                              refine lv_icmp_ne (tgt := 332) hx hb dX11_lays_321 (by decide) (fun c_92 => ?_) (fun c_92 => ?_)
                              · replace c_92 := mt (I_eq (a := w0q8) (b := 2) rw0q8 (show rng 2 from ⟨by decide, by decide⟩)).mpr c_92
                                exfalso; omega
                              · replace c_92 := (I_eq (a := w0q8) (b := 2) rw0q8 (show rng 2 from ⟨by decide, by decide⟩)).mp c_92
                                have hkd := hld_43.kid (by omega) hy0 (by omega) (by omega)
                                have hkd1 := hkd.1.1
                                have hkd2 := hkd.1.2.1
                                refine lv_aload_n hx hb dX11_lays_324 rfl (lv_at hl 6 rfl) ?_
                                refine lv_iload hx hb dX11_lays_325 (lv_at hl 1 rfl) ?_
                                obtain ⟨_, hc_93⟩ := hO.cell h_a (by decide) (ci := 11) rfl
                                refine th_callv (va_runV (As := [.int (I z_39)]) (rest := []) ⟨hx, hb, hml, hown, hts⟩ (m_cut l G y b0 σ E hO a h_a z_39 (show rng z_39 from rz_39) (by omega) (by omega) f3 ef3 ((by rw [show gI σ a 5 = gI σ a 5 by omega]; exact hy0)) (by omega)) (cwV 1 hts gX11_lays_X11_cut rfl rfl rfl (by decide +kernel) ⟨Nat.le_of_ble_eq_true rfl, Nat.le_of_ble_eq_true rfl⟩) (th_PV hK hH rfl hc_93) rfl rfl hl.1 rfl (lv_room (Nat.le_of_ble_eq_true rfl)) dX11_lays_327 ⟨Nat.le_of_ble_eq_true rfl, Nat.le_of_ble_eq_true rfl⟩) hS (fun σ_s_95 H locs hw_94 hH hS => ?_)
                                obtain ⟨hO9, hF9, hM9, hw_94⟩ := hw_94
                                replace hM := hM.tu hM9 (by decide)
                                replace hF := hF.tu hF9 (by decide)
                                have e_96 : aF σ_s_95 (ad E a 39) = f39 := (hM9.a (by decide) (by decide)).trans ef39
                                have e_97 : aF σ_s_95 (ad E a 40) = f40 := (hM9.a (by decide) (by decide)).trans ef40
                                have e_98 : aF σ_s_95 (ad E a 41) = f41 := (hM9.a (by decide) (by decide)).trans ef41
                                have e_99 : aF σ_s_95 (ad E a 42) = f42 := (hM9.a (by decide) (by decide)).trans ef42
                                have e_100 : aF σ_s_95 (ad E a 43) = f43 := (hM9.a (by decide) (by decide)).trans ef43
                                have e_101 : aF σ_s_95 (ad E a 44) = f44 := (hM9.a (by decide) (by decide)).trans ef44
                                replace hO := hO9
                                generalize ef_103 : aF σ_s_95 (ad E a 3) = g_102 at hw_94
                                have hw_94 : cutr f3 g_102 z_39 (mS f3 z_39) (gI σ a 5) ∧ gI σ_s_95 a 5 = gI σ a 5 - mS f3 z_39 := hw_94
                                have hC9 := hw_94.1
                                rw [show gI σ a 5 = gI σ a 5 by omega] at hC9
                                have hM8 := hy0.cut hC9 rfl (by omega) (by omega)
                                have hR8 := hC9.root hy0.1 rfl (by omega) (by omega) (by omega)
                                have hE8 := hy0.1.end (i := z_39) (by omega) (by omega)
                                refine lv_iconst (v := I 1) hx hb dX11_lays_330 (by decide) ?_
                                exact th_zret hx hb hr hlocks hH hS (z := 1) (by omega) ⟨hO, hF, hM, ⟨by omega, by omega⟩, by rw [show aF σ_s_95 (ad E a 3) = g_102 from ef_103]; exact ⟨hM8.eqM (by omega), by omega, by omega, by omega⟩⟩ dX11_lays_331
                      · replace c_41 := (I_eq (a := w0q8) (b := 1) rw0q8 (show rng 1 from ⟨by decide, by decide⟩)).mp c_41
                        refine lv_iload hx hb dX11_lays_195 (lv_at hl 1 rfl) ?_
                        refine lv_iconst (v := I (-1)) hx hb dX11_lays_197 (by decide) ?_
                        refine lv_icmp_ne (tgt := 222) hx hb dX11_lays_198 (by decide) (fun c_104 => ?_) (fun c_104 => ?_)
                        · replace c_104 := mt (I_eq (a := z_39) (b := (-1)) rz_39 (show rng (-1) from ⟨by decide, by decide⟩)).mpr c_104
                          refine lv_iconst (v := I 0) hx hb dX11_lays_222 (by decide) ?_
                          exact th_zret hx hb hr hlocks hH hS (z := 0) (by omega) ⟨hO, hF, hM, ⟨by omega, by omega⟩, by rw [show aF σ (ad E a 3) = f3 from ef3]; exact ⟨hy0.eqM (by omega), by omega, by omega, by omega⟩⟩ dX11_lays_223
                        · replace c_104 := (I_eq (a := z_39) (b := (-1)) rz_39 (show rng (-1) from ⟨by decide, by decide⟩)).mp c_104
                          refine lv_iload hx hb dX11_lays_201 (lv_at hl 0 rfl) ?_
                          refine lv_if_eq (tgt := 224) hx hb dX11_lays_203 (by decide) (fun _ => ?_) (fun c_105 => absurd (by decide) c_105)
                          have hq9 := hy0.1 z_25 (by omega) (by omega)
                          have hld_106 := ld.last hw_23.1 hw_37.1 (by omega) (by omega) hy0 (by omega) (by omega) ez_28 (by omega)
                          have hpl := hpb (by omega)
                          have hpl2 := hpl.2.2
                          have hpl3 := hpl.1
                          have hpl4 := hpl.2.1
                          have hpl5 := hpl.2.2.2.1
                          have hwb9 := hwb (by omega)
                          refine lv_aload_n hx hb dX11_lays_224 rfl (lv_at hl 6 rfl) ?_
                          refine lv_aload_n hx hb dX11_lays_225 rfl (lv_at hl 6 rfl) ?_
                          refine ok.getR hO h_a (by decide) k13_44 (by decide) (fun _ _ he hv kk => th_get (ci := 11) (C := RX11) (T := TX11) (N := 66) hx hb hts inX11 hown hK hH he rfl 44 (by decide) fl4 hv dX11_lays_226 kk) ?_
                          refine lv_iload hx hb dX11_lays_229 (lv_at hl 5 rfl) ?_
                          obtain ⟨f_107, ef_108⟩ : ∃ f9, aF σ (ad E a 31) = f9 := ⟨_, rfl⟩
                          obtain ⟨_, hc_109⟩ := hO.cell h_a (by decide) (ci := 11) rfl
                          refine th_callv (va_runV (As := [.ref (ad E a 44), .int (I w0q18)]) (rest := []) ⟨hx, hb, hml, hown, hts⟩ (m_lift44 l G y b0 σ E hO a h_a w0q18 (show rng w0q18 from rw0q18) (by omega) (by omega) f44 ef44 f_107 ef_108 (hpl.2.2.2.2) (by omega) (by omega)) (cwV 2 hts gX11_lays_X11_lift rfl rfl rfl (by decide +kernel) ⟨Nat.le_of_ble_eq_true rfl, Nat.le_of_ble_eq_true rfl⟩) (th_PV hK hH rfl hc_109) rfl rfl hl.1 rfl (lv_room (Nat.le_of_ble_eq_true rfl)) dX11_lays_231 ⟨Nat.le_of_ble_eq_true rfl, Nat.le_of_ble_eq_true rfl⟩) hS (fun σ_s_111 H locs hw_110 hH hS => ?_)
                          obtain ⟨hO9, hF9, hM9, hw_110⟩ := hw_110
                          replace hM := hM.tu hM9 (by decide)
                          replace hF := hF.tu hF9 (by decide)
                          have e_112 : aF σ_s_111 (ad E a 3) = f3 := (hM9.a (by decide) (by decide)).trans ef3
                          have e_113 : aF σ_s_111 (ad E a 39) = f39 := (hM9.a (by decide) (by decide)).trans ef39
                          have e_114 : aF σ_s_111 (ad E a 40) = f40 := (hM9.a (by decide) (by decide)).trans ef40
                          have e_115 : aF σ_s_111 (ad E a 41) = f41 := (hM9.a (by decide) (by decide)).trans ef41
                          have e_116 : aF σ_s_111 (ad E a 42) = f42 := (hM9.a (by decide) (by decide)).trans ef42
                          have e_117 : aF σ_s_111 (ad E a 43) = f43 := (hM9.a (by decide) (by decide)).trans ef43
                          have e_118 : aF σ_s_111 (ad E a 44) = f44 := (hM9.a (by decide) (by decide)).trans ef44
                          have e_119 : gI σ_s_111 a 5 = a50 := (hM9.i (by decide)).trans ea50
                          replace hO := hO9
                          generalize ef_121 : aF σ_s_111 (ad E a 31) = g_120 at hw_110
                          have hw_110 : mT g_120 0 (mS f44 w0q18) ∧ mS g_120 0 = mS f44 w0q18 := hw_110
                          refine lv_aload_n hx hb dX11_lays_234 rfl (lv_at hl 6 rfl) ?_
                          refine lv_iload hx hb dX11_lays_235 (lv_at hl 3 rfl) ?_
                          refine lv_iload hx hb dX11_lays_237 (lv_at hl 3 rfl) ?_
                          refine lv_aload_n hx hb dX11_lays_239 rfl (lv_at hl 6 rfl) ?_
                          refine ok.getR hO h_a (by decide) k13_3 (by decide) (fun _ _ he hv kk => th_get (ci := 11) (C := RX11) (T := TX11) (N := 66) hx hb hts inX11 hown hK hH he rfl 3 (by decide) fl3 hv dX11_lays_240 kk) ?_
                          refine lv_iload hx hb dX11_lays_243 (lv_at hl 3 rfl) ?_
                          refine th_calli (va_runS (As := [.ref (ad E a 3), .int (I z_25)]) (rest := [.int (I z_25), .int (I z_25), .ref a]) ⟨hx, hb, hml, hown, hts⟩ (w_size l G y b0 σ_s_111 E hO (ad E a 3) 16000 f3 (hO.roww h_a k13_3 isA1 e_112 rfl) z_25 (show rng z_25 from rz_25) (by omega) (by omega) (by omega)) (va_cwS 2 hts gX11_lays_X11_size rfl rfl rfl (by decide +kernel) ⟨Nat.le_of_ble_eq_true rfl, Nat.le_of_ble_eq_true rfl⟩) (th_PS hK hH) rfl rfl hl.1 rfl (lv_room (Nat.le_of_ble_eq_true rfl)) dX11_lays_245 ⟨Nat.le_of_ble_eq_true rfl, Nat.le_of_ble_eq_true rfl⟩) hS (fun z_124 σ_s_123 H locs rz_124 hw_122 hH hS => ?_)
                          obtain ⟨e9, hw_122⟩ := hw_122
                          replace e9 := e9.symm
                          subst e9
                          have hw_122 : z_124 = mS f3 z_25 := hw_122
                          refine lv_iadd hx hb dX11_lays_248 ?_
                          refine nq_top (I_add _ _) ?_
                          refine lv_iload hx hb dX11_lays_249 (lv_at hl 0 rfl) ?_
                          refine lv_if_eq (tgt := 258) hx hb dX11_lays_251 (by decide) (fun _ => ?_) (fun c_125 => absurd (by decide) c_125)
                          refine lv_iload hx hb dX11_lays_258 (lv_at hl 2 rfl) ?_
                          obtain ⟨_, hc_126⟩ := hO.cell h_a (by decide) (ci := 11) rfl
                          refine th_callv (va_runV (As := [.int (I z_25), .int (I (z_25 + z_124)), .int (I z_28)]) (rest := []) ⟨hx, hb, hml, hown, hts⟩ (m_layInto l G y b0 σ_s_111 E hO a h_a z_25 (show rng z_25 from rz_25) (by omega) (by omega) (z_25 + z_124) (show rng (z_25 + z_124) from ⟨by omega, by omega⟩) (by omega) (by omega) z_28 (show rng z_28 from rz_28) f3 e_112 g_120 ef_121 ((by rw [show gI σ_s_111 a 5 = gI σ a 5 by omega]; exact hy0)) ((by rw [show gI σ_s_111 a 5 = gI σ a 5 by omega]; have h9 := spot_end hy0.1 (q := z_25) (by omega) (by omega); rw [show z_25 + mS f3 z_25 = (z_25 + z_124) by omega] at h9; exact h9)) (by omega) (by omega)) (cwV 3 hts gX11_lays_X11_layInto rfl rfl rfl (by decide +kernel) ⟨Nat.le_of_ble_eq_true rfl, Nat.le_of_ble_eq_true rfl⟩) (th_PV hK hH rfl hc_126) rfl rfl hl.1 rfl (lv_room (Nat.le_of_ble_eq_true rfl)) dX11_lays_260 ⟨Nat.le_of_ble_eq_true rfl, Nat.le_of_ble_eq_true rfl⟩) hS (fun σ_s_128 H locs hw_127 hH hS => ?_)
                          obtain ⟨hO9, hF9, hM9, hw_127⟩ := hw_127
                          replace hM := hM.tu hM9 (by decide)
                          replace hF := hF.tu hF9 (by decide)
                          have e_129 : aF σ_s_128 (ad E a 39) = f39 := (hM9.a (by decide) (by decide)).trans e_113
                          have e_130 : aF σ_s_128 (ad E a 40) = f40 := (hM9.a (by decide) (by decide)).trans e_114
                          have e_131 : aF σ_s_128 (ad E a 41) = f41 := (hM9.a (by decide) (by decide)).trans e_115
                          have e_132 : aF σ_s_128 (ad E a 42) = f42 := (hM9.a (by decide) (by decide)).trans e_116
                          have e_133 : aF σ_s_128 (ad E a 43) = f43 := (hM9.a (by decide) (by decide)).trans e_117
                          have e_134 : aF σ_s_128 (ad E a 44) = f44 := (hM9.a (by decide) (by decide)).trans e_118
                          have e_135 : aF σ_s_128 (ad E a 31) = g_120 := (hM9.a (by decide) (by decide)).trans ef_121
                          replace hO := hO9
                          generalize ef_137 : aF σ_s_128 (ad E a 3) = g_136 at hw_127
                          have hw_127 : layr f3 g_136 g_120 z_25 (z_25 + z_124) (mS g_120 0) z_28 (gI σ_s_111 a 5) ∧ gI σ_s_128 a 5 = gI σ_s_111 a 5 + mS g_120 0 := hw_127
                          refine lv_iconst (v := I 1) hx hb dX11_lays_263 (by decide) ?_
                          exact th_zret hx hb hr hlocks hH hS (z := 1) (by omega) ⟨hO, hF, hM, ⟨by omega, by omega⟩, by have h9 := hw_127.1; rw [show gI σ_s_111 a 5 = gI σ a 5 by omega, hw_110.2] at h9; have hsp := spot_end hy0.1 (q := z_25) (by omega) (by omega); rw [show z_25 + mS f3 z_25 = (z_25 + z_124) by omega] at hsp; have h8 := hy0.lay h9 (by omega) hsp hw_110.1 hw_110.2 (fun h9 => absurd h9 (by omega)); have h7 := h9.root hy0.1 (by omega) hsp (by omega); rw [show aF σ_s_128 (ad E a 3) = g_136 from ef_137]; exact ⟨h8.eqM (by omega), by omega, by omega, by omega⟩⟩ dX11_lays_264
                    · replace c_40 := mt (I_le (a := 0) (b := z_28) (show rng 0 from ⟨by decide, by decide⟩) rz_28).mpr c_40
                      refine lv_iconst (v := I 1) hx hb dX11_lays_183 (by decide) ?_
                      refine lv_goto (tgt := 188) hx hb dX11_lays_184 (by decide) ?_
                      refine lv_istore (lv' := [(10, .int (I 1)), (9, .int (I z_39)), (8, .int (I z_28)), (7, .int (I z_25)), (6, .int (I z_20)), (5, .int (I w0q18)), (0, .ref a), (1, .int (I w)), (3, .int (I w0q8)), (4, .int (I w0q13))]) hx hb dX11_lays_188 hl (by decide) rfl (fun ls hl => ?_)
                      refine lv_iload_n hx hb dX11_lays_190 rfl (lv_at hl 8 rfl) ?_
                      refine lv_iconst (v := I 1) hx hb dX11_lays_191 (by decide) ?_
                      refine lv_icmp_ne (tgt := 265) hx hb dX11_lays_192 (by decide) (fun c_138 => ?_) (fun c_138 => ?_)
                      · replace c_138 := mt (I_eq (a := w0q8) (b := 1) rw0q8 (show rng 1 from ⟨by decide, by decide⟩)).mpr c_138
                        refine lv_iload hx hb dX11_lays_265 (lv_at hl 1 rfl) ?_
                        refine lv_iconst (v := I (-1)) hx hb dX11_lays_267 (by decide) ?_
                        refine lv_icmp_eq (tgt := 317) hx hb dX11_lays_268 (by decide) (fun c_139 => ?_) (fun c_139 => ?_)
                        · replace c_139 := (I_eq (a := z_39) (b := (-1)) rz_39 (show rng (-1) from ⟨by decide, by decide⟩)).mp c_139
                          refine lv_iconst (v := I 0) hx hb dX11_lays_317 (by decide) ?_
                          exact th_zret hx hb hr hlocks hH hS (z := 0) (by omega) ⟨hO, hF, hM, ⟨by omega, by omega⟩, by rw [show aF σ (ad E a 3) = f3 from ef3]; exact ⟨hy0.eqM (by omega), by omega, by omega, by omega⟩⟩ dX11_lays_318
                        · replace c_139 := mt (I_eq (a := z_39) (b := (-1)) rz_39 (show rng (-1) from ⟨by decide, by decide⟩)).mpr c_139
                          have hq9 := hy0.1 z_25 (by omega) (by omega)
                          have hld_140 := ld.last hw_23.1 hw_37.1 (by omega) (by omega) hy0 (by omega) (by omega) ez_28 (by omega)
                          have hpa9 := hpa (by omega)
                          have hpa8 := hpa9.2.2.2.2.1
                          have hpa7 := hpa9.1
                          have hpa6 := hpa9.2.1
                          have hpa5 := hpa9.2.2
                          have hpa4 := hpa9.2.2.2.1
                          have hk9 := hy0.1 z_39 (by omega) (by omega)
                          refine lv_aload_n hx hb dX11_lays_271 rfl (lv_at hl 6 rfl) ?_
                          refine ok.getR hO h_a (by decide) k13_3 (by decide) (fun _ _ he hv kk => th_get (ci := 11) (C := RX11) (T := TX11) (N := 66) hx hb hts inX11 hown hK hH he rfl 3 (by decide) fl3 hv dX11_lays_272 kk) ?_
                          refine lv_iload hx hb dX11_lays_275 (lv_at hl 1 rfl) ?_
                          refine lv_aload_n hx hb dX11_lays_277 rfl (lv_at hl 6 rfl) ?_
                          refine ok.getR hO h_a (by decide) k13_44 (by decide) (fun _ _ he hv kk => th_get (ci := 11) (C := RX11) (T := TX11) (N := 66) hx hb hts inX11 hown hK hH he rfl 44 (by decide) fl4 hv dX11_lays_278 kk) ?_
                          refine lv_iload hx hb dX11_lays_281 (lv_at hl 9 rfl) ?_
                          refine th_calli (va_runS (As := [.ref (ad E a 3), .int (I z_39), .ref (ad E a 44), .int (I w0q13)]) (rest := []) ⟨hx, hb, hml, hown, hts⟩ (w_areLike 61 l G y b0 σ E hO (ad E a 3) 16000 f3 (hO.roww h_a k13_3 isA1 ef3 rfl) z_39 (show rng z_39 from rz_39) (by omega) (by omega) (ad E a 44) 1200 f44 (hO.roww h_a k13_44 isA1 ef44 rfl) w0q13 (show rng w0q13 from rw0q13) (by omega) (by omega) (by first | exact hy0.1 | exact (hy0.1).sub (by omega) (by omega) | exact hpa9.2.2.2.2.1 | exact (hpa9.2.2.2.2.1).sub (by omega) (by omega)) (by omega) (by omega) (by omega) (by first | exact hy0.1 | exact (hy0.1).sub (by omega) (by omega) | exact hpa9.2.2.2.2.1 | exact (hpa9.2.2.2.2.1).sub (by omega) (by omega)) (by omega) (by omega) (by omega) (by omega)) (va_cwS 4 hts gX11_lays_X11_areLike rfl rfl rfl (by decide +kernel) ⟨Nat.le_of_ble_eq_true rfl, Nat.le_of_ble_eq_true rfl⟩) (th_PS hK hH) rfl rfl hl.1 rfl (lv_room (Nat.le_of_ble_eq_true rfl)) dX11_lays_283 ⟨Nat.le_of_ble_eq_true rfl, Nat.le_of_ble_eq_true rfl⟩) hS (fun z_143 σ_s_142 H locs rz_143 hw_141 hH hS => ?_)
                          obtain ⟨e9, bhw_141, hw_141⟩ := hw_141
                          replace e9 := e9.symm
                          subst e9
                          refine lv_if_eq (tgt := 317) hx hb dX11_lays_286 (by decide) (fun c_144 => ?_) (fun c_144 => ?_)
                          · replace c_144 := (I_eq (a := z_143) (b := 0) rz_143 (show rng 0 from ⟨by decide, by decide⟩)).mp c_144
                            refine lv_iconst (v := I 0) hx hb dX11_lays_317 (by decide) ?_
                            exact th_zret hx hb hr hlocks hH hS (z := 0) (by omega) ⟨hO, hF, hM, ⟨by omega, by omega⟩, by rw [show aF σ (ad E a 3) = f3 from ef3]; exact ⟨hy0.eqM (by omega), by omega, by omega, by omega⟩⟩ dX11_lays_318
                          · replace c_144 := mt (I_eq (a := z_143) (b := 0) rz_143 (show rng 0 from ⟨by decide, by decide⟩)).mpr c_144
                            refine lv_iload_n hx hb dX11_lays_289 rfl (lv_at hl 8 rfl) ?_
                            refine lv_iconst (v := I 2) hx hb dX11_lays_290 (by decide) ?_
                            refine lv_icmp_ne (tgt := 319) hx hb dX11_lays_291 (by decide) (fun c_145 => ?_) (fun c_145 => ?_)
                            · replace c_145 := mt (I_eq (a := w0q8) (b := 2) rw0q8 (show rng 2 from ⟨by decide, by decide⟩)).mpr c_145
                              refine lv_iload_n hx hb dX11_lays_319 rfl (lv_at hl 8 rfl) ?_
                              refine lv_iconst (v := I 2) hx hb dX11_lays_320 (by decide) ?_
                              refine lv_icmp_ne (tgt := 332) hx hb dX11_lays_321 (by decide) (fun c_146 => ?_) (fun c_146 => ?_)
                              · replace c_146 := mt (I_eq (a := w0q8) (b := 2) rw0q8 (show rng 2 from ⟨by decide, by decide⟩)).mpr c_146
                                have hpl := hpb (by omega)
                                have hpl2 := hpl.2.2
                                have hpl3 := hpl.1
                                have hpl4 := hpl.2.1
                                have hpl5 := hpl.2.2.2.1
                                have hwb9 := hwb (by omega)
                                have hkd := hld_140.kid (by omega) hy0 (by omega) (by omega)
                                have hkd1 := hkd.1.1
                                have hkd2 := hkd.1.2.1
                                refine lv_aload_n hx hb dX11_lays_332 rfl (lv_at hl 6 rfl) ?_
                                refine lv_aload_n hx hb dX11_lays_333 rfl (lv_at hl 6 rfl) ?_
                                refine ok.getR hO h_a (by decide) k13_44 (by decide) (fun _ _ he hv kk => th_get (ci := 11) (C := RX11) (T := TX11) (N := 66) hx hb hts inX11 hown hK hH he rfl 44 (by decide) fl4 hv dX11_lays_334 kk) ?_
                                refine lv_iload hx hb dX11_lays_337 (lv_at hl 5 rfl) ?_
                                obtain ⟨f_147, ef_148⟩ : ∃ f9, aF σ (ad E a 31) = f9 := ⟨_, rfl⟩
                                obtain ⟨_, hc_149⟩ := hO.cell h_a (by decide) (ci := 11) rfl
                                refine th_callv (va_runV (As := [.ref (ad E a 44), .int (I w0q18)]) (rest := []) ⟨hx, hb, hml, hown, hts⟩ (m_lift44 l G y b0 σ E hO a h_a w0q18 (show rng w0q18 from rw0q18) (by omega) (by omega) f44 ef44 f_147 ef_148 (hpl.2.2.2.2) (by omega) (by omega)) (cwV 2 hts gX11_lays_X11_lift rfl rfl rfl (by decide +kernel) ⟨Nat.le_of_ble_eq_true rfl, Nat.le_of_ble_eq_true rfl⟩) (th_PV hK hH rfl hc_149) rfl rfl hl.1 rfl (lv_room (Nat.le_of_ble_eq_true rfl)) dX11_lays_339 ⟨Nat.le_of_ble_eq_true rfl, Nat.le_of_ble_eq_true rfl⟩) hS (fun σ_s_151 H locs hw_150 hH hS => ?_)
                                obtain ⟨hO9, hF9, hM9, hw_150⟩ := hw_150
                                replace hM := hM.tu hM9 (by decide)
                                replace hF := hF.tu hF9 (by decide)
                                have e_152 : aF σ_s_151 (ad E a 3) = f3 := (hM9.a (by decide) (by decide)).trans ef3
                                have e_153 : aF σ_s_151 (ad E a 39) = f39 := (hM9.a (by decide) (by decide)).trans ef39
                                have e_154 : aF σ_s_151 (ad E a 40) = f40 := (hM9.a (by decide) (by decide)).trans ef40
                                have e_155 : aF σ_s_151 (ad E a 41) = f41 := (hM9.a (by decide) (by decide)).trans ef41
                                have e_156 : aF σ_s_151 (ad E a 42) = f42 := (hM9.a (by decide) (by decide)).trans ef42
                                have e_157 : aF σ_s_151 (ad E a 43) = f43 := (hM9.a (by decide) (by decide)).trans ef43
                                have e_158 : aF σ_s_151 (ad E a 44) = f44 := (hM9.a (by decide) (by decide)).trans ef44
                                have e_159 : gI σ_s_151 a 5 = a50 := (hM9.i (by decide)).trans ea50
                                replace hO := hO9
                                generalize ef_161 : aF σ_s_151 (ad E a 31) = g_160 at hw_150
                                have hw_150 : mT g_160 0 (mS f44 w0q18) ∧ mS g_160 0 = mS f44 w0q18 := hw_150
                                refine lv_iload hx hb dX11_lays_342 (lv_at hl 4 rfl) ?_
                                refine lv_if_ne (tgt := 364) hx hb dX11_lays_344 (by decide) (fun c_162 => ?_) (fun c_162 => ?_)
                                · replace c_162 := mt (I_eq (a := z_20) (b := 0) rz_20 (show rng 0 from ⟨by decide, by decide⟩)).mpr c_162
                                  refine lv_aload_n hx hb dX11_lays_364 rfl (lv_at hl 6 rfl) ?_
                                  refine lv_iload hx hb dX11_lays_365 (lv_at hl 1 rfl) ?_
                                  obtain ⟨_, hc_163⟩ := hO.cell h_a (by decide) (ci := 11) rfl
                                  refine th_callv (va_runV (As := [.int (I z_39)]) (rest := []) ⟨hx, hb, hml, hown, hts⟩ (m_cut l G y b0 σ_s_151 E hO a h_a z_39 (show rng z_39 from rz_39) (by omega) (by omega) f3 e_152 ((by rw [show gI σ_s_151 a 5 = gI σ a 5 by omega]; exact hy0)) (by omega)) (cwV 1 hts gX11_lays_X11_cut rfl rfl rfl (by decide +kernel) ⟨Nat.le_of_ble_eq_true rfl, Nat.le_of_ble_eq_true rfl⟩) (th_PV hK hH rfl hc_163) rfl rfl hl.1 rfl (lv_room (Nat.le_of_ble_eq_true rfl)) dX11_lays_367 ⟨Nat.le_of_ble_eq_true rfl, Nat.le_of_ble_eq_true rfl⟩) hS (fun σ_s_165 H locs hw_164 hH hS => ?_)
                                  obtain ⟨hO9, hF9, hM9, hw_164⟩ := hw_164
                                  replace hM := hM.tu hM9 (by decide)
                                  replace hF := hF.tu hF9 (by decide)
                                  have e_166 : aF σ_s_165 (ad E a 39) = f39 := (hM9.a (by decide) (by decide)).trans e_153
                                  have e_167 : aF σ_s_165 (ad E a 40) = f40 := (hM9.a (by decide) (by decide)).trans e_154
                                  have e_168 : aF σ_s_165 (ad E a 41) = f41 := (hM9.a (by decide) (by decide)).trans e_155
                                  have e_169 : aF σ_s_165 (ad E a 42) = f42 := (hM9.a (by decide) (by decide)).trans e_156
                                  have e_170 : aF σ_s_165 (ad E a 43) = f43 := (hM9.a (by decide) (by decide)).trans e_157
                                  have e_171 : aF σ_s_165 (ad E a 44) = f44 := (hM9.a (by decide) (by decide)).trans e_158
                                  have e_172 : aF σ_s_165 (ad E a 31) = g_160 := (hM9.a (by decide) (by decide)).trans ef_161
                                  replace hO := hO9
                                  generalize ef_174 : aF σ_s_165 (ad E a 3) = g_173 at hw_164
                                  have hw_164 : cutr f3 g_173 z_39 (mS f3 z_39) (gI σ_s_151 a 5) ∧ gI σ_s_165 a 5 = gI σ_s_151 a 5 - mS f3 z_39 := hw_164
                                  have hC9 := hw_164.1
                                  rw [show gI σ_s_151 a 5 = gI σ a 5 by omega] at hC9
                                  have hM8 := hy0.cut hC9 rfl (by omega) (by omega)
                                  have hR8 := hC9.root hy0.1 rfl (by omega) (by omega) (by omega)
                                  have hE8 := hy0.1.end (i := z_39) (by omega) (by omega)
                                  have hS8 := spot_cut (v := 0) hy0 hC9 rfl (by omega) (by omega) (by omega) hkd.1 (fun h9 => by omega)
                                  have hT8 := spot_cut (v := z_28) hy0 hC9 rfl (by omega) (by omega) (by omega) hkd.1 (fun h9 => by omega)
                                  refine lv_aload_n hx hb dX11_lays_370 rfl (lv_at hl 6 rfl) ?_
                                  refine lv_iload hx hb dX11_lays_371 (lv_at hl 3 rfl) ?_
                                  refine lv_iload hx hb dX11_lays_373 (lv_at hl 1 rfl) ?_
                                  refine lv_iload hx hb dX11_lays_375 (lv_at hl 0 rfl) ?_
                                  refine lv_if_eq (tgt := 384) hx hb dX11_lays_377 (by decide) (fun c_175 => absurd c_175 (by decide)) (fun _ => ?_)
                                  refine lv_iconst (v := I 0) hx hb dX11_lays_380 (by decide) ?_
                                  refine lv_goto (tgt := 386) hx hb dX11_lays_381 (by decide) ?_
                                  obtain ⟨_, hc_176⟩ := hO.cell h_a (by decide) (ci := 11) rfl
                                  refine th_callv (va_runV (As := [.int (I z_25), .int (I z_39), .int (I 0)]) (rest := []) ⟨hx, hb, hml, hown, hts⟩ (m_layInto l G y b0 σ_s_165 E hO a h_a z_25 (show rng z_25 from rz_25) (by omega) (by omega) z_39 (show rng z_39 from rz_39) (by omega) (by omega) 0 (show rng 0 from (show rng 0 from ⟨by decide, by decide⟩)) g_173 ef_174 g_160 e_172 ((by rw [show gI σ_s_165 a 5 = gI σ a 5 - mS f3 z_39 by omega]; exact hM8)) ((by rw [show gI σ_s_165 a 5 = gI σ a 5 - mS f3 z_39 by omega]; exact hS8.1)) (by omega) (by omega)) (cwV 3 hts gX11_lays_X11_layInto rfl rfl rfl (by decide +kernel) ⟨Nat.le_of_ble_eq_true rfl, Nat.le_of_ble_eq_true rfl⟩) (th_PV hK hH rfl hc_176) rfl rfl hl.1 rfl (lv_room (Nat.le_of_ble_eq_true rfl)) dX11_lays_386 ⟨Nat.le_of_ble_eq_true rfl, Nat.le_of_ble_eq_true rfl⟩) hS (fun σ_s_178 H locs hw_177 hH hS => ?_)
                                  obtain ⟨hO9, hF9, hM9, hw_177⟩ := hw_177
                                  replace hM := hM.tu hM9 (by decide)
                                  replace hF := hF.tu hF9 (by decide)
                                  have e_179 : aF σ_s_178 (ad E a 39) = f39 := (hM9.a (by decide) (by decide)).trans e_166
                                  have e_180 : aF σ_s_178 (ad E a 40) = f40 := (hM9.a (by decide) (by decide)).trans e_167
                                  have e_181 : aF σ_s_178 (ad E a 41) = f41 := (hM9.a (by decide) (by decide)).trans e_168
                                  have e_182 : aF σ_s_178 (ad E a 42) = f42 := (hM9.a (by decide) (by decide)).trans e_169
                                  have e_183 : aF σ_s_178 (ad E a 43) = f43 := (hM9.a (by decide) (by decide)).trans e_170
                                  have e_184 : aF σ_s_178 (ad E a 44) = f44 := (hM9.a (by decide) (by decide)).trans e_171
                                  have e_185 : aF σ_s_178 (ad E a 31) = g_160 := (hM9.a (by decide) (by decide)).trans e_172
                                  replace hO := hO9
                                  generalize ef_187 : aF σ_s_178 (ad E a 3) = g_186 at hw_177
                                  have hw_177 : layr g_173 g_186 g_160 z_25 z_39 (mS g_160 0) 0 (gI σ_s_165 a 5) ∧ gI σ_s_178 a 5 = gI σ_s_165 a 5 + mS g_160 0 := hw_177
                                  refine lv_iconst (v := I 1) hx hb dX11_lays_389 (by decide) ?_
                                  exact th_zret hx hb hr hlocks hH hS (z := 1) (by omega) ⟨hO, hF, hM, ⟨by omega, by omega⟩, by have h9 := hw_177.1; rw [show gI σ_s_165 a 5 = gI σ a 5 - mS f3 z_39 by omega, hw_150.2] at h9; have h8 := hM8.lay h9 (by omega) hS8.1 hw_150.1 hw_150.2 hS8.2.2; have h7 := h9.root hM8.1 (by omega) hS8.1 hR8; rw [show aF σ_s_178 (ad E a 3) = g_186 from ef_187]; exact ⟨h8.eqM (by omega), by omega, by omega, by omega⟩⟩ dX11_lays_390
                                · replace c_162 := (I_eq (a := z_20) (b := 0) rz_20 (show rng 0 from ⟨by decide, by decide⟩)).mp c_162
                                  exfalso; omega
                              · replace c_146 := (I_eq (a := w0q8) (b := 2) rw0q8 (show rng 2 from ⟨by decide, by decide⟩)).mp c_146
                                exfalso; omega
                            · replace c_145 := (I_eq (a := w0q8) (b := 2) rw0q8 (show rng 2 from ⟨by decide, by decide⟩)).mp c_145
                              refine lv_iload hx hb dX11_lays_294 (lv_at hl 0 rfl) ?_
                              refine lv_if_eq (tgt := 319) hx hb dX11_lays_296 (by decide) (fun c_188 => absurd c_188 (by decide)) (fun _ => ?_)
                              have hkq := hy0.1 z_25 (by omega) (by omega)
                              refine lv_iconst (v := I (-1)) hx hb dX11_lays_299 (by decide) ?_
                              refine lv_iload hx hb dX11_lays_300 (lv_at hl 2 rfl) ?_
                              refine lv_isub hx hb dX11_lays_302 ?_
                              refine nq_top (I_sub _ _) ?_
                              refine lv_aload_n hx hb dX11_lays_303 rfl (lv_at hl 6 rfl) ?_
                              refine ok.getR hO h_a (by decide) k13_3 (by decide) (fun _ _ he hv kk => th_get (ci := 11) (C := RX11) (T := TX11) (N := 66) hx hb hts inX11 hown hK hH he rfl 3 (by decide) fl3 hv dX11_lays_304 kk) ?_
                              refine lv_iload hx hb dX11_lays_307 (lv_at hl 3 rfl) ?_
                              refine th_calli (va_runS (As := [.ref (ad E a 3), .int (I z_25)]) (rest := [.int (I ((-1) - z_28))]) ⟨hx, hb, hml, hown, hts⟩ (w_many l G y b0 σ E hO (ad E a 3) 16000 f3 (hO.roww h_a k13_3 isA1 ef3 rfl) z_25 (show rng z_25 from rz_25) (by omega) (by omega) (by first | exact hy0.1 | exact (hy0.1).sub (by omega) (by omega) | exact hpa9.2.2.2.2.1 | exact (hpa9.2.2.2.2.1).sub (by omega) (by omega)) (by omega) (by omega) (by omega)) (va_cwS 2 hts gX11_lays_X11_many rfl rfl rfl (by decide +kernel) ⟨Nat.le_of_ble_eq_true rfl, Nat.le_of_ble_eq_true rfl⟩) (th_PS hK hH) rfl rfl hl.1 rfl (lv_room (Nat.le_of_ble_eq_true rfl)) dX11_lays_309 ⟨Nat.le_of_ble_eq_true rfl, Nat.le_of_ble_eq_true rfl⟩) hS (fun z_191 σ_s_190 H locs rz_191 hw_189 hH hS => ?_)
                              obtain ⟨e9, hw_189⟩ := hw_189
                              replace e9 := e9.symm
                              subst e9
                              have hw_189 : chn f3 (z_25 + 1) z_191 (z_25 + mS f3 z_25) ∧ 0 ≤ z_191 ∧ z_191 < mS f3 z_25 := hw_189
                              refine lv_iconst (v := I 1) hx hb dX11_lays_312 (by decide) ?_
                              refine lv_isub hx hb dX11_lays_313 ?_
                              refine th_subo (fun z_192 rz_192 hz_192 => ?_)
                              refine lv_icmp_eq (tgt := 319) hx hb dX11_lays_314 (by decide) (fun c_193 => ?_) (fun c_193 => ?_)
                              · replace c_193 := (I_eq (a := (-1) - z_28) (b := z_192) ⟨by omega, by omega⟩ rz_192).mp c_193
                                refine lv_iload_n hx hb dX11_lays_319 rfl (lv_at hl 8 rfl) ?_
                                refine lv_iconst (v := I 2) hx hb dX11_lays_320 (by decide) ?_
                                refine lv_icmp_ne (tgt := 332) hx hb dX11_lays_321 (by decide) (fun c_194 => ?_) (fun c_194 => ?_)
                                · replace c_194 := mt (I_eq (a := w0q8) (b := 2) rw0q8 (show rng 2 from ⟨by decide, by decide⟩)).mpr c_194
                                  exfalso; omega
                                · replace c_194 := (I_eq (a := w0q8) (b := 2) rw0q8 (show rng 2 from ⟨by decide, by decide⟩)).mp c_194
                                  have hkd := hld_140.kid (by omega) hy0 (by omega) (by omega)
                                  have hkd1 := hkd.1.1
                                  have hkd2 := hkd.1.2.1
                                  refine lv_aload_n hx hb dX11_lays_324 rfl (lv_at hl 6 rfl) ?_
                                  refine lv_iload hx hb dX11_lays_325 (lv_at hl 1 rfl) ?_
                                  obtain ⟨_, hc_195⟩ := hO.cell h_a (by decide) (ci := 11) rfl
                                  refine th_callv (va_runV (As := [.int (I z_39)]) (rest := []) ⟨hx, hb, hml, hown, hts⟩ (m_cut l G y b0 σ E hO a h_a z_39 (show rng z_39 from rz_39) (by omega) (by omega) f3 ef3 ((by rw [show gI σ a 5 = gI σ a 5 by omega]; exact hy0)) (by omega)) (cwV 1 hts gX11_lays_X11_cut rfl rfl rfl (by decide +kernel) ⟨Nat.le_of_ble_eq_true rfl, Nat.le_of_ble_eq_true rfl⟩) (th_PV hK hH rfl hc_195) rfl rfl hl.1 rfl (lv_room (Nat.le_of_ble_eq_true rfl)) dX11_lays_327 ⟨Nat.le_of_ble_eq_true rfl, Nat.le_of_ble_eq_true rfl⟩) hS (fun σ_s_197 H locs hw_196 hH hS => ?_)
                                  obtain ⟨hO9, hF9, hM9, hw_196⟩ := hw_196
                                  replace hM := hM.tu hM9 (by decide)
                                  replace hF := hF.tu hF9 (by decide)
                                  have e_198 : aF σ_s_197 (ad E a 39) = f39 := (hM9.a (by decide) (by decide)).trans ef39
                                  have e_199 : aF σ_s_197 (ad E a 40) = f40 := (hM9.a (by decide) (by decide)).trans ef40
                                  have e_200 : aF σ_s_197 (ad E a 41) = f41 := (hM9.a (by decide) (by decide)).trans ef41
                                  have e_201 : aF σ_s_197 (ad E a 42) = f42 := (hM9.a (by decide) (by decide)).trans ef42
                                  have e_202 : aF σ_s_197 (ad E a 43) = f43 := (hM9.a (by decide) (by decide)).trans ef43
                                  have e_203 : aF σ_s_197 (ad E a 44) = f44 := (hM9.a (by decide) (by decide)).trans ef44
                                  replace hO := hO9
                                  generalize ef_205 : aF σ_s_197 (ad E a 3) = g_204 at hw_196
                                  have hw_196 : cutr f3 g_204 z_39 (mS f3 z_39) (gI σ a 5) ∧ gI σ_s_197 a 5 = gI σ a 5 - mS f3 z_39 := hw_196
                                  have hC9 := hw_196.1
                                  rw [show gI σ a 5 = gI σ a 5 by omega] at hC9
                                  have hM8 := hy0.cut hC9 rfl (by omega) (by omega)
                                  have hR8 := hC9.root hy0.1 rfl (by omega) (by omega) (by omega)
                                  have hE8 := hy0.1.end (i := z_39) (by omega) (by omega)
                                  refine lv_iconst (v := I 1) hx hb dX11_lays_330 (by decide) ?_
                                  exact th_zret hx hb hr hlocks hH hS (z := 1) (by omega) ⟨hO, hF, hM, ⟨by omega, by omega⟩, by rw [show aF σ_s_197 (ad E a 3) = g_204 from ef_205]; exact ⟨hM8.eqM (by omega), by omega, by omega, by omega⟩⟩ dX11_lays_331
                              · replace c_193 := mt (I_eq (a := (-1) - z_28) (b := z_192) ⟨by omega, by omega⟩ rz_192).mpr c_193
                                refine lv_iconst (v := I 0) hx hb dX11_lays_317 (by decide) ?_
                                exact th_zret hx hb hr hlocks hH hS (z := 0) (by omega) ⟨hO, hF, hM, ⟨by omega, by omega⟩, by rw [show aF σ (ad E a 3) = f3 from ef3]; exact ⟨hy0.eqM (by omega), by omega, by omega, by omega⟩⟩ dX11_lays_318
                      · replace c_138 := (I_eq (a := w0q8) (b := 1) rw0q8 (show rng 1 from ⟨by decide, by decide⟩)).mp c_138
                        refine lv_iload hx hb dX11_lays_195 (lv_at hl 1 rfl) ?_
                        refine lv_iconst (v := I (-1)) hx hb dX11_lays_197 (by decide) ?_
                        refine lv_icmp_ne (tgt := 222) hx hb dX11_lays_198 (by decide) (fun c_206 => ?_) (fun c_206 => ?_)
                        · replace c_206 := mt (I_eq (a := z_39) (b := (-1)) rz_39 (show rng (-1) from ⟨by decide, by decide⟩)).mpr c_206
                          refine lv_iconst (v := I 0) hx hb dX11_lays_222 (by decide) ?_
                          exact th_zret hx hb hr hlocks hH hS (z := 0) (by omega) ⟨hO, hF, hM, ⟨by omega, by omega⟩, by rw [show aF σ (ad E a 3) = f3 from ef3]; exact ⟨hy0.eqM (by omega), by omega, by omega, by omega⟩⟩ dX11_lays_223
                        · replace c_206 := (I_eq (a := z_39) (b := (-1)) rz_39 (show rng (-1) from ⟨by decide, by decide⟩)).mp c_206
                          refine lv_iload hx hb dX11_lays_201 (lv_at hl 0 rfl) ?_
                          refine lv_if_eq (tgt := 224) hx hb dX11_lays_203 (by decide) (fun c_207 => absurd c_207 (by decide)) (fun _ => ?_)
                          have hkq := hy0.1 z_25 (by omega) (by omega)
                          refine lv_iconst (v := I (-1)) hx hb dX11_lays_206 (by decide) ?_
                          refine lv_iload hx hb dX11_lays_207 (lv_at hl 2 rfl) ?_
                          refine lv_isub hx hb dX11_lays_209 ?_
                          refine nq_top (I_sub _ _) ?_
                          refine lv_aload_n hx hb dX11_lays_210 rfl (lv_at hl 6 rfl) ?_
                          refine ok.getR hO h_a (by decide) k13_3 (by decide) (fun _ _ he hv kk => th_get (ci := 11) (C := RX11) (T := TX11) (N := 66) hx hb hts inX11 hown hK hH he rfl 3 (by decide) fl3 hv dX11_lays_211 kk) ?_
                          refine lv_iload hx hb dX11_lays_214 (lv_at hl 3 rfl) ?_
                          refine th_calli (va_runS (As := [.ref (ad E a 3), .int (I z_25)]) (rest := [.int (I ((-1) - z_28))]) ⟨hx, hb, hml, hown, hts⟩ (w_many l G y b0 σ E hO (ad E a 3) 16000 f3 (hO.roww h_a k13_3 isA1 ef3 rfl) z_25 (show rng z_25 from rz_25) (by omega) (by omega) (by first | exact hy0.1 | exact (hy0.1).sub (by omega) (by omega) | exact hpa9.2.2.2.2.1 | exact (hpa9.2.2.2.2.1).sub (by omega) (by omega)) (by omega) (by omega) (by omega)) (va_cwS 2 hts gX11_lays_X11_many rfl rfl rfl (by decide +kernel) ⟨Nat.le_of_ble_eq_true rfl, Nat.le_of_ble_eq_true rfl⟩) (th_PS hK hH) rfl rfl hl.1 rfl (lv_room (Nat.le_of_ble_eq_true rfl)) dX11_lays_216 ⟨Nat.le_of_ble_eq_true rfl, Nat.le_of_ble_eq_true rfl⟩) hS (fun z_210 σ_s_209 H locs rz_210 hw_208 hH hS => ?_)
                          obtain ⟨e9, hw_208⟩ := hw_208
                          replace e9 := e9.symm
                          subst e9
                          have hw_208 : chn f3 (z_25 + 1) z_210 (z_25 + mS f3 z_25) ∧ 0 ≤ z_210 ∧ z_210 < mS f3 z_25 := hw_208
                          refine lv_icmp_eq (tgt := 224) hx hb dX11_lays_219 (by decide) (fun c_211 => ?_) (fun c_211 => ?_)
                          · replace c_211 := (I_eq (a := (-1) - z_28) (b := z_210) ⟨by omega, by omega⟩ rz_210).mp c_211
                            have hq9 := hy0.1 z_25 (by omega) (by omega)
                            have hld_212 := ld.last hw_23.1 hw_37.1 (by omega) (by omega) hy0 (by omega) (by omega) ez_28 (by omega)
                            have hpl := hpb (by omega)
                            have hpl2 := hpl.2.2
                            have hpl3 := hpl.1
                            have hpl4 := hpl.2.1
                            have hpl5 := hpl.2.2.2.1
                            have hwb9 := hwb (by omega)
                            refine lv_aload_n hx hb dX11_lays_224 rfl (lv_at hl 6 rfl) ?_
                            refine lv_aload_n hx hb dX11_lays_225 rfl (lv_at hl 6 rfl) ?_
                            refine ok.getR hO h_a (by decide) k13_44 (by decide) (fun _ _ he hv kk => th_get (ci := 11) (C := RX11) (T := TX11) (N := 66) hx hb hts inX11 hown hK hH he rfl 44 (by decide) fl4 hv dX11_lays_226 kk) ?_
                            refine lv_iload hx hb dX11_lays_229 (lv_at hl 5 rfl) ?_
                            obtain ⟨f_213, ef_214⟩ : ∃ f9, aF σ (ad E a 31) = f9 := ⟨_, rfl⟩
                            obtain ⟨_, hc_215⟩ := hO.cell h_a (by decide) (ci := 11) rfl
                            refine th_callv (va_runV (As := [.ref (ad E a 44), .int (I w0q18)]) (rest := []) ⟨hx, hb, hml, hown, hts⟩ (m_lift44 l G y b0 σ E hO a h_a w0q18 (show rng w0q18 from rw0q18) (by omega) (by omega) f44 ef44 f_213 ef_214 (hpl.2.2.2.2) (by omega) (by omega)) (cwV 2 hts gX11_lays_X11_lift rfl rfl rfl (by decide +kernel) ⟨Nat.le_of_ble_eq_true rfl, Nat.le_of_ble_eq_true rfl⟩) (th_PV hK hH rfl hc_215) rfl rfl hl.1 rfl (lv_room (Nat.le_of_ble_eq_true rfl)) dX11_lays_231 ⟨Nat.le_of_ble_eq_true rfl, Nat.le_of_ble_eq_true rfl⟩) hS (fun σ_s_217 H locs hw_216 hH hS => ?_)
                            obtain ⟨hO9, hF9, hM9, hw_216⟩ := hw_216
                            replace hM := hM.tu hM9 (by decide)
                            replace hF := hF.tu hF9 (by decide)
                            have e_218 : aF σ_s_217 (ad E a 3) = f3 := (hM9.a (by decide) (by decide)).trans ef3
                            have e_219 : aF σ_s_217 (ad E a 39) = f39 := (hM9.a (by decide) (by decide)).trans ef39
                            have e_220 : aF σ_s_217 (ad E a 40) = f40 := (hM9.a (by decide) (by decide)).trans ef40
                            have e_221 : aF σ_s_217 (ad E a 41) = f41 := (hM9.a (by decide) (by decide)).trans ef41
                            have e_222 : aF σ_s_217 (ad E a 42) = f42 := (hM9.a (by decide) (by decide)).trans ef42
                            have e_223 : aF σ_s_217 (ad E a 43) = f43 := (hM9.a (by decide) (by decide)).trans ef43
                            have e_224 : aF σ_s_217 (ad E a 44) = f44 := (hM9.a (by decide) (by decide)).trans ef44
                            have e_225 : gI σ_s_217 a 5 = a50 := (hM9.i (by decide)).trans ea50
                            replace hO := hO9
                            generalize ef_227 : aF σ_s_217 (ad E a 31) = g_226 at hw_216
                            have hw_216 : mT g_226 0 (mS f44 w0q18) ∧ mS g_226 0 = mS f44 w0q18 := hw_216
                            refine lv_aload_n hx hb dX11_lays_234 rfl (lv_at hl 6 rfl) ?_
                            refine lv_iload hx hb dX11_lays_235 (lv_at hl 3 rfl) ?_
                            refine lv_iload hx hb dX11_lays_237 (lv_at hl 3 rfl) ?_
                            refine lv_aload_n hx hb dX11_lays_239 rfl (lv_at hl 6 rfl) ?_
                            refine ok.getR hO h_a (by decide) k13_3 (by decide) (fun _ _ he hv kk => th_get (ci := 11) (C := RX11) (T := TX11) (N := 66) hx hb hts inX11 hown hK hH he rfl 3 (by decide) fl3 hv dX11_lays_240 kk) ?_
                            refine lv_iload hx hb dX11_lays_243 (lv_at hl 3 rfl) ?_
                            refine th_calli (va_runS (As := [.ref (ad E a 3), .int (I z_25)]) (rest := [.int (I z_25), .int (I z_25), .ref a]) ⟨hx, hb, hml, hown, hts⟩ (w_size l G y b0 σ_s_217 E hO (ad E a 3) 16000 f3 (hO.roww h_a k13_3 isA1 e_218 rfl) z_25 (show rng z_25 from rz_25) (by omega) (by omega) (by omega)) (va_cwS 2 hts gX11_lays_X11_size rfl rfl rfl (by decide +kernel) ⟨Nat.le_of_ble_eq_true rfl, Nat.le_of_ble_eq_true rfl⟩) (th_PS hK hH) rfl rfl hl.1 rfl (lv_room (Nat.le_of_ble_eq_true rfl)) dX11_lays_245 ⟨Nat.le_of_ble_eq_true rfl, Nat.le_of_ble_eq_true rfl⟩) hS (fun z_230 σ_s_229 H locs rz_230 hw_228 hH hS => ?_)
                            obtain ⟨e9, hw_228⟩ := hw_228
                            replace e9 := e9.symm
                            subst e9
                            have hw_228 : z_230 = mS f3 z_25 := hw_228
                            refine lv_iadd hx hb dX11_lays_248 ?_
                            refine nq_top (I_add _ _) ?_
                            refine lv_iload hx hb dX11_lays_249 (lv_at hl 0 rfl) ?_
                            refine lv_if_eq (tgt := 258) hx hb dX11_lays_251 (by decide) (fun c_231 => absurd c_231 (by decide)) (fun _ => ?_)
                            refine lv_iconst (v := I 0) hx hb dX11_lays_254 (by decide) ?_
                            refine lv_goto (tgt := 260) hx hb dX11_lays_255 (by decide) ?_
                            obtain ⟨_, hc_232⟩ := hO.cell h_a (by decide) (ci := 11) rfl
                            refine th_callv (va_runV (As := [.int (I z_25), .int (I (z_25 + z_230)), .int (I 0)]) (rest := []) ⟨hx, hb, hml, hown, hts⟩ (m_layInto l G y b0 σ_s_217 E hO a h_a z_25 (show rng z_25 from rz_25) (by omega) (by omega) (z_25 + z_230) (show rng (z_25 + z_230) from ⟨by omega, by omega⟩) (by omega) (by omega) 0 (show rng 0 from (show rng 0 from ⟨by decide, by decide⟩)) f3 e_218 g_226 ef_227 ((by rw [show gI σ_s_217 a 5 = gI σ a 5 by omega]; exact hy0)) ((by rw [show gI σ_s_217 a 5 = gI σ a 5 by omega]; have h9 := spot_end hy0.1 (q := z_25) (by omega) (by omega); rw [show z_25 + mS f3 z_25 = (z_25 + z_230) by omega] at h9; exact h9)) (by omega) (by omega)) (cwV 3 hts gX11_lays_X11_layInto rfl rfl rfl (by decide +kernel) ⟨Nat.le_of_ble_eq_true rfl, Nat.le_of_ble_eq_true rfl⟩) (th_PV hK hH rfl hc_232) rfl rfl hl.1 rfl (lv_room (Nat.le_of_ble_eq_true rfl)) dX11_lays_260 ⟨Nat.le_of_ble_eq_true rfl, Nat.le_of_ble_eq_true rfl⟩) hS (fun σ_s_234 H locs hw_233 hH hS => ?_)
                            obtain ⟨hO9, hF9, hM9, hw_233⟩ := hw_233
                            replace hM := hM.tu hM9 (by decide)
                            replace hF := hF.tu hF9 (by decide)
                            have e_235 : aF σ_s_234 (ad E a 39) = f39 := (hM9.a (by decide) (by decide)).trans e_219
                            have e_236 : aF σ_s_234 (ad E a 40) = f40 := (hM9.a (by decide) (by decide)).trans e_220
                            have e_237 : aF σ_s_234 (ad E a 41) = f41 := (hM9.a (by decide) (by decide)).trans e_221
                            have e_238 : aF σ_s_234 (ad E a 42) = f42 := (hM9.a (by decide) (by decide)).trans e_222
                            have e_239 : aF σ_s_234 (ad E a 43) = f43 := (hM9.a (by decide) (by decide)).trans e_223
                            have e_240 : aF σ_s_234 (ad E a 44) = f44 := (hM9.a (by decide) (by decide)).trans e_224
                            have e_241 : aF σ_s_234 (ad E a 31) = g_226 := (hM9.a (by decide) (by decide)).trans ef_227
                            replace hO := hO9
                            generalize ef_243 : aF σ_s_234 (ad E a 3) = g_242 at hw_233
                            have hw_233 : layr f3 g_242 g_226 z_25 (z_25 + z_230) (mS g_226 0) 0 (gI σ_s_217 a 5) ∧ gI σ_s_234 a 5 = gI σ_s_217 a 5 + mS g_226 0 := hw_233
                            refine lv_iconst (v := I 1) hx hb dX11_lays_263 (by decide) ?_
                            exact th_zret hx hb hr hlocks hH hS (z := 1) (by omega) ⟨hO, hF, hM, ⟨by omega, by omega⟩, by have h9 := hw_233.1; rw [show gI σ_s_217 a 5 = gI σ a 5 by omega, hw_216.2] at h9; have hsp := spot_end hy0.1 (q := z_25) (by omega) (by omega); rw [show z_25 + mS f3 z_25 = (z_25 + z_230) by omega] at hsp; have h8 := hy0.lay h9 (by omega) hsp hw_216.1 hw_216.2 (fun h9 => absurd h9 (by omega)); have h7 := h9.root hy0.1 (by omega) hsp (by omega); rw [show aF σ_s_234 (ad E a 3) = g_242 from ef_243]; exact ⟨h8.eqM (by omega), by omega, by omega, by omega⟩⟩ dX11_lays_264
                          · replace c_211 := mt (I_eq (a := (-1) - z_28) (b := z_210) ⟨by omega, by omega⟩ rz_210).mpr c_211
                            refine lv_iconst (v := I 0) hx hb dX11_lays_222 (by decide) ?_
                            exact th_zret hx hb hr hlocks hH hS (z := 0) (by omega) ⟨hO, hF, hM, ⟨by omega, by omega⟩, by rw [show aF σ (ad E a 3) = f3 from ef3]; exact ⟨hy0.eqM (by omega), by omega, by omega, by omega⟩⟩ dX11_lays_223
                  · replace c_35 := mt (I_eq (a := z_33) (b := 2) rz_33 (show rng 2 from ⟨by decide, by decide⟩)).mpr c_35
                    refine lv_iconst (v := I 0) hx hb dX11_lays_167 (by decide) ?_
                    exact th_zret hx hb hr hlocks hH hS (z := 0) (by omega) ⟨hO, hF, hM, ⟨by omega, by omega⟩, by rw [show aF σ (ad E a 3) = f3 from ef3]; exact ⟨hy0.eqM (by omega), by omega, by omega, by omega⟩⟩ dX11_lays_168
                · replace c_34 := mt (I_le (a := z_28) (b := 0) rz_28 (show rng 0 from ⟨by decide, by decide⟩)).mpr c_34
                  refine lv_iconst (v := I 3) hx hb dX11_lays_159 (by decide) ?_
                  refine lv_goto (tgt := 164) hx hb dX11_lays_160 (by decide) ?_
                  refine lv_icmp_eq (tgt := 169) hx hb dX11_lays_164 (by decide) (fun c_244 => ?_) (fun c_244 => ?_)
                  · replace c_244 := (I_eq (a := z_33) (b := 3) rz_33 (show rng 3 from ⟨by decide, by decide⟩)).mp c_244
                    refine lv_aload_n hx hb dX11_lays_169 rfl (lv_at hl 4 rfl) ?_
                    refine lv_iload_n hx hb dX11_lays_170 rfl (lv_at hl 5 rfl) ?_
                    refine lv_iload hx hb dX11_lays_171 (lv_at hl 2 rfl) ?_
                    obtain ⟨_, hc_245⟩ := hO.cell h_a (by decide) (ci := 11) rfl
                    refine th_calli (va_runV (As := [.int (I w), .int (I z_20)]) (rest := []) ⟨hx, hb, hml, hown, hts⟩ (m_leads l G y b0 σ E hO a h_a w (show rng w from rw) (by omega) (by omega) z_20 (show rng z_20 from rz_20) (by omega) (by omega) f3 ef3 f41 ef41 ((by rw [show gI σ a 5 = gI σ a 5 by omega]; exact hy0)) (by omega) (by omega)) (cwV 2 hts gX11_lays_X11_leads rfl rfl rfl (by decide +kernel) ⟨Nat.le_of_ble_eq_true rfl, Nat.le_of_ble_eq_true rfl⟩) (th_PV hK hH rfl hc_245) rfl rfl hl.1 rfl (lv_room (Nat.le_of_ble_eq_true rfl)) dX11_lays_173 ⟨Nat.le_of_ble_eq_true rfl, Nat.le_of_ble_eq_true rfl⟩) hS (fun z_248 σ_s_247 H locs rz_248 hw_246 hH hS => ?_)
                    obtain ⟨e9, hw_246⟩ := hw_246
                    replace e9 := e9.symm
                    subst e9
                    have hw_246 : ld f3 f41 (8 * w) z_20.toNat z_248 ∧ -1 ≤ z_248 ∧ z_248 < gI σ a 5 := hw_246
                    refine lv_istore (lv' := [(9, .int (I z_248)), (8, .int (I z_28)), (7, .int (I z_25)), (6, .int (I z_20)), (5, .int (I w0q18)), (0, .ref a), (1, .int (I w)), (3, .int (I w0q8)), (4, .int (I w0q13))]) hx hb dX11_lays_176 hl (by decide) rfl (fun ls hl => ?_)
                    refine lv_iload hx hb dX11_lays_178 (lv_at hl 1 rfl) ?_
                    refine lv_if_ge (tgt := 187) hx hb dX11_lays_180 (by decide) (fun c_249 => ?_) (fun c_249 => ?_)
                    · replace c_249 := (I_le (a := 0) (b := z_28) (show rng 0 from ⟨by decide, by decide⟩) rz_28).mp c_249
                      refine lv_iconst (v := I 0) hx hb dX11_lays_187 (by decide) ?_
                      refine lv_istore (lv' := [(10, .int (I 0)), (9, .int (I z_248)), (8, .int (I z_28)), (7, .int (I z_25)), (6, .int (I z_20)), (5, .int (I w0q18)), (0, .ref a), (1, .int (I w)), (3, .int (I w0q8)), (4, .int (I w0q13))]) hx hb dX11_lays_188 hl (by decide) rfl (fun ls hl => ?_)
                      refine lv_iload_n hx hb dX11_lays_190 rfl (lv_at hl 8 rfl) ?_
                      refine lv_iconst (v := I 1) hx hb dX11_lays_191 (by decide) ?_
                      refine lv_icmp_ne (tgt := 265) hx hb dX11_lays_192 (by decide) (fun c_250 => ?_) (fun c_250 => ?_)
                      · replace c_250 := mt (I_eq (a := w0q8) (b := 1) rw0q8 (show rng 1 from ⟨by decide, by decide⟩)).mpr c_250
                        refine lv_iload hx hb dX11_lays_265 (lv_at hl 1 rfl) ?_
                        refine lv_iconst (v := I (-1)) hx hb dX11_lays_267 (by decide) ?_
                        refine lv_icmp_eq (tgt := 317) hx hb dX11_lays_268 (by decide) (fun c_251 => ?_) (fun c_251 => ?_)
                        · replace c_251 := (I_eq (a := z_248) (b := (-1)) rz_248 (show rng (-1) from ⟨by decide, by decide⟩)).mp c_251
                          refine lv_iconst (v := I 0) hx hb dX11_lays_317 (by decide) ?_
                          exact th_zret hx hb hr hlocks hH hS (z := 0) (by omega) ⟨hO, hF, hM, ⟨by omega, by omega⟩, by rw [show aF σ (ad E a 3) = f3 from ef3]; exact ⟨hy0.eqM (by omega), by omega, by omega, by omega⟩⟩ dX11_lays_318
                        · replace c_251 := mt (I_eq (a := z_248) (b := (-1)) rz_248 (show rng (-1) from ⟨by decide, by decide⟩)).mpr c_251
                          have hq9 := hy0.1 z_25 (by omega) (by omega)
                          have hld_252 := ld.last hw_23.1 hw_246.1 (by omega) (by omega) hy0 (by omega) (by omega) ez_28 (by omega)
                          have hpa9 := hpa (by omega)
                          have hpa8 := hpa9.2.2.2.2.1
                          have hpa7 := hpa9.1
                          have hpa6 := hpa9.2.1
                          have hpa5 := hpa9.2.2
                          have hpa4 := hpa9.2.2.2.1
                          have hk9 := hy0.1 z_248 (by omega) (by omega)
                          refine lv_aload_n hx hb dX11_lays_271 rfl (lv_at hl 6 rfl) ?_
                          refine ok.getR hO h_a (by decide) k13_3 (by decide) (fun _ _ he hv kk => th_get (ci := 11) (C := RX11) (T := TX11) (N := 66) hx hb hts inX11 hown hK hH he rfl 3 (by decide) fl3 hv dX11_lays_272 kk) ?_
                          refine lv_iload hx hb dX11_lays_275 (lv_at hl 1 rfl) ?_
                          refine lv_aload_n hx hb dX11_lays_277 rfl (lv_at hl 6 rfl) ?_
                          refine ok.getR hO h_a (by decide) k13_44 (by decide) (fun _ _ he hv kk => th_get (ci := 11) (C := RX11) (T := TX11) (N := 66) hx hb hts inX11 hown hK hH he rfl 44 (by decide) fl4 hv dX11_lays_278 kk) ?_
                          refine lv_iload hx hb dX11_lays_281 (lv_at hl 9 rfl) ?_
                          refine th_calli (va_runS (As := [.ref (ad E a 3), .int (I z_248), .ref (ad E a 44), .int (I w0q13)]) (rest := []) ⟨hx, hb, hml, hown, hts⟩ (w_areLike 61 l G y b0 σ E hO (ad E a 3) 16000 f3 (hO.roww h_a k13_3 isA1 ef3 rfl) z_248 (show rng z_248 from rz_248) (by omega) (by omega) (ad E a 44) 1200 f44 (hO.roww h_a k13_44 isA1 ef44 rfl) w0q13 (show rng w0q13 from rw0q13) (by omega) (by omega) (by first | exact hy0.1 | exact (hy0.1).sub (by omega) (by omega) | exact hpa9.2.2.2.2.1 | exact (hpa9.2.2.2.2.1).sub (by omega) (by omega)) (by omega) (by omega) (by omega) (by first | exact hy0.1 | exact (hy0.1).sub (by omega) (by omega) | exact hpa9.2.2.2.2.1 | exact (hpa9.2.2.2.2.1).sub (by omega) (by omega)) (by omega) (by omega) (by omega) (by omega)) (va_cwS 4 hts gX11_lays_X11_areLike rfl rfl rfl (by decide +kernel) ⟨Nat.le_of_ble_eq_true rfl, Nat.le_of_ble_eq_true rfl⟩) (th_PS hK hH) rfl rfl hl.1 rfl (lv_room (Nat.le_of_ble_eq_true rfl)) dX11_lays_283 ⟨Nat.le_of_ble_eq_true rfl, Nat.le_of_ble_eq_true rfl⟩) hS (fun z_255 σ_s_254 H locs rz_255 hw_253 hH hS => ?_)
                          obtain ⟨e9, bhw_253, hw_253⟩ := hw_253
                          replace e9 := e9.symm
                          subst e9
                          refine lv_if_eq (tgt := 317) hx hb dX11_lays_286 (by decide) (fun c_256 => ?_) (fun c_256 => ?_)
                          · replace c_256 := (I_eq (a := z_255) (b := 0) rz_255 (show rng 0 from ⟨by decide, by decide⟩)).mp c_256
                            refine lv_iconst (v := I 0) hx hb dX11_lays_317 (by decide) ?_
                            exact th_zret hx hb hr hlocks hH hS (z := 0) (by omega) ⟨hO, hF, hM, ⟨by omega, by omega⟩, by rw [show aF σ (ad E a 3) = f3 from ef3]; exact ⟨hy0.eqM (by omega), by omega, by omega, by omega⟩⟩ dX11_lays_318
                          · replace c_256 := mt (I_eq (a := z_255) (b := 0) rz_255 (show rng 0 from ⟨by decide, by decide⟩)).mpr c_256
                            refine lv_iload_n hx hb dX11_lays_289 rfl (lv_at hl 8 rfl) ?_
                            refine lv_iconst (v := I 2) hx hb dX11_lays_290 (by decide) ?_
                            refine lv_icmp_ne (tgt := 319) hx hb dX11_lays_291 (by decide) (fun c_257 => ?_) (fun c_257 => ?_)
                            · replace c_257 := mt (I_eq (a := w0q8) (b := 2) rw0q8 (show rng 2 from ⟨by decide, by decide⟩)).mpr c_257
                              refine lv_iload_n hx hb dX11_lays_319 rfl (lv_at hl 8 rfl) ?_
                              refine lv_iconst (v := I 2) hx hb dX11_lays_320 (by decide) ?_
                              refine lv_icmp_ne (tgt := 332) hx hb dX11_lays_321 (by decide) (fun c_258 => ?_) (fun c_258 => ?_)
                              · replace c_258 := mt (I_eq (a := w0q8) (b := 2) rw0q8 (show rng 2 from ⟨by decide, by decide⟩)).mpr c_258
                                have hpl := hpb (by omega)
                                have hpl2 := hpl.2.2
                                have hpl3 := hpl.1
                                have hpl4 := hpl.2.1
                                have hpl5 := hpl.2.2.2.1
                                have hwb9 := hwb (by omega)
                                have hkd := hld_252.kid (by omega) hy0 (by omega) (by omega)
                                have hkd1 := hkd.1.1
                                have hkd2 := hkd.1.2.1
                                refine lv_aload_n hx hb dX11_lays_332 rfl (lv_at hl 6 rfl) ?_
                                refine lv_aload_n hx hb dX11_lays_333 rfl (lv_at hl 6 rfl) ?_
                                refine ok.getR hO h_a (by decide) k13_44 (by decide) (fun _ _ he hv kk => th_get (ci := 11) (C := RX11) (T := TX11) (N := 66) hx hb hts inX11 hown hK hH he rfl 44 (by decide) fl4 hv dX11_lays_334 kk) ?_
                                refine lv_iload hx hb dX11_lays_337 (lv_at hl 5 rfl) ?_
                                obtain ⟨f_259, ef_260⟩ : ∃ f9, aF σ (ad E a 31) = f9 := ⟨_, rfl⟩
                                obtain ⟨_, hc_261⟩ := hO.cell h_a (by decide) (ci := 11) rfl
                                refine th_callv (va_runV (As := [.ref (ad E a 44), .int (I w0q18)]) (rest := []) ⟨hx, hb, hml, hown, hts⟩ (m_lift44 l G y b0 σ E hO a h_a w0q18 (show rng w0q18 from rw0q18) (by omega) (by omega) f44 ef44 f_259 ef_260 (hpl.2.2.2.2) (by omega) (by omega)) (cwV 2 hts gX11_lays_X11_lift rfl rfl rfl (by decide +kernel) ⟨Nat.le_of_ble_eq_true rfl, Nat.le_of_ble_eq_true rfl⟩) (th_PV hK hH rfl hc_261) rfl rfl hl.1 rfl (lv_room (Nat.le_of_ble_eq_true rfl)) dX11_lays_339 ⟨Nat.le_of_ble_eq_true rfl, Nat.le_of_ble_eq_true rfl⟩) hS (fun σ_s_263 H locs hw_262 hH hS => ?_)
                                obtain ⟨hO9, hF9, hM9, hw_262⟩ := hw_262
                                replace hM := hM.tu hM9 (by decide)
                                replace hF := hF.tu hF9 (by decide)
                                have e_264 : aF σ_s_263 (ad E a 3) = f3 := (hM9.a (by decide) (by decide)).trans ef3
                                have e_265 : aF σ_s_263 (ad E a 39) = f39 := (hM9.a (by decide) (by decide)).trans ef39
                                have e_266 : aF σ_s_263 (ad E a 40) = f40 := (hM9.a (by decide) (by decide)).trans ef40
                                have e_267 : aF σ_s_263 (ad E a 41) = f41 := (hM9.a (by decide) (by decide)).trans ef41
                                have e_268 : aF σ_s_263 (ad E a 42) = f42 := (hM9.a (by decide) (by decide)).trans ef42
                                have e_269 : aF σ_s_263 (ad E a 43) = f43 := (hM9.a (by decide) (by decide)).trans ef43
                                have e_270 : aF σ_s_263 (ad E a 44) = f44 := (hM9.a (by decide) (by decide)).trans ef44
                                have e_271 : gI σ_s_263 a 5 = a50 := (hM9.i (by decide)).trans ea50
                                replace hO := hO9
                                generalize ef_273 : aF σ_s_263 (ad E a 31) = g_272 at hw_262
                                have hw_262 : mT g_272 0 (mS f44 w0q18) ∧ mS g_272 0 = mS f44 w0q18 := hw_262
                                refine lv_iload hx hb dX11_lays_342 (lv_at hl 4 rfl) ?_
                                refine lv_if_ne (tgt := 364) hx hb dX11_lays_344 (by decide) (fun c_274 => ?_) (fun c_274 => ?_)
                                · replace c_274 := mt (I_eq (a := z_20) (b := 0) rz_20 (show rng 0 from ⟨by decide, by decide⟩)).mpr c_274
                                  refine lv_aload_n hx hb dX11_lays_364 rfl (lv_at hl 6 rfl) ?_
                                  refine lv_iload hx hb dX11_lays_365 (lv_at hl 1 rfl) ?_
                                  obtain ⟨_, hc_275⟩ := hO.cell h_a (by decide) (ci := 11) rfl
                                  refine th_callv (va_runV (As := [.int (I z_248)]) (rest := []) ⟨hx, hb, hml, hown, hts⟩ (m_cut l G y b0 σ_s_263 E hO a h_a z_248 (show rng z_248 from rz_248) (by omega) (by omega) f3 e_264 ((by rw [show gI σ_s_263 a 5 = gI σ a 5 by omega]; exact hy0)) (by omega)) (cwV 1 hts gX11_lays_X11_cut rfl rfl rfl (by decide +kernel) ⟨Nat.le_of_ble_eq_true rfl, Nat.le_of_ble_eq_true rfl⟩) (th_PV hK hH rfl hc_275) rfl rfl hl.1 rfl (lv_room (Nat.le_of_ble_eq_true rfl)) dX11_lays_367 ⟨Nat.le_of_ble_eq_true rfl, Nat.le_of_ble_eq_true rfl⟩) hS (fun σ_s_277 H locs hw_276 hH hS => ?_)
                                  obtain ⟨hO9, hF9, hM9, hw_276⟩ := hw_276
                                  replace hM := hM.tu hM9 (by decide)
                                  replace hF := hF.tu hF9 (by decide)
                                  have e_278 : aF σ_s_277 (ad E a 39) = f39 := (hM9.a (by decide) (by decide)).trans e_265
                                  have e_279 : aF σ_s_277 (ad E a 40) = f40 := (hM9.a (by decide) (by decide)).trans e_266
                                  have e_280 : aF σ_s_277 (ad E a 41) = f41 := (hM9.a (by decide) (by decide)).trans e_267
                                  have e_281 : aF σ_s_277 (ad E a 42) = f42 := (hM9.a (by decide) (by decide)).trans e_268
                                  have e_282 : aF σ_s_277 (ad E a 43) = f43 := (hM9.a (by decide) (by decide)).trans e_269
                                  have e_283 : aF σ_s_277 (ad E a 44) = f44 := (hM9.a (by decide) (by decide)).trans e_270
                                  have e_284 : aF σ_s_277 (ad E a 31) = g_272 := (hM9.a (by decide) (by decide)).trans ef_273
                                  replace hO := hO9
                                  generalize ef_286 : aF σ_s_277 (ad E a 3) = g_285 at hw_276
                                  have hw_276 : cutr f3 g_285 z_248 (mS f3 z_248) (gI σ_s_263 a 5) ∧ gI σ_s_277 a 5 = gI σ_s_263 a 5 - mS f3 z_248 := hw_276
                                  have hC9 := hw_276.1
                                  rw [show gI σ_s_263 a 5 = gI σ a 5 by omega] at hC9
                                  have hM8 := hy0.cut hC9 rfl (by omega) (by omega)
                                  have hR8 := hC9.root hy0.1 rfl (by omega) (by omega) (by omega)
                                  have hE8 := hy0.1.end (i := z_248) (by omega) (by omega)
                                  have hS8 := spot_cut (v := z_28) hy0 hC9 rfl (by omega) (by omega) (by omega) hkd.1 hkd.2
                                  refine lv_aload_n hx hb dX11_lays_370 rfl (lv_at hl 6 rfl) ?_
                                  refine lv_iload hx hb dX11_lays_371 (lv_at hl 3 rfl) ?_
                                  refine lv_iload hx hb dX11_lays_373 (lv_at hl 1 rfl) ?_
                                  refine lv_iload hx hb dX11_lays_375 (lv_at hl 0 rfl) ?_
                                  refine lv_if_eq (tgt := 384) hx hb dX11_lays_377 (by decide) (fun _ => ?_) (fun c_287 => absurd (by decide) c_287)
                                  refine lv_iload hx hb dX11_lays_384 (lv_at hl 2 rfl) ?_
                                  obtain ⟨_, hc_288⟩ := hO.cell h_a (by decide) (ci := 11) rfl
                                  refine th_callv (va_runV (As := [.int (I z_25), .int (I z_248), .int (I z_28)]) (rest := []) ⟨hx, hb, hml, hown, hts⟩ (m_layInto l G y b0 σ_s_277 E hO a h_a z_25 (show rng z_25 from rz_25) (by omega) (by omega) z_248 (show rng z_248 from rz_248) (by omega) (by omega) z_28 (show rng z_28 from rz_28) g_285 ef_286 g_272 e_284 ((by rw [show gI σ_s_277 a 5 = gI σ a 5 - mS f3 z_248 by omega]; exact hM8)) ((by rw [show gI σ_s_277 a 5 = gI σ a 5 - mS f3 z_248 by omega]; exact hS8.1)) (by omega) (by omega)) (cwV 3 hts gX11_lays_X11_layInto rfl rfl rfl (by decide +kernel) ⟨Nat.le_of_ble_eq_true rfl, Nat.le_of_ble_eq_true rfl⟩) (th_PV hK hH rfl hc_288) rfl rfl hl.1 rfl (lv_room (Nat.le_of_ble_eq_true rfl)) dX11_lays_386 ⟨Nat.le_of_ble_eq_true rfl, Nat.le_of_ble_eq_true rfl⟩) hS (fun σ_s_290 H locs hw_289 hH hS => ?_)
                                  obtain ⟨hO9, hF9, hM9, hw_289⟩ := hw_289
                                  replace hM := hM.tu hM9 (by decide)
                                  replace hF := hF.tu hF9 (by decide)
                                  have e_291 : aF σ_s_290 (ad E a 39) = f39 := (hM9.a (by decide) (by decide)).trans e_278
                                  have e_292 : aF σ_s_290 (ad E a 40) = f40 := (hM9.a (by decide) (by decide)).trans e_279
                                  have e_293 : aF σ_s_290 (ad E a 41) = f41 := (hM9.a (by decide) (by decide)).trans e_280
                                  have e_294 : aF σ_s_290 (ad E a 42) = f42 := (hM9.a (by decide) (by decide)).trans e_281
                                  have e_295 : aF σ_s_290 (ad E a 43) = f43 := (hM9.a (by decide) (by decide)).trans e_282
                                  have e_296 : aF σ_s_290 (ad E a 44) = f44 := (hM9.a (by decide) (by decide)).trans e_283
                                  have e_297 : aF σ_s_290 (ad E a 31) = g_272 := (hM9.a (by decide) (by decide)).trans e_284
                                  replace hO := hO9
                                  generalize ef_299 : aF σ_s_290 (ad E a 3) = g_298 at hw_289
                                  have hw_289 : layr g_285 g_298 g_272 z_25 z_248 (mS g_272 0) z_28 (gI σ_s_277 a 5) ∧ gI σ_s_290 a 5 = gI σ_s_277 a 5 + mS g_272 0 := hw_289
                                  refine lv_iconst (v := I 1) hx hb dX11_lays_389 (by decide) ?_
                                  exact th_zret hx hb hr hlocks hH hS (z := 1) (by omega) ⟨hO, hF, hM, ⟨by omega, by omega⟩, by have h9 := hw_289.1; rw [show gI σ_s_277 a 5 = gI σ a 5 - mS f3 z_248 by omega, hw_262.2] at h9; have h8 := hM8.lay h9 (by omega) hS8.1 hw_262.1 hw_262.2 hS8.2.2; have h7 := h9.root hM8.1 (by omega) hS8.1 hR8; rw [show aF σ_s_290 (ad E a 3) = g_298 from ef_299]; exact ⟨h8.eqM (by omega), by omega, by omega, by omega⟩⟩ dX11_lays_390
                                · replace c_274 := (I_eq (a := z_20) (b := 0) rz_20 (show rng 0 from ⟨by decide, by decide⟩)).mp c_274
                                  exfalso; omega
                              · replace c_258 := (I_eq (a := w0q8) (b := 2) rw0q8 (show rng 2 from ⟨by decide, by decide⟩)).mp c_258
                                exfalso; omega
                            · replace c_257 := (I_eq (a := w0q8) (b := 2) rw0q8 (show rng 2 from ⟨by decide, by decide⟩)).mp c_257
                              refine lv_iload hx hb dX11_lays_294 (lv_at hl 0 rfl) ?_
                              refine lv_if_eq (tgt := 319) hx hb dX11_lays_296 (by decide) (fun _ => ?_) (fun c_300 => absurd (by decide) c_300)
                              refine lv_iload_n hx hb dX11_lays_319 rfl (lv_at hl 8 rfl) ?_
                              refine lv_iconst (v := I 2) hx hb dX11_lays_320 (by decide) ?_
                              refine lv_icmp_ne (tgt := 332) hx hb dX11_lays_321 (by decide) (fun c_301 => ?_) (fun c_301 => ?_)
                              · replace c_301 := mt (I_eq (a := w0q8) (b := 2) rw0q8 (show rng 2 from ⟨by decide, by decide⟩)).mpr c_301
                                exfalso; omega
                              · replace c_301 := (I_eq (a := w0q8) (b := 2) rw0q8 (show rng 2 from ⟨by decide, by decide⟩)).mp c_301
                                have hkd := hld_252.kid (by omega) hy0 (by omega) (by omega)
                                have hkd1 := hkd.1.1
                                have hkd2 := hkd.1.2.1
                                refine lv_aload_n hx hb dX11_lays_324 rfl (lv_at hl 6 rfl) ?_
                                refine lv_iload hx hb dX11_lays_325 (lv_at hl 1 rfl) ?_
                                obtain ⟨_, hc_302⟩ := hO.cell h_a (by decide) (ci := 11) rfl
                                refine th_callv (va_runV (As := [.int (I z_248)]) (rest := []) ⟨hx, hb, hml, hown, hts⟩ (m_cut l G y b0 σ E hO a h_a z_248 (show rng z_248 from rz_248) (by omega) (by omega) f3 ef3 ((by rw [show gI σ a 5 = gI σ a 5 by omega]; exact hy0)) (by omega)) (cwV 1 hts gX11_lays_X11_cut rfl rfl rfl (by decide +kernel) ⟨Nat.le_of_ble_eq_true rfl, Nat.le_of_ble_eq_true rfl⟩) (th_PV hK hH rfl hc_302) rfl rfl hl.1 rfl (lv_room (Nat.le_of_ble_eq_true rfl)) dX11_lays_327 ⟨Nat.le_of_ble_eq_true rfl, Nat.le_of_ble_eq_true rfl⟩) hS (fun σ_s_304 H locs hw_303 hH hS => ?_)
                                obtain ⟨hO9, hF9, hM9, hw_303⟩ := hw_303
                                replace hM := hM.tu hM9 (by decide)
                                replace hF := hF.tu hF9 (by decide)
                                have e_305 : aF σ_s_304 (ad E a 39) = f39 := (hM9.a (by decide) (by decide)).trans ef39
                                have e_306 : aF σ_s_304 (ad E a 40) = f40 := (hM9.a (by decide) (by decide)).trans ef40
                                have e_307 : aF σ_s_304 (ad E a 41) = f41 := (hM9.a (by decide) (by decide)).trans ef41
                                have e_308 : aF σ_s_304 (ad E a 42) = f42 := (hM9.a (by decide) (by decide)).trans ef42
                                have e_309 : aF σ_s_304 (ad E a 43) = f43 := (hM9.a (by decide) (by decide)).trans ef43
                                have e_310 : aF σ_s_304 (ad E a 44) = f44 := (hM9.a (by decide) (by decide)).trans ef44
                                replace hO := hO9
                                generalize ef_312 : aF σ_s_304 (ad E a 3) = g_311 at hw_303
                                have hw_303 : cutr f3 g_311 z_248 (mS f3 z_248) (gI σ a 5) ∧ gI σ_s_304 a 5 = gI σ a 5 - mS f3 z_248 := hw_303
                                have hC9 := hw_303.1
                                rw [show gI σ a 5 = gI σ a 5 by omega] at hC9
                                have hM8 := hy0.cut hC9 rfl (by omega) (by omega)
                                have hR8 := hC9.root hy0.1 rfl (by omega) (by omega) (by omega)
                                have hE8 := hy0.1.end (i := z_248) (by omega) (by omega)
                                refine lv_iconst (v := I 1) hx hb dX11_lays_330 (by decide) ?_
                                exact th_zret hx hb hr hlocks hH hS (z := 1) (by omega) ⟨hO, hF, hM, ⟨by omega, by omega⟩, by rw [show aF σ_s_304 (ad E a 3) = g_311 from ef_312]; exact ⟨hM8.eqM (by omega), by omega, by omega, by omega⟩⟩ dX11_lays_331
                      · replace c_250 := (I_eq (a := w0q8) (b := 1) rw0q8 (show rng 1 from ⟨by decide, by decide⟩)).mp c_250
                        refine lv_iload hx hb dX11_lays_195 (lv_at hl 1 rfl) ?_
                        refine lv_iconst (v := I (-1)) hx hb dX11_lays_197 (by decide) ?_
                        refine lv_icmp_ne (tgt := 222) hx hb dX11_lays_198 (by decide) (fun c_313 => ?_) (fun c_313 => ?_)
                        · replace c_313 := mt (I_eq (a := z_248) (b := (-1)) rz_248 (show rng (-1) from ⟨by decide, by decide⟩)).mpr c_313
                          refine lv_iconst (v := I 0) hx hb dX11_lays_222 (by decide) ?_
                          exact th_zret hx hb hr hlocks hH hS (z := 0) (by omega) ⟨hO, hF, hM, ⟨by omega, by omega⟩, by rw [show aF σ (ad E a 3) = f3 from ef3]; exact ⟨hy0.eqM (by omega), by omega, by omega, by omega⟩⟩ dX11_lays_223
                        · replace c_313 := (I_eq (a := z_248) (b := (-1)) rz_248 (show rng (-1) from ⟨by decide, by decide⟩)).mp c_313
                          refine lv_iload hx hb dX11_lays_201 (lv_at hl 0 rfl) ?_
                          refine lv_if_eq (tgt := 224) hx hb dX11_lays_203 (by decide) (fun _ => ?_) (fun c_314 => absurd (by decide) c_314)
                          have hq9 := hy0.1 z_25 (by omega) (by omega)
                          have hld_315 := ld.last hw_23.1 hw_246.1 (by omega) (by omega) hy0 (by omega) (by omega) ez_28 (by omega)
                          have hpl := hpb (by omega)
                          have hpl2 := hpl.2.2
                          have hpl3 := hpl.1
                          have hpl4 := hpl.2.1
                          have hpl5 := hpl.2.2.2.1
                          have hwb9 := hwb (by omega)
                          have hgk : gk f3 z_25 z_28 := (by have h9 := hld_315; rw [show z_248 = -1 by omega] at h9; exact h9.non (by omega) hy0 (by omega) (by omega))
                          refine lv_aload_n hx hb dX11_lays_224 rfl (lv_at hl 6 rfl) ?_
                          refine lv_aload_n hx hb dX11_lays_225 rfl (lv_at hl 6 rfl) ?_
                          refine ok.getR hO h_a (by decide) k13_44 (by decide) (fun _ _ he hv kk => th_get (ci := 11) (C := RX11) (T := TX11) (N := 66) hx hb hts inX11 hown hK hH he rfl 44 (by decide) fl4 hv dX11_lays_226 kk) ?_
                          refine lv_iload hx hb dX11_lays_229 (lv_at hl 5 rfl) ?_
                          obtain ⟨f_316, ef_317⟩ : ∃ f9, aF σ (ad E a 31) = f9 := ⟨_, rfl⟩
                          obtain ⟨_, hc_318⟩ := hO.cell h_a (by decide) (ci := 11) rfl
                          refine th_callv (va_runV (As := [.ref (ad E a 44), .int (I w0q18)]) (rest := []) ⟨hx, hb, hml, hown, hts⟩ (m_lift44 l G y b0 σ E hO a h_a w0q18 (show rng w0q18 from rw0q18) (by omega) (by omega) f44 ef44 f_316 ef_317 (hpl.2.2.2.2) (by omega) (by omega)) (cwV 2 hts gX11_lays_X11_lift rfl rfl rfl (by decide +kernel) ⟨Nat.le_of_ble_eq_true rfl, Nat.le_of_ble_eq_true rfl⟩) (th_PV hK hH rfl hc_318) rfl rfl hl.1 rfl (lv_room (Nat.le_of_ble_eq_true rfl)) dX11_lays_231 ⟨Nat.le_of_ble_eq_true rfl, Nat.le_of_ble_eq_true rfl⟩) hS (fun σ_s_320 H locs hw_319 hH hS => ?_)
                          obtain ⟨hO9, hF9, hM9, hw_319⟩ := hw_319
                          replace hM := hM.tu hM9 (by decide)
                          replace hF := hF.tu hF9 (by decide)
                          have e_321 : aF σ_s_320 (ad E a 3) = f3 := (hM9.a (by decide) (by decide)).trans ef3
                          have e_322 : aF σ_s_320 (ad E a 39) = f39 := (hM9.a (by decide) (by decide)).trans ef39
                          have e_323 : aF σ_s_320 (ad E a 40) = f40 := (hM9.a (by decide) (by decide)).trans ef40
                          have e_324 : aF σ_s_320 (ad E a 41) = f41 := (hM9.a (by decide) (by decide)).trans ef41
                          have e_325 : aF σ_s_320 (ad E a 42) = f42 := (hM9.a (by decide) (by decide)).trans ef42
                          have e_326 : aF σ_s_320 (ad E a 43) = f43 := (hM9.a (by decide) (by decide)).trans ef43
                          have e_327 : aF σ_s_320 (ad E a 44) = f44 := (hM9.a (by decide) (by decide)).trans ef44
                          have e_328 : gI σ_s_320 a 5 = a50 := (hM9.i (by decide)).trans ea50
                          replace hO := hO9
                          generalize ef_330 : aF σ_s_320 (ad E a 31) = g_329 at hw_319
                          have hw_319 : mT g_329 0 (mS f44 w0q18) ∧ mS g_329 0 = mS f44 w0q18 := hw_319
                          refine lv_aload_n hx hb dX11_lays_234 rfl (lv_at hl 6 rfl) ?_
                          refine lv_iload hx hb dX11_lays_235 (lv_at hl 3 rfl) ?_
                          refine lv_iload hx hb dX11_lays_237 (lv_at hl 3 rfl) ?_
                          refine lv_aload_n hx hb dX11_lays_239 rfl (lv_at hl 6 rfl) ?_
                          refine ok.getR hO h_a (by decide) k13_3 (by decide) (fun _ _ he hv kk => th_get (ci := 11) (C := RX11) (T := TX11) (N := 66) hx hb hts inX11 hown hK hH he rfl 3 (by decide) fl3 hv dX11_lays_240 kk) ?_
                          refine lv_iload hx hb dX11_lays_243 (lv_at hl 3 rfl) ?_
                          refine th_calli (va_runS (As := [.ref (ad E a 3), .int (I z_25)]) (rest := [.int (I z_25), .int (I z_25), .ref a]) ⟨hx, hb, hml, hown, hts⟩ (w_size l G y b0 σ_s_320 E hO (ad E a 3) 16000 f3 (hO.roww h_a k13_3 isA1 e_321 rfl) z_25 (show rng z_25 from rz_25) (by omega) (by omega) (by omega)) (va_cwS 2 hts gX11_lays_X11_size rfl rfl rfl (by decide +kernel) ⟨Nat.le_of_ble_eq_true rfl, Nat.le_of_ble_eq_true rfl⟩) (th_PS hK hH) rfl rfl hl.1 rfl (lv_room (Nat.le_of_ble_eq_true rfl)) dX11_lays_245 ⟨Nat.le_of_ble_eq_true rfl, Nat.le_of_ble_eq_true rfl⟩) hS (fun z_333 σ_s_332 H locs rz_333 hw_331 hH hS => ?_)
                          obtain ⟨e9, hw_331⟩ := hw_331
                          replace e9 := e9.symm
                          subst e9
                          have hw_331 : z_333 = mS f3 z_25 := hw_331
                          refine lv_iadd hx hb dX11_lays_248 ?_
                          refine nq_top (I_add _ _) ?_
                          refine lv_iload hx hb dX11_lays_249 (lv_at hl 0 rfl) ?_
                          refine lv_if_eq (tgt := 258) hx hb dX11_lays_251 (by decide) (fun _ => ?_) (fun c_334 => absurd (by decide) c_334)
                          refine lv_iload hx hb dX11_lays_258 (lv_at hl 2 rfl) ?_
                          obtain ⟨_, hc_335⟩ := hO.cell h_a (by decide) (ci := 11) rfl
                          refine th_callv (va_runV (As := [.int (I z_25), .int (I (z_25 + z_333)), .int (I z_28)]) (rest := []) ⟨hx, hb, hml, hown, hts⟩ (m_layInto l G y b0 σ_s_320 E hO a h_a z_25 (show rng z_25 from rz_25) (by omega) (by omega) (z_25 + z_333) (show rng (z_25 + z_333) from ⟨by omega, by omega⟩) (by omega) (by omega) z_28 (show rng z_28 from rz_28) f3 e_321 g_329 ef_330 ((by rw [show gI σ_s_320 a 5 = gI σ a 5 by omega]; exact hy0)) ((by rw [show gI σ_s_320 a 5 = gI σ a 5 by omega]; have h9 := spot_end hy0.1 (q := z_25) (by omega) (by omega); rw [show z_25 + mS f3 z_25 = (z_25 + z_333) by omega] at h9; exact h9)) (by omega) (by omega)) (cwV 3 hts gX11_lays_X11_layInto rfl rfl rfl (by decide +kernel) ⟨Nat.le_of_ble_eq_true rfl, Nat.le_of_ble_eq_true rfl⟩) (th_PV hK hH rfl hc_335) rfl rfl hl.1 rfl (lv_room (Nat.le_of_ble_eq_true rfl)) dX11_lays_260 ⟨Nat.le_of_ble_eq_true rfl, Nat.le_of_ble_eq_true rfl⟩) hS (fun σ_s_337 H locs hw_336 hH hS => ?_)
                          obtain ⟨hO9, hF9, hM9, hw_336⟩ := hw_336
                          replace hM := hM.tu hM9 (by decide)
                          replace hF := hF.tu hF9 (by decide)
                          have e_338 : aF σ_s_337 (ad E a 39) = f39 := (hM9.a (by decide) (by decide)).trans e_322
                          have e_339 : aF σ_s_337 (ad E a 40) = f40 := (hM9.a (by decide) (by decide)).trans e_323
                          have e_340 : aF σ_s_337 (ad E a 41) = f41 := (hM9.a (by decide) (by decide)).trans e_324
                          have e_341 : aF σ_s_337 (ad E a 42) = f42 := (hM9.a (by decide) (by decide)).trans e_325
                          have e_342 : aF σ_s_337 (ad E a 43) = f43 := (hM9.a (by decide) (by decide)).trans e_326
                          have e_343 : aF σ_s_337 (ad E a 44) = f44 := (hM9.a (by decide) (by decide)).trans e_327
                          have e_344 : aF σ_s_337 (ad E a 31) = g_329 := (hM9.a (by decide) (by decide)).trans ef_330
                          replace hO := hO9
                          generalize ef_346 : aF σ_s_337 (ad E a 3) = g_345 at hw_336
                          have hw_336 : layr f3 g_345 g_329 z_25 (z_25 + z_333) (mS g_329 0) z_28 (gI σ_s_320 a 5) ∧ gI σ_s_337 a 5 = gI σ_s_320 a 5 + mS g_329 0 := hw_336
                          refine lv_iconst (v := I 1) hx hb dX11_lays_263 (by decide) ?_
                          exact th_zret hx hb hr hlocks hH hS (z := 1) (by omega) ⟨hO, hF, hM, ⟨by omega, by omega⟩, by have h9 := hw_336.1; rw [show gI σ_s_320 a 5 = gI σ a 5 by omega, hw_319.2] at h9; have hsp := spot_end hy0.1 (q := z_25) (by omega) (by omega); rw [show z_25 + mS f3 z_25 = (z_25 + z_333) by omega] at hsp; have h8 := hy0.lay h9 (by omega) hsp hw_319.1 hw_319.2 hgk; have h7 := h9.root hy0.1 (by omega) hsp (by omega); rw [show aF σ_s_337 (ad E a 3) = g_345 from ef_346]; exact ⟨h8.eqM (by omega), by omega, by omega, by omega⟩⟩ dX11_lays_264
                    · replace c_249 := mt (I_le (a := 0) (b := z_28) (show rng 0 from ⟨by decide, by decide⟩) rz_28).mpr c_249
                      exfalso; omega
                  · replace c_244 := mt (I_eq (a := z_33) (b := 3) rz_33 (show rng 3 from ⟨by decide, by decide⟩)).mpr c_244
                    refine lv_iconst (v := I 0) hx hb dX11_lays_167 (by decide) ?_
                    exact th_zret hx hb hr hlocks hH hS (z := 0) (by omega) ⟨hO, hF, hM, ⟨by omega, by omega⟩, by rw [show aF σ (ad E a 3) = f3 from ef3]; exact ⟨hy0.eqM (by omega), by omega, by omega, by omega⟩⟩ dX11_lays_168
          · replace c_26 := (I_eq (a := z_20) (b := 0) rz_20 (show rng 0 from ⟨by decide, by decide⟩)).mp c_26
            exfalso; omega
        · replace c_21 := (I_eq (a := z_20) (b := 0) rz_20 (show rng 0 from ⟨by decide, by decide⟩)).mp c_21
          refine lv_iconst (v := I (-1)) hx hb dX11_lays_94 (by decide) ?_
          refine lv_goto (tgt := 107) hx hb dX11_lays_95 (by decide) ?_
          refine lv_istore (lv' := [(7, .int (I (-1))), (6, .int (I z_20)), (5, .int (I w0q18)), (0, .ref a), (1, .int (I w)), (3, .int (I w0q8)), (4, .int (I w0q13))]) hx hb dX11_lays_107 hl (by decide) rfl (fun ls hl => ?_)
          refine lv_iload hx hb dX11_lays_109 (lv_at hl 1 rfl) ?_
          refine lv_if_ne (tgt := 118) hx hb dX11_lays_111 (by decide) (fun c_347 => ?_) (fun c_347 => ?_)
          · replace c_347 := mt (I_eq (a := z_20) (b := 0) rz_20 (show rng 0 from ⟨by decide, by decide⟩)).mpr c_347
            exfalso; omega
          · replace c_347 := (I_eq (a := z_20) (b := 0) rz_20 (show rng 0 from ⟨by decide, by decide⟩)).mp c_347
            refine lv_iconst (v := I 0) hx hb dX11_lays_114 (by decide) ?_
            refine lv_goto (tgt := 132) hx hb dX11_lays_115 (by decide) ?_
            refine lv_istore (lv' := [(8, .int (I 0)), (7, .int (I (-1))), (6, .int (I z_20)), (5, .int (I w0q18)), (0, .ref a), (1, .int (I w)), (3, .int (I w0q8)), (4, .int (I w0q13))]) hx hb dX11_lays_132 hl (by decide) rfl (fun ls hl => ?_)
            refine lv_iload hx hb dX11_lays_134 (lv_at hl 2 rfl) ?_
            refine lv_if_le (tgt := 169) hx hb dX11_lays_136 (by decide) (fun c_348 => ?_) (fun c_348 => ?_)
            · replace c_348 := (I_le (a := z_20) (b := 0) rz_20 (show rng 0 from ⟨by decide, by decide⟩)).mp c_348
              refine lv_aload_n hx hb dX11_lays_169 rfl (lv_at hl 4 rfl) ?_
              refine lv_iload_n hx hb dX11_lays_170 rfl (lv_at hl 5 rfl) ?_
              refine lv_iload hx hb dX11_lays_171 (lv_at hl 2 rfl) ?_
              obtain ⟨_, hc_349⟩ := hO.cell h_a (by decide) (ci := 11) rfl
              refine th_calli (va_runV (As := [.int (I w), .int (I z_20)]) (rest := []) ⟨hx, hb, hml, hown, hts⟩ (m_leads l G y b0 σ E hO a h_a w (show rng w from rw) (by omega) (by omega) z_20 (show rng z_20 from rz_20) (by omega) (by omega) f3 ef3 f41 ef41 ((by rw [show gI σ a 5 = gI σ a 5 by omega]; exact hy0)) (by omega) (by omega)) (cwV 2 hts gX11_lays_X11_leads rfl rfl rfl (by decide +kernel) ⟨Nat.le_of_ble_eq_true rfl, Nat.le_of_ble_eq_true rfl⟩) (th_PV hK hH rfl hc_349) rfl rfl hl.1 rfl (lv_room (Nat.le_of_ble_eq_true rfl)) dX11_lays_173 ⟨Nat.le_of_ble_eq_true rfl, Nat.le_of_ble_eq_true rfl⟩) hS (fun z_352 σ_s_351 H locs rz_352 hw_350 hH hS => ?_)
              obtain ⟨e9, hw_350⟩ := hw_350
              replace e9 := e9.symm
              subst e9
              have hw_350 : ld f3 f41 (8 * w) z_20.toNat z_352 ∧ -1 ≤ z_352 ∧ z_352 < gI σ a 5 := hw_350
              refine lv_istore (lv' := [(9, .int (I z_352)), (8, .int (I 0)), (7, .int (I (-1))), (6, .int (I z_20)), (5, .int (I w0q18)), (0, .ref a), (1, .int (I w)), (3, .int (I w0q8)), (4, .int (I w0q13))]) hx hb dX11_lays_176 hl (by decide) rfl (fun ls hl => ?_)
              refine lv_iload hx hb dX11_lays_178 (lv_at hl 1 rfl) ?_
              refine lv_if_ge (tgt := 187) hx hb dX11_lays_180 (by decide) (fun _ => ?_) (fun c_353 => absurd (by decide) c_353)
              refine lv_iconst (v := I 0) hx hb dX11_lays_187 (by decide) ?_
              refine lv_istore (lv' := [(10, .int (I 0)), (9, .int (I z_352)), (8, .int (I 0)), (7, .int (I (-1))), (6, .int (I z_20)), (5, .int (I w0q18)), (0, .ref a), (1, .int (I w)), (3, .int (I w0q8)), (4, .int (I w0q13))]) hx hb dX11_lays_188 hl (by decide) rfl (fun ls hl => ?_)
              refine lv_iload_n hx hb dX11_lays_190 rfl (lv_at hl 8 rfl) ?_
              refine lv_iconst (v := I 1) hx hb dX11_lays_191 (by decide) ?_
              refine lv_icmp_ne (tgt := 265) hx hb dX11_lays_192 (by decide) (fun c_354 => ?_) (fun c_354 => ?_)
              · replace c_354 := mt (I_eq (a := w0q8) (b := 1) rw0q8 (show rng 1 from ⟨by decide, by decide⟩)).mpr c_354
                refine lv_iload hx hb dX11_lays_265 (lv_at hl 1 rfl) ?_
                refine lv_iconst (v := I (-1)) hx hb dX11_lays_267 (by decide) ?_
                refine lv_icmp_eq (tgt := 317) hx hb dX11_lays_268 (by decide) (fun c_355 => ?_) (fun c_355 => ?_)
                · replace c_355 := (I_eq (a := z_352) (b := (-1)) rz_352 (show rng (-1) from ⟨by decide, by decide⟩)).mp c_355
                  refine lv_iconst (v := I 0) hx hb dX11_lays_317 (by decide) ?_
                  exact th_zret hx hb hr hlocks hH hS (z := 0) (by omega) ⟨hO, hF, hM, ⟨by omega, by omega⟩, by rw [show aF σ (ad E a 3) = f3 from ef3]; exact ⟨hy0.eqM (by omega), by omega, by omega, by omega⟩⟩ dX11_lays_318
                · replace c_355 := mt (I_eq (a := z_352) (b := (-1)) rz_352 (show rng (-1) from ⟨by decide, by decide⟩)).mpr c_355
                  have hpa9 := hpa (by omega)
                  have hpa8 := hpa9.2.2.2.2.1
                  have hpa7 := hpa9.1
                  have hpa6 := hpa9.2.1
                  have hpa5 := hpa9.2.2
                  have hpa4 := hpa9.2.2.2.1
                  have hk9 := hy0.1 z_352 (by omega) (by omega)
                  refine lv_aload_n hx hb dX11_lays_271 rfl (lv_at hl 6 rfl) ?_
                  refine ok.getR hO h_a (by decide) k13_3 (by decide) (fun _ _ he hv kk => th_get (ci := 11) (C := RX11) (T := TX11) (N := 66) hx hb hts inX11 hown hK hH he rfl 3 (by decide) fl3 hv dX11_lays_272 kk) ?_
                  refine lv_iload hx hb dX11_lays_275 (lv_at hl 1 rfl) ?_
                  refine lv_aload_n hx hb dX11_lays_277 rfl (lv_at hl 6 rfl) ?_
                  refine ok.getR hO h_a (by decide) k13_44 (by decide) (fun _ _ he hv kk => th_get (ci := 11) (C := RX11) (T := TX11) (N := 66) hx hb hts inX11 hown hK hH he rfl 44 (by decide) fl4 hv dX11_lays_278 kk) ?_
                  refine lv_iload hx hb dX11_lays_281 (lv_at hl 9 rfl) ?_
                  refine th_calli (va_runS (As := [.ref (ad E a 3), .int (I z_352), .ref (ad E a 44), .int (I w0q13)]) (rest := []) ⟨hx, hb, hml, hown, hts⟩ (w_areLike 61 l G y b0 σ E hO (ad E a 3) 16000 f3 (hO.roww h_a k13_3 isA1 ef3 rfl) z_352 (show rng z_352 from rz_352) (by omega) (by omega) (ad E a 44) 1200 f44 (hO.roww h_a k13_44 isA1 ef44 rfl) w0q13 (show rng w0q13 from rw0q13) (by omega) (by omega) (by first | exact hy0.1 | exact (hy0.1).sub (by omega) (by omega) | exact hpa9.2.2.2.2.1 | exact (hpa9.2.2.2.2.1).sub (by omega) (by omega)) (by omega) (by omega) (by omega) (by first | exact hy0.1 | exact (hy0.1).sub (by omega) (by omega) | exact hpa9.2.2.2.2.1 | exact (hpa9.2.2.2.2.1).sub (by omega) (by omega)) (by omega) (by omega) (by omega) (by omega)) (va_cwS 4 hts gX11_lays_X11_areLike rfl rfl rfl (by decide +kernel) ⟨Nat.le_of_ble_eq_true rfl, Nat.le_of_ble_eq_true rfl⟩) (th_PS hK hH) rfl rfl hl.1 rfl (lv_room (Nat.le_of_ble_eq_true rfl)) dX11_lays_283 ⟨Nat.le_of_ble_eq_true rfl, Nat.le_of_ble_eq_true rfl⟩) hS (fun z_358 σ_s_357 H locs rz_358 hw_356 hH hS => ?_)
                  obtain ⟨e9, bhw_356, hw_356⟩ := hw_356
                  replace e9 := e9.symm
                  subst e9
                  refine lv_if_eq (tgt := 317) hx hb dX11_lays_286 (by decide) (fun c_359 => ?_) (fun c_359 => ?_)
                  · replace c_359 := (I_eq (a := z_358) (b := 0) rz_358 (show rng 0 from ⟨by decide, by decide⟩)).mp c_359
                    refine lv_iconst (v := I 0) hx hb dX11_lays_317 (by decide) ?_
                    exact th_zret hx hb hr hlocks hH hS (z := 0) (by omega) ⟨hO, hF, hM, ⟨by omega, by omega⟩, by rw [show aF σ (ad E a 3) = f3 from ef3]; exact ⟨hy0.eqM (by omega), by omega, by omega, by omega⟩⟩ dX11_lays_318
                  · replace c_359 := mt (I_eq (a := z_358) (b := 0) rz_358 (show rng 0 from ⟨by decide, by decide⟩)).mpr c_359
                    refine lv_iload_n hx hb dX11_lays_289 rfl (lv_at hl 8 rfl) ?_
                    refine lv_iconst (v := I 2) hx hb dX11_lays_290 (by decide) ?_
                    refine lv_icmp_ne (tgt := 319) hx hb dX11_lays_291 (by decide) (fun c_360 => ?_) (fun c_360 => ?_)
                    · replace c_360 := mt (I_eq (a := w0q8) (b := 2) rw0q8 (show rng 2 from ⟨by decide, by decide⟩)).mpr c_360
                      refine lv_iload_n hx hb dX11_lays_319 rfl (lv_at hl 8 rfl) ?_
                      refine lv_iconst (v := I 2) hx hb dX11_lays_320 (by decide) ?_
                      refine lv_icmp_ne (tgt := 332) hx hb dX11_lays_321 (by decide) (fun c_361 => ?_) (fun c_361 => ?_)
                      · replace c_361 := mt (I_eq (a := w0q8) (b := 2) rw0q8 (show rng 2 from ⟨by decide, by decide⟩)).mpr c_361
                        have hpl := hpb (by omega)
                        have hpl2 := hpl.2.2
                        have hpl3 := hpl.1
                        have hpl4 := hpl.2.1
                        have hpl5 := hpl.2.2.2.1
                        have hwb9 := hwb (by omega)
                        refine lv_aload_n hx hb dX11_lays_332 rfl (lv_at hl 6 rfl) ?_
                        refine lv_aload_n hx hb dX11_lays_333 rfl (lv_at hl 6 rfl) ?_
                        refine ok.getR hO h_a (by decide) k13_44 (by decide) (fun _ _ he hv kk => th_get (ci := 11) (C := RX11) (T := TX11) (N := 66) hx hb hts inX11 hown hK hH he rfl 44 (by decide) fl4 hv dX11_lays_334 kk) ?_
                        refine lv_iload hx hb dX11_lays_337 (lv_at hl 5 rfl) ?_
                        obtain ⟨f_362, ef_363⟩ : ∃ f9, aF σ (ad E a 31) = f9 := ⟨_, rfl⟩
                        obtain ⟨_, hc_364⟩ := hO.cell h_a (by decide) (ci := 11) rfl
                        refine th_callv (va_runV (As := [.ref (ad E a 44), .int (I w0q18)]) (rest := []) ⟨hx, hb, hml, hown, hts⟩ (m_lift44 l G y b0 σ E hO a h_a w0q18 (show rng w0q18 from rw0q18) (by omega) (by omega) f44 ef44 f_362 ef_363 (hpl.2.2.2.2) (by omega) (by omega)) (cwV 2 hts gX11_lays_X11_lift rfl rfl rfl (by decide +kernel) ⟨Nat.le_of_ble_eq_true rfl, Nat.le_of_ble_eq_true rfl⟩) (th_PV hK hH rfl hc_364) rfl rfl hl.1 rfl (lv_room (Nat.le_of_ble_eq_true rfl)) dX11_lays_339 ⟨Nat.le_of_ble_eq_true rfl, Nat.le_of_ble_eq_true rfl⟩) hS (fun σ_s_366 H locs hw_365 hH hS => ?_)
                        obtain ⟨hO9, hF9, hM9, hw_365⟩ := hw_365
                        replace hM := hM.tu hM9 (by decide)
                        replace hF := hF.tu hF9 (by decide)
                        have e_367 : aF σ_s_366 (ad E a 3) = f3 := (hM9.a (by decide) (by decide)).trans ef3
                        have e_368 : aF σ_s_366 (ad E a 39) = f39 := (hM9.a (by decide) (by decide)).trans ef39
                        have e_369 : aF σ_s_366 (ad E a 40) = f40 := (hM9.a (by decide) (by decide)).trans ef40
                        have e_370 : aF σ_s_366 (ad E a 41) = f41 := (hM9.a (by decide) (by decide)).trans ef41
                        have e_371 : aF σ_s_366 (ad E a 42) = f42 := (hM9.a (by decide) (by decide)).trans ef42
                        have e_372 : aF σ_s_366 (ad E a 43) = f43 := (hM9.a (by decide) (by decide)).trans ef43
                        have e_373 : aF σ_s_366 (ad E a 44) = f44 := (hM9.a (by decide) (by decide)).trans ef44
                        have e_374 : gI σ_s_366 a 5 = a50 := (hM9.i (by decide)).trans ea50
                        replace hO := hO9
                        generalize ef_376 : aF σ_s_366 (ad E a 31) = g_375 at hw_365
                        have hw_365 : mT g_375 0 (mS f44 w0q18) ∧ mS g_375 0 = mS f44 w0q18 := hw_365
                        refine lv_iload hx hb dX11_lays_342 (lv_at hl 4 rfl) ?_
                        refine lv_if_ne (tgt := 364) hx hb dX11_lays_344 (by decide) (fun c_377 => ?_) (fun c_377 => ?_)
                        · replace c_377 := mt (I_eq (a := z_20) (b := 0) rz_20 (show rng 0 from ⟨by decide, by decide⟩)).mpr c_377
                          exfalso; omega
                        · replace c_377 := (I_eq (a := z_20) (b := 0) rz_20 (show rng 0 from ⟨by decide, by decide⟩)).mp c_377
                          refine lv_aload_n hx hb dX11_lays_347 rfl (lv_at hl 6 rfl) ?_
                          refine lv_iconst (v := I 0) hx hb dX11_lays_348 (by decide) ?_
                          refine ok.putJ hO h_a k13_5 (show rng 0 from ⟨by decide, by decide⟩) (by omega) (by omega) (fun _ he hl9 kk => th_put (ci := 11) (v := .int (I 0)) (ty := .int) (C := RX11) (T := TX11) (N := 66) hx hb hts inX11 tyX11 tyX11_ok nmX11 hown hK hH hS h00 he rfl 5 (by decide) fl5 rfl (by decide +kernel) rfl rfl hl9 dX11_lays_349 kk) (fun σ_s_378 H locs hO hF9 hM9 hg9 ha9 hH hS => ?_)
                          replace hM := hM.tu hM9 (by decide)
                          replace hF := hF.tu hF9 (by decide)
                          have e_379 : aF σ_s_378 (ad E a 3) = f3 := (hM9.a (by decide) (by decide)).trans e_367
                          have e_380 : aF σ_s_378 (ad E a 39) = f39 := (hM9.a (by decide) (by decide)).trans e_368
                          have e_381 : aF σ_s_378 (ad E a 40) = f40 := (hM9.a (by decide) (by decide)).trans e_369
                          have e_382 : aF σ_s_378 (ad E a 41) = f41 := (hM9.a (by decide) (by decide)).trans e_370
                          have e_383 : aF σ_s_378 (ad E a 42) = f42 := (hM9.a (by decide) (by decide)).trans e_371
                          have e_384 : aF σ_s_378 (ad E a 43) = f43 := (hM9.a (by decide) (by decide)).trans e_372
                          have e_385 : aF σ_s_378 (ad E a 44) = f44 := (hM9.a (by decide) (by decide)).trans e_373
                          have e_386 : aF σ_s_378 (ad E a 31) = g_375 := (hM9.a (by decide) (by decide)).trans ef_376
                          have e_387 := hg9
                          refine lv_aload_n hx hb dX11_lays_352 rfl (lv_at hl 6 rfl) ?_
                          refine lv_aload_n hx hb dX11_lays_353 rfl (lv_at hl 6 rfl) ?_
                          refine ok.getR hO h_a (by decide) k13_31 (by decide) (fun _ _ he hv kk => th_get (ci := 11) (C := RX11) (T := TX11) (N := 66) hx hb hts inX11 hown hK hH he rfl 31 (by decide) fl6 hv dX11_lays_354 kk) ?_
                          refine lv_iconst (v := I 0) hx hb dX11_lays_357 (by decide) ?_
                          refine lv_iconst (v := I 0) hx hb dX11_lays_358 (by decide) ?_
                          obtain ⟨_, hc_388⟩ := hO.cell h_a (by decide) (ci := 11) rfl
                          refine th_callv (va_runV (As := [.ref (ad E a 31), .int (I 0), .int (I 0)]) (rest := []) ⟨hx, hb, hml, hown, hts⟩ (m_copyWith31 l G y b0 σ_s_378 E hO a h_a 0 (show rng 0 from (show rng 0 from ⟨by decide, by decide⟩)) (by omega) (by omega) 0 (show rng 0 from (show rng 0 from ⟨by decide, by decide⟩)) g_375 e_386 f3 e_379 ((show td _ from ⟨by rw [hw_365.2]; exact hw_365.1, by omega, by omega⟩)) (by omega) (by omega)) (cwV 3 hts gX11_lays_X11_copyWith rfl rfl rfl (by decide +kernel) ⟨Nat.le_of_ble_eq_true rfl, Nat.le_of_ble_eq_true rfl⟩) (th_PV hK hH rfl hc_388) rfl rfl hl.1 rfl (lv_room (Nat.le_of_ble_eq_true rfl)) dX11_lays_359 ⟨Nat.le_of_ble_eq_true rfl, Nat.le_of_ble_eq_true rfl⟩) hS (fun σ_s_390 H locs hw_389 hH hS => ?_)
                          obtain ⟨hO9, hF9, hM9, hw_389⟩ := hw_389
                          replace hM := hM.tu hM9 (by decide)
                          replace hF := hF.tu hF9 (by decide)
                          have e_391 : aF σ_s_390 (ad E a 39) = f39 := (hM9.a (by decide) (by decide)).trans e_380
                          have e_392 : aF σ_s_390 (ad E a 40) = f40 := (hM9.a (by decide) (by decide)).trans e_381
                          have e_393 : aF σ_s_390 (ad E a 41) = f41 := (hM9.a (by decide) (by decide)).trans e_382
                          have e_394 : aF σ_s_390 (ad E a 42) = f42 := (hM9.a (by decide) (by decide)).trans e_383
                          have e_395 : aF σ_s_390 (ad E a 43) = f43 := (hM9.a (by decide) (by decide)).trans e_384
                          have e_396 : aF σ_s_390 (ad E a 44) = f44 := (hM9.a (by decide) (by decide)).trans e_385
                          have e_397 : aF σ_s_390 (ad E a 31) = g_375 := (hM9.a (by decide) (by decide)).trans e_386
                          replace hO := hO9
                          generalize ef_399 : aF σ_s_390 (ad E a 3) = g_398 at hw_389
                          have hw_389 : blk f3 g_398 (gI σ_s_378 a 5) (gI σ_s_378 a 5 + mS g_375 0) 0 ∧ mS g_398 (gI σ_s_378 a 5) = mS g_375 0 ∧ gI σ_s_390 a 5 = gI σ_s_378 a 5 + mS g_375 0 := hw_389
                          refine lv_iconst (v := I 1) hx hb dX11_lays_362 (by decide) ?_
                          exact th_zret hx hb hr hlocks hH hS (z := 1) (by omega) ⟨hO, hF, hM, ⟨by omega, by omega⟩, by have h9 := hw_389.1; rw [show gI σ_s_378 a 5 = 0 by omega] at h9; have h8 := h9.2.1; rw [show aF σ_s_390 (ad E a 3) = g_398 from ef_399]; exact ⟨h9.1.eqM (by omega), by omega, by omega, by omega⟩⟩ dX11_lays_363
                      · replace c_361 := (I_eq (a := w0q8) (b := 2) rw0q8 (show rng 2 from ⟨by decide, by decide⟩)).mp c_361
                        exfalso; omega
                    · replace c_360 := (I_eq (a := w0q8) (b := 2) rw0q8 (show rng 2 from ⟨by decide, by decide⟩)).mp c_360
                      exfalso; omega
              · replace c_354 := (I_eq (a := w0q8) (b := 1) rw0q8 (show rng 1 from ⟨by decide, by decide⟩)).mp c_354
                exfalso; omega
            · replace c_348 := mt (I_le (a := z_20) (b := 0) rz_20 (show rng 0 from ⟨by decide, by decide⟩)).mpr c_348
              exfalso; omega
      · refine lv_if_eq (tgt := 73) hx hb dX11_lays_61 (by decide) (fun c_400 => ?_) (fun c_400 => ?_)
        · replace c_400 := (I_eq (a := tu) (b := 0) rtu (show rng 0 from ⟨by decide, by decide⟩)).mp c_400
          refine lv_aload_n hx hb dX11_lays_73 rfl (lv_at hl 1 rfl) ?_
          refine ok.getR hO h_a (by decide) k13_43 (by decide) (fun _ _ he hv kk => th_get (ci := 11) (C := RX11) (T := TX11) (N := 66) hx hb hts inX11 hown hK hH he rfl 43 (by decide) fl7 hv dX11_lays_74 kk) ?_
          refine lv_iload_n hx hb dX11_lays_77 rfl (lv_at hl 2 rfl) ?_
          refine m_iald hx hb hK hH hO h_a k13_43 isA1 ef43 rw (by omega) (by omega) dX11_lays_78 (fun z_401 ez_401 rz_401 elx9 => ?_)
          replace hl : lv_has ls 11 [(4, .int (I w0q13)), (0, .ref a), (1, .int (I w)), (3, .int (I w0q8))] := lv_sub hl [0, 1, 2, 4] rfl
          exact jK_19 (z_401) σ _ _ _ ⟨rfl, hH, hS, lv_sub hl [1, 2, 3, 0] rfl, rz_401, by first | (dsimp only; omega) | omega⟩
        · replace c_400 := mt (I_eq (a := tu) (b := 0) rtu (show rng 0 from ⟨by decide, by decide⟩)).mpr c_400
          refine lv_aload_n hx hb dX11_lays_64 rfl (lv_at hl 1 rfl) ?_
          refine ok.getR hO h_a (by decide) k13_42 (by decide) (fun _ _ he hv kk => th_get (ci := 11) (C := RX11) (T := TX11) (N := 66) hx hb hts inX11 hown hK hH he rfl 42 (by decide) fl8 hv dX11_lays_65 kk) ?_
          refine lv_iload_n hx hb dX11_lays_68 rfl (lv_at hl 2 rfl) ?_
          refine m_iald hx hb hK hH hO h_a k13_42 isA1 ef42 rw (by omega) (by omega) dX11_lays_69 (fun z_402 ez_402 rz_402 elx9 => ?_)
          refine lv_goto (tgt := 79) hx hb dX11_lays_70 (by decide) ?_
          replace hl : lv_has ls 11 [(4, .int (I w0q13)), (0, .ref a), (1, .int (I w)), (3, .int (I w0q8))] := lv_sub hl [0, 1, 2, 4] rfl
          exact jK_19 (z_402) σ _ _ _ ⟨rfl, hH, hS, lv_sub hl [1, 2, 3, 0] rfl, rz_402, by first | (dsimp only; omega) | omega⟩
    · refine lv_if_eq (tgt := 52) hx hb dX11_lays_40 (by decide) (fun c_403 => ?_) (fun c_403 => ?_)
      · replace c_403 := (I_eq (a := tu) (b := 0) rtu (show rng 0 from ⟨by decide, by decide⟩)).mp c_403
        refine lv_aload_n hx hb dX11_lays_52 rfl (lv_at hl 1 rfl) ?_
        refine ok.getR hO h_a (by decide) k13_42 (by decide) (fun _ _ he hv kk => th_get (ci := 11) (C := RX11) (T := TX11) (N := 66) hx hb hts inX11 hown hK hH he rfl 42 (by decide) fl8 hv dX11_lays_53 kk) ?_
        refine lv_iload_n hx hb dX11_lays_56 rfl (lv_at hl 2 rfl) ?_
        refine m_iald hx hb hK hH hO h_a k13_42 isA1 ef42 rw (by omega) (by omega) dX11_lays_57 (fun z_404 ez_404 rz_404 elx9 => ?_)
        exact jK_14 (z_404) σ _ _ _ ⟨rfl, hH, hS, lv_sub hl [1, 2, 3, 0] rfl, rz_404, by first | (dsimp only; omega) | omega⟩
      · replace c_403 := mt (I_eq (a := tu) (b := 0) rtu (show rng 0 from ⟨by decide, by decide⟩)).mpr c_403
        refine lv_aload_n hx hb dX11_lays_43 rfl (lv_at hl 1 rfl) ?_
        refine ok.getR hO h_a (by decide) k13_43 (by decide) (fun _ _ he hv kk => th_get (ci := 11) (C := RX11) (T := TX11) (N := 66) hx hb hts inX11 hown hK hH he rfl 43 (by decide) fl7 hv dX11_lays_44 kk) ?_
        refine lv_iload_n hx hb dX11_lays_47 rfl (lv_at hl 2 rfl) ?_
        refine m_iald hx hb hK hH hO h_a k13_43 isA1 ef43 rw (by omega) (by omega) dX11_lays_48 (fun z_405 ez_405 rz_405 elx9 => ?_)
        refine lv_goto (tgt := 58) hx hb dX11_lays_49 (by decide) ?_
        exact jK_14 (z_405) σ _ _ _ ⟨rfl, hH, hS, lv_sub hl [1, 2, 3, 0] rfl, rz_405, by first | (dsimp only; omega) | omega⟩
  · refine lv_icmp_eq (tgt := 14) hx hb dX11_lays_7 (by decide) (fun c_406 => ?_) (fun c_406 => ?_)
    · replace c_406 := (I_eq (a := z_1) (b := 3) rz_1 (show rng 3 from ⟨by decide, by decide⟩)).mp c_406
      refine lv_aload_n hx hb dX11_lays_14 rfl (lv_at hl 0 rfl) ?_
      refine ok.getR hO h_a (by decide) k13_39 (by decide) (fun _ _ he hv kk => th_get (ci := 11) (C := RX11) (T := TX11) (N := 66) hx hb hts inX11 hown hK hH he rfl 39 (by decide) fl0 hv dX11_lays_15 kk) ?_
      refine lv_iload_n hx hb dX11_lays_18 rfl (lv_at hl 1 rfl) ?_
      refine m_iald hx hb hK hH hO h_a k13_39 isA1 ef39 rw (by omega) (by omega) dX11_lays_19 (fun z_407 ez_407 rz_407 elx9 => ?_)
      refine lv_goto (tgt := 38) hx hb dX11_lays_20 (by decide) ?_
      exact jK_9 (z_407) σ _ _ _ ⟨rfl, hH, hS, lv_sub hl [0, 1, 2] rfl, rz_407, by first | (dsimp only; omega) | omega⟩
    · replace c_406 := mt (I_eq (a := z_1) (b := 3) rz_1 (show rng 3 from ⟨by decide, by decide⟩)).mpr c_406
      refine lv_iload_n hx hb dX11_lays_10 rfl (lv_at hl 2 rfl) ?_
      refine lv_if_ne (tgt := 23) hx hb dX11_lays_11 (by decide) (fun c_408 => ?_) (fun c_408 => ?_)
      · replace c_408 := mt (I_eq (a := tu) (b := 0) rtu (show rng 0 from ⟨by decide, by decide⟩)).mpr c_408
        refine lv_aload_n hx hb dX11_lays_23 rfl (lv_at hl 0 rfl) ?_
        refine ok.getR hO h_a (by decide) k13_39 (by decide) (fun _ _ he hv kk => th_get (ci := 11) (C := RX11) (T := TX11) (N := 66) hx hb hts inX11 hown hK hH he rfl 39 (by decide) fl0 hv dX11_lays_24 kk) ?_
        refine lv_iload_n hx hb dX11_lays_27 rfl (lv_at hl 1 rfl) ?_
        refine m_iald hx hb hK hH hO h_a k13_39 isA1 ef39 rw (by omega) (by omega) dX11_lays_28 (fun z_409 ez_409 rz_409 elx9 => ?_)
        refine lv_iconst (v := I 1) hx hb dX11_lays_29 (by decide) ?_
        refine lv_icmp_ne (tgt := 37) hx hb dX11_lays_30 (by decide) (fun c_410 => ?_) (fun c_410 => ?_)
        · replace c_410 := mt (I_eq (a := z_409) (b := 1) rz_409 (show rng 1 from ⟨by decide, by decide⟩)).mpr c_410
          refine lv_iconst (v := I 1) hx hb dX11_lays_37 (by decide) ?_
          exact jK_9 (1) σ _ _ _ ⟨rfl, hH, hS, lv_sub hl [0, 1, 2] rfl, (show rng 1 from ⟨by decide, by decide⟩), by first | (dsimp only; omega) | omega⟩
        · replace c_410 := (I_eq (a := z_409) (b := 1) rz_409 (show rng 1 from ⟨by decide, by decide⟩)).mp c_410
          refine lv_iconst (v := I 2) hx hb dX11_lays_33 (by decide) ?_
          refine lv_goto (tgt := 38) hx hb dX11_lays_34 (by decide) ?_
          exact jK_9 (2) σ _ _ _ ⟨rfl, hH, hS, lv_sub hl [0, 1, 2] rfl, (show rng 2 from ⟨by decide, by decide⟩), by first | (dsimp only; omega) | omega⟩
      · replace c_408 := (I_eq (a := tu) (b := 0) rtu (show rng 0 from ⟨by decide, by decide⟩)).mp c_408
        refine lv_aload_n hx hb dX11_lays_14 rfl (lv_at hl 0 rfl) ?_
        refine ok.getR hO h_a (by decide) k13_39 (by decide) (fun _ _ he hv kk => th_get (ci := 11) (C := RX11) (T := TX11) (N := 66) hx hb hts inX11 hown hK hH he rfl 39 (by decide) fl0 hv dX11_lays_15 kk) ?_
        refine lv_iload_n hx hb dX11_lays_18 rfl (lv_at hl 1 rfl) ?_
        refine m_iald hx hb hK hH hO h_a k13_39 isA1 ef39 rw (by omega) (by omega) dX11_lays_19 (fun z_411 ez_411 rz_411 elx9 => ?_)
        refine lv_goto (tgt := 38) hx hb dX11_lays_20 (by decide) ?_
        exact jK_9 (z_411) σ _ _ _ ⟨rfl, hH, hS, lv_sub hl [0, 1, 2] rfl, rz_411, by first | (dsimp only; omega) | omega⟩
