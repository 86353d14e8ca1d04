set_option maxHeartbeats 4000000 in
set_option maxRecDepth 100000 in
theorem n_stepOn (l : Launch) (G : va_G) (y : Nat → ClassId) (b0 : Nat) (σ : th_M) (E : th_E) (hO : ok y E σ) (a : Nat) (h_a : kd E a = 13) (Bf : Int → Int) (hsr : sr E σ a Bf) (hy0 : 0 ≤ gI σ a 13 ∧ gI σ a 13 ≤ gI σ a 11 ∧ gI σ a 11 ≤ 400) (hy1 : byt Bf) : Met l yX11_stepOn wsX11_stepOn ({ frames := 1, cells := 0, slots := 0, locals := 40 }) (th_P G y b0 σ [.ref a]) (th_Qv G b0 (fun σ1 => ok y E σ1 ∧ fr [13] E σ σ1 ∧ fm [13, 14, 15, 16, 17, 18] E σ σ1 a ∧ ((gI σ a 13 ≤ gI σ1 a 13 ∧ gI σ1 a 13 ≤ gI σ a 11 ∧ 0 ≤ gI σ1 a 17 ∧ gI σ1 a 17 ≤ gI σ1 a 13 ∧ (gI σ1 a 14 = 0 ∨ gI σ a 13 < gI σ1 a 13)) ∧ rtok Bf σ1 a (gI σ a 13)))) 0 0 (th_A b0) := by
  refine Met.ofW (cc := cX11_stepOn) (maxL := 3) (ret := none) (by decide) rfl ?_
  intro p e s m args below meth c s₁ B hml hv
  obtain ⟨rfl, hH, hK⟩ := hv
  have hx := B.exec
  have hb := B.bytes
  have hr := B.returns
  have hts := atoms_spec (ws := wsX11_stepOn) B.pre
  have hown : s.vm.findClass RX11 = some m.cls := findClass_of_methodNamed B.named
  have hlocks := B.notSynchronized
  have h00 : b0 ≤ s.heap.size := hH.1
  have hS : va_S (th_A b0) s.heap s.heap [] := va_S.rf
  have hF : fr [13] E σ σ := fr.rf
  have hM : fm [13, 14, 15, 16, 17, 18] E σ σ a := fm.rf
  have hSt9 := hy1
  have inX11 : ∀ w ∈ wsX110, w ∈ wsX11_stepOn := by decide +kernel
  have fl0 := hts (.fieldLink RX11 126 "NestQueryModel" "at" "I") (by decide +kernel)
  have fl1 := hts (.fieldLink RX11 133 "NestQueryModel" "begins" "I") (by decide +kernel)
  have fl2 := hts (.fieldLink RX11 136 "NestQueryModel" "token" "I") (by decide +kernel)
  have fl3 := hts (.fieldLink RX11 159 "NestQueryModel" "stops" "I") (by decide +kernel)
  have fl4 := hts (.fieldLink RX11 149 "NestQueryModel" "number" "I") (by decide +kernel)
  have fl5 := hts (.constant RX11 152 100000) (by decide +kernel)
  have fl6 := hts (.methodLink RX11 153 Lib.Math.min.name) (by decide +kernel)
  have fl7 := hts (.static Lib.Math.min.name) (by decide +kernel)
  have fl8 := hts (.initialized "java/lang/Math") (by decide +kernel)
  have fl9 := hts (.code Lib.Math.min.name Lib.Math.min.code 2 (some .int)) (by decide +kernel)
  have fl10 := hts (.fieldLink RX11 143 "NestQueryModel" "word" "I") (by decide +kernel)
  have hl := lv_entry ([.ref a]) (n := 3) (Nat.le_of_ble_eq_true rfl)
  rw [lg_entry_eq]
  generalize (lg_sl ([.ref a]) ++ List.replicate (3 - (lg_sl ([.ref a])).length) Slot.unset).toArray = ls at hl ⊢
  have hl : lv_has ls 3 [(0, .ref a)] := hl
  obtain ⟨a110, ea110, ra110, la110, ua110⟩ := hO.gi h_a (by decide) k13_11
  obtain ⟨a130, ea130, ra130, la130, ua130⟩ := hO.gi h_a (by decide) k13_13
  refine th_loop (α := Int) (pc := 0) (fun x9 => (gI σ a 11 - x9).toNat) (fun x9 σ9 H9 l9 ls9 => ok y E σ9 ∧ fr [13] E σ σ9 ∧ fm [13, 14, 15, 16, 17, 18] E σ σ9 a ∧ sr E σ9 a Bf ∧ th_H G b0 σ9 H9 ∧ va_S (th_A b0) s.heap H9 l9 ∧ lv_has ls9 3 [(0, .ref a)] ∧ rng x9 ∧ (gI σ a 13 ≤ x9) ∧ (x9 ≤ gI σ a 11) ∧ (∀ q, gI σ a 13 ≤ q → q < x9 → isBk (Bf q)) ∧ (gI σ9 a 11 = a110) ∧ (gI σ9 a 13 = x9)) ?_ (a130) σ _ _ _ ⟨hO, hF, hM, hsr, hH, hS, lv_sub hl [0] rfl, ra130, by first | (dsimp only; omega) | omega, by first | (dsimp only; omega) | omega, (fun q h1 h2 => absurd h2 (by omega)), ea110, ea130⟩
  intro x9 σ_J_41 H locs ls hI9 ihJ_41
  obtain ⟨G13q39, ex9⟩ : ∃ z, z = x9 := ⟨_, rfl⟩
  subst ex9
  obtain ⟨hO, hF, hM, hsr, hH, hS, hl, rG13q39, J_41_0, J_41_1, J_41_2, J_41_3, J_41_4⟩ := hI9
  have hl : lv_has ls 3 [(0, .ref a)] := hl
  have rG13q39 : rng G13q39 := rG13q39
  replace J_41_0 : gI σ a 13 ≤ G13q39 := J_41_0
  replace J_41_1 : G13q39 ≤ gI σ a 11 := J_41_1
  replace J_41_2 : ∀ q, gI σ a 13 ≤ q → q < G13q39 → isBk (Bf q) := J_41_2
  replace J_41_3 : gI σ_J_41 a 11 = a110 := J_41_3
  replace J_41_4 : gI σ_J_41 a 13 = G13q39 := J_41_4
  refine lv_aload_n hx hb dX11_stepOn_0 rfl (lv_at hl 0 rfl) ?_
  refine lv_aload_n hx hb dX11_stepOn_1 rfl (lv_at hl 0 rfl) ?_
  refine ok.getIc hO h_a (by decide) k13_13 J_41_4 (fun _ _ he hv kk => th_get (ci := 11) (C := RX11) (T := TX11) (N := 66) hx hb hts inX11 hown hK hH he rfl 13 (by decide) fl0 hv dX11_stepOn_2 kk) ?_
  obtain ⟨_, hc_42⟩ := hO.cell h_a (by decide) (ci := 11) rfl
  refine th_calli (va_runV (As := [.int (I G13q39)]) (rest := []) ⟨hx, hb, hml, hown, hts⟩ (m_byteAt l G y b0 σ_J_41 E hO a h_a G13q39 (show rng G13q39 from rG13q39) (by omega) (by omega) Bf hsr) (cwV 1 hts gX11_stepOn_X11_byteAt rfl rfl rfl (by decide +kernel) ⟨Nat.le_of_ble_eq_true rfl, Nat.le_of_ble_eq_true rfl⟩) (th_PV hK hH rfl hc_42) rfl rfl hl.1 rfl (lv_room (Nat.le_of_ble_eq_true rfl)) dX11_stepOn_5 ⟨Nat.le_of_ble_eq_true rfl, Nat.le_of_ble_eq_true rfl⟩) hS (fun z_45 σ_s_44 H locs rz_45 hw_43 hH hS => ?_)
  obtain ⟨e9, hw_43⟩ := hw_43
  replace e9 := e9.symm
  subst e9
  replace hw_43 : z_45 = Bf G13q39 ∧ (z_45 = -1 ∨ G13q39 < gI σ_J_41 a 11) := hw_43
  refine lv_bipush (v := I 32) hx hb dX11_stepOn_8 (by decide) ?_
  refine lv_icmp_eq (tgt := 26) hx hb dX11_stepOn_10 (by decide) (fun c_46 => ?_) (fun c_46 => ?_)
  · replace c_46 := (I_eq (a := z_45) (b := 32) rz_45 (show rng 32 from ⟨by decide, by decide⟩)).mp c_46
    refine lv_aload_n hx hb dX11_stepOn_26 rfl (lv_at hl 0 rfl) ?_
    refine lv_dup hx hb dX11_stepOn_27 rfl ?_
    refine ok.getIc hO h_a (by decide) k13_13 J_41_4 (fun _ _ he hv kk => th_get (ci := 11) (C := RX11) (T := TX11) (N := 66) hx hb hts inX11 hown hK hH he rfl 13 (by decide) fl0 hv dX11_stepOn_28 kk) ?_
    refine lv_iconst (v := I 1) hx hb dX11_stepOn_31 (by decide) ?_
    refine lv_iadd hx hb dX11_stepOn_32 ?_
    refine nq_top (I_add _ _) ?_
    refine ok.putJ hO h_a k13_13 ⟨by omega, by omega⟩ (by omega) (by omega) (fun _ he hl9 kk => th_put (ci := 11) (v := .int (I (G13q39 + 1))) (ty := .int) (C := RX11) (T := TX11) (N := 66) hx hb hts inX11 tyX11 tyX11_ok nmX11 hown hK hH hS h00 he rfl 13 (by decide) fl0 rfl (by decide +kernel) rfl rfl hl9 dX11_stepOn_33 kk) (fun σ_s_47 H locs hO hF9 hM9 hg9 ha9 hH hS => ?_)
    replace hM := hM.tu hM9 (by decide)
    replace hF := hF.tu hF9 (by decide)
    have e_48 : gI σ_s_47 a 11 = a110 := (hM9.i (by decide)).trans J_41_3
    replace hsr := hsr.mv hM9 (by decide) (by decide) (by decide) (by decide) (by decide)
    have e_49 := hg9
    refine lv_goto (tgt := 0) hx hb dX11_stepOn_36 (by decide) ?_
    exact ihJ_41 (G13q39 + 1) σ_s_47 _ _ _ (by first | (dsimp only; omega) | omega) ⟨hO, hF, hM, hsr, hH, hS, lv_sub hl [0] rfl, ⟨by first | (dsimp only; omega) | omega, by first | (dsimp only; omega) | omega⟩, by first | (dsimp only; omega) | omega, by first | (dsimp only; omega) | omega, (fun q h1 h2 => by
      by_cases e9 : q = G13q39
      · rw [e9]; have h9 := hw_43.1; unfold isBk; omega
      · exact J_41_2 q h1 (by first | omega | (dsimp only at h2; omega))), e_48, e_49⟩
  · replace c_46 := mt (I_eq (a := z_45) (b := 32) rz_45 (show rng 32 from ⟨by decide, by decide⟩)).mpr c_46
    refine lv_aload_n hx hb dX11_stepOn_13 rfl (lv_at hl 0 rfl) ?_
    refine lv_aload_n hx hb dX11_stepOn_14 rfl (lv_at hl 0 rfl) ?_
    refine ok.getIc hO h_a (by decide) k13_13 J_41_4 (fun _ _ he hv kk => th_get (ci := 11) (C := RX11) (T := TX11) (N := 66) hx hb hts inX11 hown hK hH he rfl 13 (by decide) fl0 hv dX11_stepOn_15 kk) ?_
    obtain ⟨_, hc_50⟩ := hO.cell h_a (by decide) (ci := 11) rfl
    refine th_calli (va_runV (As := [.int (I G13q39)]) (rest := []) ⟨hx, hb, hml, hown, hts⟩ (m_byteAt l G y b0 σ_J_41 E hO a h_a G13q39 (show rng G13q39 from rG13q39) (by omega) (by omega) Bf hsr) (cwV 1 hts gX11_stepOn_X11_byteAt rfl rfl rfl (by decide +kernel) ⟨Nat.le_of_ble_eq_true rfl, Nat.le_of_ble_eq_true rfl⟩) (th_PV hK hH rfl hc_50) rfl rfl hl.1 rfl (lv_room (Nat.le_of_ble_eq_true rfl)) dX11_stepOn_18 ⟨Nat.le_of_ble_eq_true rfl, Nat.le_of_ble_eq_true rfl⟩) hS (fun z_53 σ_s_52 H locs rz_53 hw_51 hH hS => ?_)
    obtain ⟨e9, hw_51⟩ := hw_51
    replace e9 := e9.symm
    subst e9
    replace hw_51 : z_53 = Bf G13q39 ∧ (z_53 = -1 ∨ G13q39 < gI σ_J_41 a 11) := hw_51
    refine lv_bipush (v := I 10) hx hb dX11_stepOn_21 (by decide) ?_
    refine lv_icmp_ne (tgt := 39) hx hb dX11_stepOn_23 (by decide) (fun c_54 => ?_) (fun c_54 => ?_)
    · replace c_54 := mt (I_eq (a := z_53) (b := 10) rz_53 (show rng 10 from ⟨by decide, by decide⟩)).mpr c_54
      refine lv_aload_n hx hb dX11_stepOn_39 rfl (lv_at hl 0 rfl) ?_
      refine lv_aload_n hx hb dX11_stepOn_40 rfl (lv_at hl 0 rfl) ?_
      refine ok.getIc hO h_a (by decide) k13_13 J_41_4 (fun _ _ he hv kk => th_get (ci := 11) (C := RX11) (T := TX11) (N := 66) hx hb hts inX11 hown hK hH he rfl 13 (by decide) fl0 hv dX11_stepOn_41 kk) ?_
      refine ok.putJ hO h_a k13_17 rG13q39 (by omega) (by omega) (fun _ he hl9 kk => th_put (ci := 11) (v := .int (I G13q39)) (ty := .int) (C := RX11) (T := TX11) (N := 66) hx hb hts inX11 tyX11 tyX11_ok nmX11 hown hK hH hS h00 he rfl 17 (by decide) fl1 rfl (by decide +kernel) rfl rfl hl9 dX11_stepOn_44 kk) (fun σ_s_55 H locs hO hF9 hM9 hg9 ha9 hH hS => ?_)
      replace hM := hM.tu hM9 (by decide)
      replace hF := hF.tu hF9 (by decide)
      have e_56 : gI σ_s_55 a 11 = a110 := (hM9.i (by decide)).trans J_41_3
      have e_57 : gI σ_s_55 a 13 = G13q39 := (hM9.i (by decide)).trans J_41_4
      replace hsr := hsr.mv hM9 (by decide) (by decide) (by decide) (by decide) (by decide)
      have e_58 := hg9
      refine lv_aload_n hx hb dX11_stepOn_47 rfl (lv_at hl 0 rfl) ?_
      refine lv_aload_n hx hb dX11_stepOn_48 rfl (lv_at hl 0 rfl) ?_
      refine ok.getIc hO h_a (by decide) k13_13 e_57 (fun _ _ he hv kk => th_get (ci := 11) (C := RX11) (T := TX11) (N := 66) hx hb hts inX11 hown hK hH he rfl 13 (by decide) fl0 hv dX11_stepOn_49 kk) ?_
      obtain ⟨_, hc_59⟩ := hO.cell h_a (by decide) (ci := 11) rfl
      refine th_calli (va_runV (As := [.int (I G13q39)]) (rest := []) ⟨hx, hb, hml, hown, hts⟩ (m_byteAt l G y b0 σ_s_55 E hO a h_a G13q39 (show rng G13q39 from rG13q39) (by omega) (by omega) Bf hsr) (cwV 1 hts gX11_stepOn_X11_byteAt rfl rfl rfl (by decide +kernel) ⟨Nat.le_of_ble_eq_true rfl, Nat.le_of_ble_eq_true rfl⟩) (th_PV hK hH rfl hc_59) rfl rfl hl.1 rfl (lv_room (Nat.le_of_ble_eq_true rfl)) dX11_stepOn_52 ⟨Nat.le_of_ble_eq_true rfl, Nat.le_of_ble_eq_true rfl⟩) hS (fun z_62 σ_s_61 H locs rz_62 hw_60 hH hS => ?_)
      obtain ⟨e9, hw_60⟩ := hw_60
      replace e9 := e9.symm
      subst e9
      replace hw_60 : z_62 = Bf G13q39 ∧ (z_62 = -1 ∨ G13q39 < gI σ_s_55 a 11) := hw_60
      refine lv_istore_n (lv' := [(1, .int (I z_62)), (0, .ref a)]) hx hb dX11_stepOn_55 rfl hl (by decide) rfl (fun ls hl => ?_)
      refine lv_iload_n hx hb dX11_stepOn_56 rfl (lv_at hl 0 rfl) ?_
      refine lv_iconst (v := I (-1)) hx hb dX11_stepOn_57 (by decide) ?_
      refine lv_icmp_ne (tgt := 69) hx hb dX11_stepOn_58 (by decide) (fun c_63 => ?_) (fun c_63 => ?_)
      · replace c_63 := mt (I_eq (a := z_62) (b := (-1)) rz_62 (show rng (-1) from ⟨by decide, by decide⟩)).mpr c_63
        refine lv_iload_n hx hb dX11_stepOn_69 rfl (lv_at hl 0 rfl) ?_
        refine th_calli (va_runS (As := [.int (I z_62)]) (rest := []) ⟨hx, hb, hml, hown, hts⟩ (w_isLetter l G y b0 σ_s_55 E hO z_62 (show rng z_62 from rz_62)) (va_cwS 1 hts gX11_stepOn_X11_isLetter rfl rfl rfl (by decide +kernel) ⟨Nat.le_of_ble_eq_true rfl, Nat.le_of_ble_eq_true rfl⟩) (th_PS hK hH) rfl rfl hl.1 rfl (lv_room (Nat.le_of_ble_eq_true rfl)) dX11_stepOn_70 ⟨Nat.le_of_ble_eq_true rfl, Nat.le_of_ble_eq_true rfl⟩) hS (fun z_66 σ_s_65 H locs rz_66 hw_64 hH hS => ?_)
        obtain ⟨e9, bhw_64, hw_64⟩ := hw_64
        replace e9 := e9.symm
        subst e9
        replace hw_64 : (z_66 = 1 ∧ 97 ≤ z_62 ∧ z_62 ≤ 122) ∨ (z_66 = 0 ∧ ¬ (97 ≤ z_62 ∧ z_62 ≤ 122)) := hw_64
        refine lv_if_eq (tgt := 162) hx hb dX11_stepOn_73 (by decide) (fun c_67 => ?_) (fun c_67 => ?_)
        · replace c_67 := (I_eq (a := z_66) (b := 0) rz_66 (show rng 0 from ⟨by decide, by decide⟩)).mp c_67
          refine lv_iload_n hx hb dX11_stepOn_162 rfl (lv_at hl 0 rfl) ?_
          refine th_calli (va_runS (As := [.int (I z_62)]) (rest := []) ⟨hx, hb, hml, hown, hts⟩ (w_isDigit l G y b0 σ_s_55 E hO z_62 (show rng z_62 from rz_62)) (va_cwS 1 hts gX11_stepOn_X11_isDigit rfl rfl rfl (by decide +kernel) ⟨Nat.le_of_ble_eq_true rfl, Nat.le_of_ble_eq_true rfl⟩) (th_PS hK hH) rfl rfl hl.1 rfl (lv_room (Nat.le_of_ble_eq_true rfl)) dX11_stepOn_163 ⟨Nat.le_of_ble_eq_true rfl, Nat.le_of_ble_eq_true rfl⟩) hS (fun z_70 σ_s_69 H locs rz_70 hw_68 hH hS => ?_)
          obtain ⟨e9, bhw_68, hw_68⟩ := hw_68
          replace e9 := e9.symm
          subst e9
          replace hw_68 : (z_70 = 1 ∧ 48 ≤ z_62 ∧ z_62 ≤ 57) ∨ (z_70 = 0 ∧ ¬ (48 ≤ z_62 ∧ z_62 ≤ 57)) := hw_68
          refine lv_if_eq (tgt := 237) hx hb dX11_stepOn_166 (by decide) (fun c_71 => ?_) (fun c_71 => ?_)
          · replace c_71 := (I_eq (a := z_70) (b := 0) rz_70 (show rng 0 from ⟨by decide, by decide⟩)).mp c_71
            refine lv_iload_n hx hb dX11_stepOn_237 rfl (lv_at hl 0 rfl) ?_
            refine lv_bipush (v := I 46) hx hb dX11_stepOn_238 (by decide) ?_
            refine lv_icmp_ne (tgt := 262) hx hb dX11_stepOn_240 (by decide) (fun c_72 => ?_) (fun c_72 => ?_)
            · replace c_72 := mt (I_eq (a := z_62) (b := 46) rz_62 (show rng 46 from ⟨by decide, by decide⟩)).mpr c_72
              refine lv_iconst (v := I 0) hx hb dX11_stepOn_262 (by decide) ?_
              refine lv_istore_n (lv' := [(2, .int (I 0)), (1, .int (I z_62)), (0, .ref a)]) hx hb dX11_stepOn_263 rfl hl (by decide) rfl (fun ls hl => ?_)
              refine lv_aload_n hx hb dX11_stepOn_264 rfl (lv_at hl 2 rfl) ?_
              refine lv_iload_n hx hb dX11_stepOn_265 rfl (lv_at hl 0 rfl) ?_
              refine lv_if_eq (tgt := 273) hx hb dX11_stepOn_266 (by decide) (fun _ => ?_) (fun c_73 => absurd (by decide) c_73)
              refine lv_iconst (v := I 3) hx hb dX11_stepOn_273 (by decide) ?_
              refine ok.putJ hO h_a k13_14 (show rng 3 from ⟨by decide, by decide⟩) (by omega) (by omega) (fun _ he hl9 kk => th_put (ci := 11) (v := .int (I 3)) (ty := .int) (C := RX11) (T := TX11) (N := 66) hx hb hts inX11 tyX11 tyX11_ok nmX11 hown hK hH hS h00 he rfl 14 (by decide) fl2 rfl (by decide +kernel) rfl rfl hl9 dX11_stepOn_274 kk) (fun σ_s_74 H locs hO hF9 hM9 hg9 ha9 hH hS => ?_)
              replace hM := hM.tu hM9 (by decide)
              replace hF := hF.tu hF9 (by decide)
              have e_75 : gI σ_s_74 a 11 = a110 := (hM9.i (by decide)).trans e_56
              have e_76 : gI σ_s_74 a 13 = G13q39 := (hM9.i (by decide)).trans e_57
              have e_77 : gI σ_s_74 a 17 = G13q39 := (hM9.i (by decide)).trans e_58
              replace hsr := hsr.mv hM9 (by decide) (by decide) (by decide) (by decide) (by decide)
              have e_78 := hg9
              refine lv_aload_n hx hb dX11_stepOn_277 rfl (lv_at hl 2 rfl) ?_
              refine lv_dup hx hb dX11_stepOn_278 rfl ?_
              refine ok.getIc hO h_a (by decide) k13_13 e_76 (fun _ _ he hv kk => th_get (ci := 11) (C := RX11) (T := TX11) (N := 66) hx hb hts inX11 hown hK hH he rfl 13 (by decide) fl0 hv dX11_stepOn_279 kk) ?_
              refine lv_iload_n hx hb dX11_stepOn_282 rfl (lv_at hl 0 rfl) ?_
              refine lv_if_eq (tgt := 290) hx hb dX11_stepOn_283 (by decide) (fun _ => ?_) (fun c_79 => absurd (by decide) c_79)
              refine lv_iconst (v := I 1) hx hb dX11_stepOn_290 (by decide) ?_
              refine lv_iadd hx hb dX11_stepOn_291 ?_
              refine nq_top (I_add _ _) ?_
              refine ok.putJ hO h_a k13_13 ⟨by omega, by omega⟩ (by omega) (by omega) (fun _ he hl9 kk => th_put (ci := 11) (v := .int (I (G13q39 + 1))) (ty := .int) (C := RX11) (T := TX11) (N := 66) hx hb hts inX11 tyX11 tyX11_ok nmX11 hown hK hH hS h00 he rfl 13 (by decide) fl0 rfl (by decide +kernel) rfl rfl hl9 dX11_stepOn_292 kk) (fun σ_s_80 H locs hO hF9 hM9 hg9 ha9 hH hS => ?_)
              replace hM := hM.tu hM9 (by decide)
              replace hF := hF.tu hF9 (by decide)
              have e_81 : gI σ_s_80 a 11 = a110 := (hM9.i (by decide)).trans e_75
              have e_82 : gI σ_s_80 a 17 = G13q39 := (hM9.i (by decide)).trans e_77
              have e_83 : gI σ_s_80 a 14 = 3 := (hM9.i (by decide)).trans e_78
              replace hsr := hsr.mv hM9 (by decide) (by decide) (by decide) (by decide) (by decide)
              have e_84 := hg9
              refine lv_aload_n hx hb dX11_stepOn_295 rfl (lv_at hl 2 rfl) ?_
              refine lv_aload_n hx hb dX11_stepOn_296 rfl (lv_at hl 2 rfl) ?_
              refine ok.getIc hO h_a (by decide) k13_13 e_84 (fun _ _ he hv kk => th_get (ci := 11) (C := RX11) (T := TX11) (N := 66) hx hb hts inX11 hown hK hH he rfl 13 (by decide) fl0 hv dX11_stepOn_297 kk) ?_
              refine ok.putJ hO h_a k13_18 ⟨by omega, by omega⟩ (by omega) (by omega) (fun _ he hl9 kk => th_put (ci := 11) (v := .int (I (G13q39 + 1))) (ty := .int) (C := RX11) (T := TX11) (N := 66) hx hb hts inX11 tyX11 tyX11_ok nmX11 hown hK hH hS h00 he rfl 18 (by decide) fl3 rfl (by decide +kernel) rfl rfl hl9 dX11_stepOn_300 kk) (fun σ_s_85 H locs hO hF9 hM9 hg9 ha9 hH hS => ?_)
              replace hM := hM.tu hM9 (by decide)
              replace hF := hF.tu hF9 (by decide)
              have e_86 : gI σ_s_85 a 11 = a110 := (hM9.i (by decide)).trans e_81
              have e_87 : gI σ_s_85 a 17 = G13q39 := (hM9.i (by decide)).trans e_82
              have e_88 : gI σ_s_85 a 14 = 3 := (hM9.i (by decide)).trans e_83
              have e_89 : gI σ_s_85 a 13 = G13q39 + 1 := (hM9.i (by decide)).trans e_84
              replace hsr := hsr.mv hM9 (by decide) (by decide) (by decide) (by decide) (by decide)
              have e_90 := hg9
              exact th_vret hx hb hr hlocks hH hS ⟨hO, hF, hM, ⟨⟨by omega, by omega, by omega, by omega, by omega⟩, ⟨z_62, 0, by rw [show gI σ_s_85 a 17 = G13q39 by omega, show gI σ_s_85 a 13 = G13q39 + 1 by omega]; exact Tok.sign (by omega) (fun q h1 h2 => J_41_2 q h1 (by omega)) (by have h9 := hw_60.1; omega) (by omega) (by omega) (by omega) (by omega) (by omega), by have h8 := hSt9 G13q39; have h7 := hw_60.1; unfold rk; omega, by omega, fun h9 => absurd h9 (by have h8 := hSt9 G13q39; have h7 := hw_60.1; omega)⟩⟩⟩ dX11_stepOn_303
            · replace c_72 := (I_eq (a := z_62) (b := 46) rz_62 (show rng 46 from ⟨by decide, by decide⟩)).mp c_72
              refine lv_aload_n hx hb dX11_stepOn_243 rfl (lv_at hl 1 rfl) ?_
              refine lv_aload_n hx hb dX11_stepOn_244 rfl (lv_at hl 1 rfl) ?_
              refine ok.getIc hO h_a (by decide) k13_13 e_57 (fun _ _ he hv kk => th_get (ci := 11) (C := RX11) (T := TX11) (N := 66) hx hb hts inX11 hown hK hH he rfl 13 (by decide) fl0 hv dX11_stepOn_245 kk) ?_
              refine lv_iconst (v := I 1) hx hb dX11_stepOn_248 (by decide) ?_
              refine lv_iadd hx hb dX11_stepOn_249 ?_
              refine th_addo (fun z_91 rz_91 hz_91 => ?_)
              obtain ⟨_, hc_92⟩ := hO.cell h_a (by decide) (ci := 11) rfl
              refine th_calli (va_runV (As := [.int (I z_91)]) (rest := []) ⟨hx, hb, hml, hown, hts⟩ (m_byteAt l G y b0 σ_s_55 E hO a h_a z_91 (show rng z_91 from rz_91) (by omega) (by omega) Bf hsr) (cwV 1 hts gX11_stepOn_X11_byteAt rfl rfl rfl (by decide +kernel) ⟨Nat.le_of_ble_eq_true rfl, Nat.le_of_ble_eq_true rfl⟩) (th_PV hK hH rfl hc_92) rfl rfl hl.1 rfl (lv_room (Nat.le_of_ble_eq_true rfl)) dX11_stepOn_250 ⟨Nat.le_of_ble_eq_true rfl, Nat.le_of_ble_eq_true rfl⟩) hS (fun z_95 σ_s_94 H locs rz_95 hw_93 hH hS => ?_)
              obtain ⟨e9, hw_93⟩ := hw_93
              replace e9 := e9.symm
              subst e9
              replace hw_93 : z_95 = Bf z_91 ∧ (z_95 = -1 ∨ z_91 < gI σ_s_55 a 11) := hw_93
              have hb_96 : Bf (G13q39 + 1) = z_95 := by rw [show G13q39 + 1 = z_91 by omega]; exact hw_93.1.symm
              refine lv_bipush (v := I 46) hx hb dX11_stepOn_253 (by decide) ?_
              refine lv_icmp_ne (tgt := 262) hx hb dX11_stepOn_255 (by decide) (fun c_97 => ?_) (fun c_97 => ?_)
              · replace c_97 := mt (I_eq (a := z_95) (b := 46) rz_95 (show rng 46 from ⟨by decide, by decide⟩)).mpr c_97
                refine lv_iconst (v := I 0) hx hb dX11_stepOn_262 (by decide) ?_
                refine lv_istore_n (lv' := [(2, .int (I 0)), (1, .int (I z_62)), (0, .ref a)]) hx hb dX11_stepOn_263 rfl hl (by decide) rfl (fun ls hl => ?_)
                refine lv_aload_n hx hb dX11_stepOn_264 rfl (lv_at hl 2 rfl) ?_
                refine lv_iload_n hx hb dX11_stepOn_265 rfl (lv_at hl 0 rfl) ?_
                refine lv_if_eq (tgt := 273) hx hb dX11_stepOn_266 (by decide) (fun _ => ?_) (fun c_98 => absurd (by decide) c_98)
                refine lv_iconst (v := I 3) hx hb dX11_stepOn_273 (by decide) ?_
                refine ok.putJ hO h_a k13_14 (show rng 3 from ⟨by decide, by decide⟩) (by omega) (by omega) (fun _ he hl9 kk => th_put (ci := 11) (v := .int (I 3)) (ty := .int) (C := RX11) (T := TX11) (N := 66) hx hb hts inX11 tyX11 tyX11_ok nmX11 hown hK hH hS h00 he rfl 14 (by decide) fl2 rfl (by decide +kernel) rfl rfl hl9 dX11_stepOn_274 kk) (fun σ_s_99 H locs hO hF9 hM9 hg9 ha9 hH hS => ?_)
                replace hM := hM.tu hM9 (by decide)
                replace hF := hF.tu hF9 (by decide)
                have e_100 : gI σ_s_99 a 11 = a110 := (hM9.i (by decide)).trans e_56
                have e_101 : gI σ_s_99 a 13 = G13q39 := (hM9.i (by decide)).trans e_57
                have e_102 : gI σ_s_99 a 17 = G13q39 := (hM9.i (by decide)).trans e_58
                replace hsr := hsr.mv hM9 (by decide) (by decide) (by decide) (by decide) (by decide)
                have e_103 := hg9
                refine lv_aload_n hx hb dX11_stepOn_277 rfl (lv_at hl 2 rfl) ?_
                refine lv_dup hx hb dX11_stepOn_278 rfl ?_
                refine ok.getIc hO h_a (by decide) k13_13 e_101 (fun _ _ he hv kk => th_get (ci := 11) (C := RX11) (T := TX11) (N := 66) hx hb hts inX11 hown hK hH he rfl 13 (by decide) fl0 hv dX11_stepOn_279 kk) ?_
                refine lv_iload_n hx hb dX11_stepOn_282 rfl (lv_at hl 0 rfl) ?_
                refine lv_if_eq (tgt := 290) hx hb dX11_stepOn_283 (by decide) (fun _ => ?_) (fun c_104 => absurd (by decide) c_104)
                refine lv_iconst (v := I 1) hx hb dX11_stepOn_290 (by decide) ?_
                refine lv_iadd hx hb dX11_stepOn_291 ?_
                refine nq_top (I_add _ _) ?_
                refine ok.putJ hO h_a k13_13 ⟨by omega, by omega⟩ (by omega) (by omega) (fun _ he hl9 kk => th_put (ci := 11) (v := .int (I (G13q39 + 1))) (ty := .int) (C := RX11) (T := TX11) (N := 66) hx hb hts inX11 tyX11 tyX11_ok nmX11 hown hK hH hS h00 he rfl 13 (by decide) fl0 rfl (by decide +kernel) rfl rfl hl9 dX11_stepOn_292 kk) (fun σ_s_105 H locs hO hF9 hM9 hg9 ha9 hH hS => ?_)
                replace hM := hM.tu hM9 (by decide)
                replace hF := hF.tu hF9 (by decide)
                have e_106 : gI σ_s_105 a 11 = a110 := (hM9.i (by decide)).trans e_100
                have e_107 : gI σ_s_105 a 17 = G13q39 := (hM9.i (by decide)).trans e_102
                have e_108 : gI σ_s_105 a 14 = 3 := (hM9.i (by decide)).trans e_103
                replace hsr := hsr.mv hM9 (by decide) (by decide) (by decide) (by decide) (by decide)
                have e_109 := hg9
                refine lv_aload_n hx hb dX11_stepOn_295 rfl (lv_at hl 2 rfl) ?_
                refine lv_aload_n hx hb dX11_stepOn_296 rfl (lv_at hl 2 rfl) ?_
                refine ok.getIc hO h_a (by decide) k13_13 e_109 (fun _ _ he hv kk => th_get (ci := 11) (C := RX11) (T := TX11) (N := 66) hx hb hts inX11 hown hK hH he rfl 13 (by decide) fl0 hv dX11_stepOn_297 kk) ?_
                refine ok.putJ hO h_a k13_18 ⟨by omega, by omega⟩ (by omega) (by omega) (fun _ he hl9 kk => th_put (ci := 11) (v := .int (I (G13q39 + 1))) (ty := .int) (C := RX11) (T := TX11) (N := 66) hx hb hts inX11 tyX11 tyX11_ok nmX11 hown hK hH hS h00 he rfl 18 (by decide) fl3 rfl (by decide +kernel) rfl rfl hl9 dX11_stepOn_300 kk) (fun σ_s_110 H locs hO hF9 hM9 hg9 ha9 hH hS => ?_)
                replace hM := hM.tu hM9 (by decide)
                replace hF := hF.tu hF9 (by decide)
                have e_111 : gI σ_s_110 a 11 = a110 := (hM9.i (by decide)).trans e_106
                have e_112 : gI σ_s_110 a 17 = G13q39 := (hM9.i (by decide)).trans e_107
                have e_113 : gI σ_s_110 a 14 = 3 := (hM9.i (by decide)).trans e_108
                have e_114 : gI σ_s_110 a 13 = G13q39 + 1 := (hM9.i (by decide)).trans e_109
                replace hsr := hsr.mv hM9 (by decide) (by decide) (by decide) (by decide) (by decide)
                have e_115 := hg9
                exact th_vret hx hb hr hlocks hH hS ⟨hO, hF, hM, ⟨⟨by omega, by omega, by omega, by omega, by omega⟩, ⟨z_62, 0, by rw [show gI σ_s_110 a 17 = G13q39 by omega, show gI σ_s_110 a 13 = G13q39 + 1 by omega]; exact Tok.sign (by omega) (fun q h1 h2 => J_41_2 q h1 (by omega)) (by have h9 := hw_60.1; omega) (by omega) (by omega) (by omega) (by omega) (by omega), by have h8 := hSt9 G13q39; have h7 := hw_60.1; unfold rk; omega, by omega, fun h9 => absurd h9 (by have h8 := hSt9 G13q39; have h7 := hw_60.1; omega)⟩⟩⟩ dX11_stepOn_303
              · replace c_97 := (I_eq (a := z_95) (b := 46) rz_95 (show rng 46 from ⟨by decide, by decide⟩)).mp c_97
                refine lv_iconst (v := I 1) hx hb dX11_stepOn_258 (by decide) ?_
                refine lv_goto (tgt := 263) hx hb dX11_stepOn_259 (by decide) ?_
                refine lv_istore_n (lv' := [(2, .int (I 1)), (1, .int (I z_62)), (0, .ref a)]) hx hb dX11_stepOn_263 rfl hl (by decide) rfl (fun ls hl => ?_)
                refine lv_aload_n hx hb dX11_stepOn_264 rfl (lv_at hl 2 rfl) ?_
                refine lv_iload_n hx hb dX11_stepOn_265 rfl (lv_at hl 0 rfl) ?_
                refine lv_if_eq (tgt := 273) hx hb dX11_stepOn_266 (by decide) (fun c_116 => absurd c_116 (by decide)) (fun _ => ?_)
                refine lv_iconst (v := I 4) hx hb dX11_stepOn_269 (by decide) ?_
                refine lv_goto (tgt := 274) hx hb dX11_stepOn_270 (by decide) ?_
                refine ok.putJ hO h_a k13_14 (show rng 4 from ⟨by decide, by decide⟩) (by omega) (by omega) (fun _ he hl9 kk => th_put (ci := 11) (v := .int (I 4)) (ty := .int) (C := RX11) (T := TX11) (N := 66) hx hb hts inX11 tyX11 tyX11_ok nmX11 hown hK hH hS h00 he rfl 14 (by decide) fl2 rfl (by decide +kernel) rfl rfl hl9 dX11_stepOn_274 kk) (fun σ_s_117 H locs hO hF9 hM9 hg9 ha9 hH hS => ?_)
                replace hM := hM.tu hM9 (by decide)
                replace hF := hF.tu hF9 (by decide)
                have e_118 : gI σ_s_117 a 11 = a110 := (hM9.i (by decide)).trans e_56
                have e_119 : gI σ_s_117 a 13 = G13q39 := (hM9.i (by decide)).trans e_57
                have e_120 : gI σ_s_117 a 17 = G13q39 := (hM9.i (by decide)).trans e_58
                replace hsr := hsr.mv hM9 (by decide) (by decide) (by decide) (by decide) (by decide)
                have e_121 := hg9
                refine lv_aload_n hx hb dX11_stepOn_277 rfl (lv_at hl 2 rfl) ?_
                refine lv_dup hx hb dX11_stepOn_278 rfl ?_
                refine ok.getIc hO h_a (by decide) k13_13 e_119 (fun _ _ he hv kk => th_get (ci := 11) (C := RX11) (T := TX11) (N := 66) hx hb hts inX11 hown hK hH he rfl 13 (by decide) fl0 hv dX11_stepOn_279 kk) ?_
                refine lv_iload_n hx hb dX11_stepOn_282 rfl (lv_at hl 0 rfl) ?_
                refine lv_if_eq (tgt := 290) hx hb dX11_stepOn_283 (by decide) (fun c_122 => absurd c_122 (by decide)) (fun _ => ?_)
                refine lv_iconst (v := I 2) hx hb dX11_stepOn_286 (by decide) ?_
                refine lv_goto (tgt := 291) hx hb dX11_stepOn_287 (by decide) ?_
                refine lv_iadd hx hb dX11_stepOn_291 ?_
                refine nq_top (I_add _ _) ?_
                refine ok.putJ hO h_a k13_13 ⟨by omega, by omega⟩ (by omega) (by omega) (fun _ he hl9 kk => th_put (ci := 11) (v := .int (I (G13q39 + 2))) (ty := .int) (C := RX11) (T := TX11) (N := 66) hx hb hts inX11 tyX11 tyX11_ok nmX11 hown hK hH hS h00 he rfl 13 (by decide) fl0 rfl (by decide +kernel) rfl rfl hl9 dX11_stepOn_292 kk) (fun σ_s_123 H locs hO hF9 hM9 hg9 ha9 hH hS => ?_)
                replace hM := hM.tu hM9 (by decide)
                replace hF := hF.tu hF9 (by decide)
                have e_124 : gI σ_s_123 a 11 = a110 := (hM9.i (by decide)).trans e_118
                have e_125 : gI σ_s_123 a 17 = G13q39 := (hM9.i (by decide)).trans e_120
                have e_126 : gI σ_s_123 a 14 = 4 := (hM9.i (by decide)).trans e_121
                replace hsr := hsr.mv hM9 (by decide) (by decide) (by decide) (by decide) (by decide)
                have e_127 := hg9
                refine lv_aload_n hx hb dX11_stepOn_295 rfl (lv_at hl 2 rfl) ?_
                refine lv_aload_n hx hb dX11_stepOn_296 rfl (lv_at hl 2 rfl) ?_
                refine ok.getIc hO h_a (by decide) k13_13 e_127 (fun _ _ he hv kk => th_get (ci := 11) (C := RX11) (T := TX11) (N := 66) hx hb hts inX11 hown hK hH he rfl 13 (by decide) fl0 hv dX11_stepOn_297 kk) ?_
                refine ok.putJ hO h_a k13_18 ⟨by omega, by omega⟩ (by omega) (by omega) (fun _ he hl9 kk => th_put (ci := 11) (v := .int (I (G13q39 + 2))) (ty := .int) (C := RX11) (T := TX11) (N := 66) hx hb hts inX11 tyX11 tyX11_ok nmX11 hown hK hH hS h00 he rfl 18 (by decide) fl3 rfl (by decide +kernel) rfl rfl hl9 dX11_stepOn_300 kk) (fun σ_s_128 H locs hO hF9 hM9 hg9 ha9 hH hS => ?_)
                replace hM := hM.tu hM9 (by decide)
                replace hF := hF.tu hF9 (by decide)
                have e_129 : gI σ_s_128 a 11 = a110 := (hM9.i (by decide)).trans e_124
                have e_130 : gI σ_s_128 a 17 = G13q39 := (hM9.i (by decide)).trans e_125
                have e_131 : gI σ_s_128 a 14 = 4 := (hM9.i (by decide)).trans e_126
                have e_132 : gI σ_s_128 a 13 = G13q39 + 2 := (hM9.i (by decide)).trans e_127
                replace hsr := hsr.mv hM9 (by decide) (by decide) (by decide) (by decide) (by decide)
                have e_133 := hg9
                exact th_vret hx hb hr hlocks hH hS ⟨hO, hF, hM, ⟨⟨by omega, by omega, by omega, by omega, by omega⟩, ⟨258, 0, by rw [show gI σ_s_128 a 17 = G13q39 by omega, show gI σ_s_128 a 13 = G13q39 + 2 by omega]; exact Tok.dots (by omega) (fun q h1 h2 => J_41_2 q h1 (by omega)) (by have h9 := hw_60.1; omega) (by omega), by unfold rk; omega, by omega, fun h9 => absurd h9 (by omega)⟩⟩⟩ dX11_stepOn_303
          · replace c_71 := mt (I_eq (a := z_70) (b := 0) rz_70 (show rng 0 from ⟨by decide, by decide⟩)).mpr c_71
            refine lv_aload_n hx hb dX11_stepOn_169 rfl (lv_at hl 1 rfl) ?_
            refine lv_iconst (v := I 0) hx hb dX11_stepOn_170 (by decide) ?_
            refine ok.putJ hO h_a k13_15 (show rng 0 from ⟨by decide, by decide⟩) (by omega) (by omega) (fun _ he hl9 kk => th_put (ci := 11) (v := .int (I 0)) (ty := .int) (C := RX11) (T := TX11) (N := 66) hx hb hts inX11 tyX11 tyX11_ok nmX11 hown hK hH hS h00 he rfl 15 (by decide) fl4 rfl (by decide +kernel) rfl rfl hl9 dX11_stepOn_171 kk) (fun σ_s_134 H locs hO hF9 hM9 hg9 ha9 hH hS => ?_)
            replace hM := hM.tu hM9 (by decide)
            replace hF := hF.tu hF9 (by decide)
            have e_135 : gI σ_s_134 a 11 = a110 := (hM9.i (by decide)).trans e_56
            have e_136 : gI σ_s_134 a 13 = G13q39 := (hM9.i (by decide)).trans e_57
            have e_137 : gI σ_s_134 a 17 = G13q39 := (hM9.i (by decide)).trans e_58
            replace hsr := hsr.mv hM9 (by decide) (by decide) (by decide) (by decide) (by decide)
            have e_138 := hg9
            replace hl : lv_has ls 3 [(0, .ref a)] := lv_sub hl [1] rfl
            refine th_loop (α := Int) (pc := 174) (fun x9 => (gI σ a 11 - x9).toNat) (fun x9 σ9 H9 l9 ls9 => ok y E σ9 ∧ fr [13] E σ σ9 ∧ fm [13, 14, 15, 16, 17, 18] E σ σ9 a ∧ sr E σ9 a Bf ∧ th_H G b0 σ9 H9 ∧ va_S (th_A b0) s.heap H9 l9 ∧ lv_has ls9 3 [(0, .ref a)] ∧ rng x9 ∧ (gI σ a 13 ≤ x9) ∧ (x9 ≤ gI σ a 11) ∧ (0 ≤ G13q39) ∧ (G13q39 ≤ x9) ∧ (gI σ a 13 ≤ G13q39) ∧ (∀ q, G13q39 ≤ q → q < x9 → isDg (Bf q)) ∧ (gI σ9 a 11 = a110) ∧ (gI σ9 a 17 = G13q39) ∧ (gI σ9 a 13 = x9)) ?_ (G13q39) σ_s_134 _ _ _ ⟨hO, hF, hM, hsr, hH, hS, lv_sub hl [0] rfl, rG13q39, by first | (dsimp only; omega) | omega, by first | (dsimp only; omega) | omega, by first | (dsimp only; omega) | omega, by first | (dsimp only; omega) | omega, by first | (dsimp only; omega) | omega, (fun q h1 h2 => absurd h2 (by omega)), e_135, e_137, e_136⟩
            intro x9 σ_J_199 H locs ls hI9 ihJ_199
            obtain ⟨G13q197, ex9⟩ : ∃ z, z = x9 := ⟨_, rfl⟩
            subst ex9
            obtain ⟨hO, hF, hM, hsr, hH, hS, hl, rG13q197, J_199_0, J_199_1, J_199_2, J_199_3, J_199_4, J_199_5, J_199_6, J_199_7, J_199_8⟩ := hI9
            have hl : lv_has ls 3 [(0, .ref a)] := hl
            have rG13q197 : rng G13q197 := rG13q197
            replace J_199_0 : gI σ a 13 ≤ G13q197 := J_199_0
            replace J_199_1 : G13q197 ≤ gI σ a 11 := J_199_1
            replace J_199_2 : 0 ≤ G13q39 := J_199_2
            replace J_199_3 : G13q39 ≤ G13q197 := J_199_3
            replace J_199_4 : gI σ a 13 ≤ G13q39 := J_199_4
            replace J_199_5 : ∀ q, G13q39 ≤ q → q < G13q197 → isDg (Bf q) := J_199_5
            replace J_199_6 : gI σ_J_199 a 11 = a110 := J_199_6
            replace J_199_7 : gI σ_J_199 a 17 = G13q39 := J_199_7
            replace J_199_8 : gI σ_J_199 a 13 = G13q197 := J_199_8
            refine lv_aload_n hx hb dX11_stepOn_174 rfl (lv_at hl 0 rfl) ?_
            refine lv_aload_n hx hb dX11_stepOn_175 rfl (lv_at hl 0 rfl) ?_
            refine ok.getIc hO h_a (by decide) k13_13 J_199_8 (fun _ _ he hv kk => th_get (ci := 11) (C := RX11) (T := TX11) (N := 66) hx hb hts inX11 hown hK hH he rfl 13 (by decide) fl0 hv dX11_stepOn_176 kk) ?_
            obtain ⟨_, hc_200⟩ := hO.cell h_a (by decide) (ci := 11) rfl
            refine th_calli (va_runV (As := [.int (I G13q197)]) (rest := []) ⟨hx, hb, hml, hown, hts⟩ (m_byteAt l G y b0 σ_J_199 E hO a h_a G13q197 (show rng G13q197 from rG13q197) (by omega) (by omega) Bf hsr) (cwV 1 hts gX11_stepOn_X11_byteAt rfl rfl rfl (by decide +kernel) ⟨Nat.le_of_ble_eq_true rfl, Nat.le_of_ble_eq_true rfl⟩) (th_PV hK hH rfl hc_200) rfl rfl hl.1 rfl (lv_room (Nat.le_of_ble_eq_true rfl)) dX11_stepOn_179 ⟨Nat.le_of_ble_eq_true rfl, Nat.le_of_ble_eq_true rfl⟩) hS (fun z_203 σ_s_202 H locs rz_203 hw_201 hH hS => ?_)
            obtain ⟨e9, hw_201⟩ := hw_201
            replace e9 := e9.symm
            subst e9
            replace hw_201 : z_203 = Bf G13q197 ∧ (z_203 = -1 ∨ G13q197 < gI σ_J_199 a 11) := hw_201
            refine th_calli (va_runS (As := [.int (I z_203)]) (rest := []) ⟨hx, hb, hml, hown, hts⟩ (w_isDigit l G y b0 σ_J_199 E hO z_203 (show rng z_203 from rz_203)) (va_cwS 1 hts gX11_stepOn_X11_isDigit rfl rfl rfl (by decide +kernel) ⟨Nat.le_of_ble_eq_true rfl, Nat.le_of_ble_eq_true rfl⟩) (th_PS hK hH) rfl rfl hl.1 rfl (lv_room (Nat.le_of_ble_eq_true rfl)) dX11_stepOn_182 ⟨Nat.le_of_ble_eq_true rfl, Nat.le_of_ble_eq_true rfl⟩) hS (fun z_206 σ_s_205 H locs rz_206 hw_204 hH hS => ?_)
            obtain ⟨e9, bhw_204, hw_204⟩ := hw_204
            replace e9 := e9.symm
            subst e9
            replace hw_204 : (z_206 = 1 ∧ 48 ≤ z_203 ∧ z_203 ≤ 57) ∨ (z_206 = 0 ∧ ¬ (48 ≤ z_203 ∧ z_203 ≤ 57)) := hw_204
            refine lv_if_eq (tgt := 229) hx hb dX11_stepOn_185 (by decide) (fun c_207 => ?_) (fun c_207 => ?_)
            · replace c_207 := (I_eq (a := z_206) (b := 0) rz_206 (show rng 0 from ⟨by decide, by decide⟩)).mp c_207
              have hne9 : G13q197 ≠ G13q39 := fun e9 => by rw [e9] at hw_201; omega
              refine lv_aload_n hx hb dX11_stepOn_229 rfl (lv_at hl 0 rfl) ?_
              refine lv_iconst (v := I 2) hx hb dX11_stepOn_230 (by decide) ?_
              refine ok.putJ hO h_a k13_14 (show rng 2 from ⟨by decide, by decide⟩) (by omega) (by omega) (fun _ he hl9 kk => th_put (ci := 11) (v := .int (I 2)) (ty := .int) (C := RX11) (T := TX11) (N := 66) hx hb hts inX11 tyX11 tyX11_ok nmX11 hown hK hH hS h00 he rfl 14 (by decide) fl2 rfl (by decide +kernel) rfl rfl hl9 dX11_stepOn_231 kk) (fun σ_s_208 H locs hO hF9 hM9 hg9 ha9 hH hS => ?_)
              replace hM := hM.tu hM9 (by decide)
              replace hF := hF.tu hF9 (by decide)
              have e_209 : gI σ_s_208 a 11 = a110 := (hM9.i (by decide)).trans J_199_6
              have e_210 : gI σ_s_208 a 17 = G13q39 := (hM9.i (by decide)).trans J_199_7
              have e_211 : gI σ_s_208 a 13 = G13q197 := (hM9.i (by decide)).trans J_199_8
              replace hsr := hsr.mv hM9 (by decide) (by decide) (by decide) (by decide) (by decide)
              have e_212 := hg9
              refine lv_goto (tgt := 295) hx hb dX11_stepOn_234 (by decide) ?_
              refine lv_aload_n hx hb dX11_stepOn_295 rfl (lv_at hl 0 rfl) ?_
              refine lv_aload_n hx hb dX11_stepOn_296 rfl (lv_at hl 0 rfl) ?_
              refine ok.getIc hO h_a (by decide) k13_13 e_211 (fun _ _ he hv kk => th_get (ci := 11) (C := RX11) (T := TX11) (N := 66) hx hb hts inX11 hown hK hH he rfl 13 (by decide) fl0 hv dX11_stepOn_297 kk) ?_
              refine ok.putJ hO h_a k13_18 rG13q197 (by omega) (by omega) (fun _ he hl9 kk => th_put (ci := 11) (v := .int (I G13q197)) (ty := .int) (C := RX11) (T := TX11) (N := 66) hx hb hts inX11 tyX11 tyX11_ok nmX11 hown hK hH hS h00 he rfl 18 (by decide) fl3 rfl (by decide +kernel) rfl rfl hl9 dX11_stepOn_300 kk) (fun σ_s_213 H locs hO hF9 hM9 hg9 ha9 hH hS => ?_)
              replace hM := hM.tu hM9 (by decide)
              replace hF := hF.tu hF9 (by decide)
              have e_214 : gI σ_s_213 a 11 = a110 := (hM9.i (by decide)).trans e_209
              have e_215 : gI σ_s_213 a 17 = G13q39 := (hM9.i (by decide)).trans e_210
              have e_216 : gI σ_s_213 a 13 = G13q197 := (hM9.i (by decide)).trans e_211
              have e_217 : gI σ_s_213 a 14 = 2 := (hM9.i (by decide)).trans e_212
              replace hsr := hsr.mv hM9 (by decide) (by decide) (by decide) (by decide) (by decide)
              have e_218 := hg9
              exact th_vret hx hb hr hlocks hH hS ⟨hO, hF, hM, ⟨⟨by omega, by omega, by omega, by omega, by omega⟩, ⟨257, 0, by rw [show gI σ_s_213 a 17 = G13q39 by omega, show gI σ_s_213 a 13 = G13q39 + (G13q197 - G13q39) by omega]; exact Tok.digits (by omega) (fun q h1 h2 => J_41_2 q h1 (by omega)) (run_gt (P := isDg) (B := Bf) (by have h9 := hw_60.1; unfold isDg; omega) (by omega) (by have h9 := hw_201.1; unfold isDg; omega)) J_199_5 (by have h9 := hw_201.1; unfold isDg; omega), by unfold rk; omega, by omega, fun h9 => absurd h9 (by omega)⟩⟩⟩ dX11_stepOn_303
            · replace c_207 := mt (I_eq (a := z_206) (b := 0) rz_206 (show rng 0 from ⟨by decide, by decide⟩)).mpr c_207
              refine lv_aload_n hx hb dX11_stepOn_188 rfl (lv_at hl 0 rfl) ?_
              refine lv_ldc (v := I 100000) hx hb hown fl5 dX11_stepOn_189 ?_
              refine lv_bipush (v := I 10) hx hb dX11_stepOn_191 (by decide) ?_
              refine lv_aload_n hx hb dX11_stepOn_193 rfl (lv_at hl 0 rfl) ?_
              refine ok.getI hO h_a (by decide) k13_15 (fun _ _ he hv kk => th_get (ci := 11) (C := RX11) (T := TX11) (N := 66) hx hb hts inX11 hown hK hH he rfl 15 (by decide) fl4 hv dX11_stepOn_194 kk) (fun z_219 e_220 rz_219 lz_219 uz_219 => ?_)
              refine lv_imul hx hb dX11_stepOn_197 ?_
              refine nq_top (I_mul _ _) ?_
              refine lv_aload_n hx hb dX11_stepOn_198 rfl (lv_at hl 0 rfl) ?_
              refine lv_aload_n hx hb dX11_stepOn_199 rfl (lv_at hl 0 rfl) ?_
              refine ok.getIc hO h_a (by decide) k13_13 J_199_8 (fun _ _ he hv kk => th_get (ci := 11) (C := RX11) (T := TX11) (N := 66) hx hb hts inX11 hown hK hH he rfl 13 (by decide) fl0 hv dX11_stepOn_200 kk) ?_
              obtain ⟨_, hc_221⟩ := hO.cell h_a (by decide) (ci := 11) rfl
              refine th_calli (va_runV (As := [.int (I G13q197)]) (rest := [.int (I (10 * z_219)), .int (I 100000), .ref a]) ⟨hx, hb, hml, hown, hts⟩ (m_byteAt l G y b0 σ_J_199 E hO a h_a G13q197 (show rng G13q197 from rG13q197) (by omega) (by omega) Bf hsr) (cwV 1 hts gX11_stepOn_X11_byteAt rfl rfl rfl (by decide +kernel) ⟨Nat.le_of_ble_eq_true rfl, Nat.le_of_ble_eq_true rfl⟩) (th_PV hK hH rfl hc_221) rfl rfl hl.1 rfl (lv_room (Nat.le_of_ble_eq_true rfl)) dX11_stepOn_203 ⟨Nat.le_of_ble_eq_true rfl, Nat.le_of_ble_eq_true rfl⟩) hS (fun z_224 σ_s_223 H locs rz_224 hw_222 hH hS => ?_)
              obtain ⟨e9, hw_222⟩ := hw_222
              replace e9 := e9.symm
              subst e9
              replace hw_222 : z_224 = Bf G13q197 ∧ (z_224 = -1 ∨ G13q197 < gI σ_J_199 a 11) := hw_222
              refine lv_iadd hx hb dX11_stepOn_206 ?_
              refine th_addo (fun z_225 rz_225 hz_225 => ?_)
              refine lv_bipush (v := I 48) hx hb dX11_stepOn_207 (by decide) ?_
              refine lv_isub hx hb dX11_stepOn_209 ?_
              refine th_subo (fun z_226 rz_226 hz_226 => ?_)
              refine va_mmin hx hb (by rw [hml]; exact hl.1.symm) hown fl6 fl7 fl8 fl9 (Nat.le_of_ble_eq_true rfl) (Nat.le_of_ble_eq_true rfl) (Nat.zero_le _) (Nat.zero_le _) dX11_stepOn_210 ?_
              refine th_mmin (show rng 100000 from ⟨by decide, by decide⟩) rz_226 (fun z_227 rz_227 hz_227 => ?_)
              refine ok.putJ hO h_a k13_15 rz_227 (by omega) (by omega) (fun _ he hl9 kk => th_put (ci := 11) (v := .int (I z_227)) (ty := .int) (C := RX11) (T := TX11) (N := 66) hx hb hts inX11 tyX11 tyX11_ok nmX11 hown hK hH hS h00 he rfl 15 (by decide) fl4 rfl (by decide +kernel) rfl rfl hl9 dX11_stepOn_213 kk) (fun σ_s_228 H locs hO hF9 hM9 hg9 ha9 hH hS => ?_)
              replace hM := hM.tu hM9 (by decide)
              replace hF := hF.tu hF9 (by decide)
              have e_229 : gI σ_s_228 a 11 = a110 := (hM9.i (by decide)).trans J_199_6
              have e_230 : gI σ_s_228 a 17 = G13q39 := (hM9.i (by decide)).trans J_199_7
              have e_231 : gI σ_s_228 a 13 = G13q197 := (hM9.i (by decide)).trans J_199_8
              replace hsr := hsr.mv hM9 (by decide) (by decide) (by decide) (by decide) (by decide)
              have e_232 := hg9
              refine lv_aload_n hx hb dX11_stepOn_216 rfl (lv_at hl 0 rfl) ?_
              refine lv_dup hx hb dX11_stepOn_217 rfl ?_
              refine ok.getIc hO h_a (by decide) k13_13 e_231 (fun _ _ he hv kk => th_get (ci := 11) (C := RX11) (T := TX11) (N := 66) hx hb hts inX11 hown hK hH he rfl 13 (by decide) fl0 hv dX11_stepOn_218 kk) ?_
              refine lv_iconst (v := I 1) hx hb dX11_stepOn_221 (by decide) ?_
              refine lv_iadd hx hb dX11_stepOn_222 ?_
              refine nq_top (I_add _ _) ?_
              refine ok.putJ hO h_a k13_13 ⟨by omega, by omega⟩ (by omega) (by omega) (fun _ he hl9 kk => th_put (ci := 11) (v := .int (I (G13q197 + 1))) (ty := .int) (C := RX11) (T := TX11) (N := 66) hx hb hts inX11 tyX11 tyX11_ok nmX11 hown hK hH hS h00 he rfl 13 (by decide) fl0 rfl (by decide +kernel) rfl rfl hl9 dX11_stepOn_223 kk) (fun σ_s_233 H locs hO hF9 hM9 hg9 ha9 hH hS => ?_)
              replace hM := hM.tu hM9 (by decide)
              replace hF := hF.tu hF9 (by decide)
              have e_234 : gI σ_s_233 a 11 = a110 := (hM9.i (by decide)).trans e_229
              have e_235 : gI σ_s_233 a 17 = G13q39 := (hM9.i (by decide)).trans e_230
              have e_236 : gI σ_s_233 a 15 = z_227 := (hM9.i (by decide)).trans e_232
              replace hsr := hsr.mv hM9 (by decide) (by decide) (by decide) (by decide) (by decide)
              have e_237 := hg9
              refine lv_goto (tgt := 174) hx hb dX11_stepOn_226 (by decide) ?_
              exact ihJ_199 (G13q197 + 1) σ_s_233 _ _ _ (by first | (dsimp only; omega) | omega) ⟨hO, hF, hM, hsr, hH, hS, lv_sub hl [0] rfl, ⟨by first | (dsimp only; omega) | omega, by first | (dsimp only; omega) | omega⟩, by first | (dsimp only; omega) | omega, by first | (dsimp only; omega) | omega, by first | (dsimp only; omega) | omega, by first | (dsimp only; omega) | omega, by first | (dsimp only; omega) | omega, (fun q h1 h2 => by
                by_cases e9 : q = G13q197
                · rw [e9]; have h9 := hw_201.1; unfold isDg; omega
                · exact J_199_5 q h1 (by first | omega | (dsimp only at h2; omega))), e_234, e_235, e_237⟩
        · replace c_67 := mt (I_eq (a := z_66) (b := 0) rz_66 (show rng 0 from ⟨by decide, by decide⟩)).mpr c_67
          refine lv_aload_n hx hb dX11_stepOn_76 rfl (lv_at hl 1 rfl) ?_
          refine lv_iconst (v := I 0) hx hb dX11_stepOn_77 (by decide) ?_
          refine ok.putJ hO h_a k13_16 (show rng 0 from ⟨by decide, by decide⟩) (by omega) (by omega) (fun _ he hl9 kk => th_put (ci := 11) (v := .int (I 0)) (ty := .int) (C := RX11) (T := TX11) (N := 66) hx hb hts inX11 tyX11 tyX11_ok nmX11 hown hK hH hS h00 he rfl 16 (by decide) fl10 rfl (by decide +kernel) rfl rfl hl9 dX11_stepOn_78 kk) (fun σ_s_238 H locs hO hF9 hM9 hg9 ha9 hH hS => ?_)
          replace hM := hM.tu hM9 (by decide)
          replace hF := hF.tu hF9 (by decide)
          have e_239 : gI σ_s_238 a 11 = a110 := (hM9.i (by decide)).trans e_56
          have e_240 : gI σ_s_238 a 13 = G13q39 := (hM9.i (by decide)).trans e_57
          have e_241 : gI σ_s_238 a 17 = G13q39 := (hM9.i (by decide)).trans e_58
          replace hsr := hsr.mv hM9 (by decide) (by decide) (by decide) (by decide) (by decide)
          have e_242 := hg9
          replace hl : lv_has ls 3 [(0, .ref a)] := lv_sub hl [1] rfl
          refine th_loop (α := Int × Int) (pc := 81) (fun x9 => (gI σ a 11 - x9.1).toNat) (fun x9 σ9 H9 l9 ls9 => ok y E σ9 ∧ fr [13] E σ σ9 ∧ fm [13, 14, 15, 16, 17, 18] E σ σ9 a ∧ sr E σ9 a Bf ∧ th_H G b0 σ9 H9 ∧ va_S (th_A b0) s.heap H9 l9 ∧ lv_has ls9 3 [(0, .ref a)] ∧ rng x9.1 ∧ rng x9.2 ∧ (gI σ a 13 ≤ x9.1) ∧ (x9.1 ≤ gI σ a 11) ∧ (0 ≤ G13q39) ∧ (G13q39 ≤ x9.1) ∧ (gI σ a 13 ≤ G13q39) ∧ (∀ q, G13q39 ≤ q → q < x9.1 → isLt (Bf q)) ∧ (x9.1 - G13q39 ≤ 6 → x9.2 = wv Bf G13q39 (x9.1 - G13q39).toNat) ∧ (gI σ9 a 11 = a110) ∧ (gI σ9 a 17 = G13q39) ∧ (gI σ9 a 13 = x9.1) ∧ (gI σ9 a 16 = x9.2)) ?_ (G13q39, 0) σ_s_238 _ _ _ ⟨hO, hF, hM, hsr, hH, hS, lv_sub hl [0] rfl, rG13q39, (show rng 0 from ⟨by decide, by decide⟩), by first | (dsimp only; omega) | omega, by first | (dsimp only; omega) | omega, by first | (dsimp only; omega) | omega, by first | (dsimp only; omega) | omega, by first | (dsimp only; omega) | omega, (fun q h1 h2 => absurd h2 (by omega)), (fun h9 => by rw [show (G13q39 - G13q39).toNat = 0 by omega]; show _ = (0 : Int); omega), e_239, e_241, e_240, e_242⟩
          intro x9 σ_J_326 H locs ls hI9 ihJ_326
          obtain ⟨G13q323, G16q324⟩ := x9
          obtain ⟨hO, hF, hM, hsr, hH, hS, hl, rG13q323, rG16q324, J_326_0, J_326_1, J_326_2, J_326_3, J_326_4, J_326_5, J_326_6, J_326_7, J_326_8, J_326_9, J_326_10⟩ := hI9
          have hl : lv_has ls 3 [(0, .ref a)] := hl
          have rG13q323 : rng G13q323 := rG13q323
          have rG16q324 : rng G16q324 := rG16q324
          replace J_326_0 : gI σ a 13 ≤ G13q323 := J_326_0
          replace J_326_1 : G13q323 ≤ gI σ a 11 := J_326_1
          replace J_326_2 : 0 ≤ G13q39 := J_326_2
          replace J_326_3 : G13q39 ≤ G13q323 := J_326_3
          replace J_326_4 : gI σ a 13 ≤ G13q39 := J_326_4
          replace J_326_5 : ∀ q, G13q39 ≤ q → q < G13q323 → isLt (Bf q) := J_326_5
          replace J_326_6 : G13q323 - G13q39 ≤ 6 → G16q324 = wv Bf G13q39 (G13q323 - G13q39).toNat := J_326_6
          replace J_326_7 : gI σ_J_326 a 11 = a110 := J_326_7
          replace J_326_8 : gI σ_J_326 a 17 = G13q39 := J_326_8
          replace J_326_9 : gI σ_J_326 a 13 = G13q323 := J_326_9
          replace J_326_10 : gI σ_J_326 a 16 = G16q324 := J_326_10
          refine lv_aload_n hx hb dX11_stepOn_81 rfl (lv_at hl 0 rfl) ?_
          refine lv_aload_n hx hb dX11_stepOn_82 rfl (lv_at hl 0 rfl) ?_
          refine ok.getIc hO h_a (by decide) k13_13 J_326_9 (fun _ _ he hv kk => th_get (ci := 11) (C := RX11) (T := TX11) (N := 66) hx hb hts inX11 hown hK hH he rfl 13 (by decide) fl0 hv dX11_stepOn_83 kk) ?_
          obtain ⟨_, hc_327⟩ := hO.cell h_a (by decide) (ci := 11) rfl
          refine th_calli (va_runV (As := [.int (I G13q323)]) (rest := []) ⟨hx, hb, hml, hown, hts⟩ (m_byteAt l G y b0 σ_J_326 E hO a h_a G13q323 (show rng G13q323 from rG13q323) (by omega) (by omega) Bf hsr) (cwV 1 hts gX11_stepOn_X11_byteAt rfl rfl rfl (by decide +kernel) ⟨Nat.le_of_ble_eq_true rfl, Nat.le_of_ble_eq_true rfl⟩) (th_PV hK hH rfl hc_327) rfl rfl hl.1 rfl (lv_room (Nat.le_of_ble_eq_true rfl)) dX11_stepOn_86 ⟨Nat.le_of_ble_eq_true rfl, Nat.le_of_ble_eq_true rfl⟩) hS (fun z_330 σ_s_329 H locs rz_330 hw_328 hH hS => ?_)
          obtain ⟨e9, hw_328⟩ := hw_328
          replace e9 := e9.symm
          subst e9
          replace hw_328 : z_330 = Bf G13q323 ∧ (z_330 = -1 ∨ G13q323 < gI σ_J_326 a 11) := hw_328
          refine th_calli (va_runS (As := [.int (I z_330)]) (rest := []) ⟨hx, hb, hml, hown, hts⟩ (w_isLetter l G y b0 σ_J_326 E hO z_330 (show rng z_330 from rz_330)) (va_cwS 1 hts gX11_stepOn_X11_isLetter rfl rfl rfl (by decide +kernel) ⟨Nat.le_of_ble_eq_true rfl, Nat.le_of_ble_eq_true rfl⟩) (th_PS hK hH) rfl rfl hl.1 rfl (lv_room (Nat.le_of_ble_eq_true rfl)) dX11_stepOn_89 ⟨Nat.le_of_ble_eq_true rfl, Nat.le_of_ble_eq_true rfl⟩) hS (fun z_333 σ_s_332 H locs rz_333 hw_331 hH hS => ?_)
          obtain ⟨e9, bhw_331, hw_331⟩ := hw_331
          replace e9 := e9.symm
          subst e9
          replace hw_331 : (z_333 = 1 ∧ 97 ≤ z_330 ∧ z_330 ≤ 122) ∨ (z_333 = 0 ∧ ¬ (97 ≤ z_330 ∧ z_330 ≤ 122)) := hw_331
          refine lv_if_eq (tgt := 154) hx hb dX11_stepOn_92 (by decide) (fun c_334 => ?_) (fun c_334 => ?_)
          · replace c_334 := (I_eq (a := z_333) (b := 0) rz_333 (show rng 0 from ⟨by decide, by decide⟩)).mp c_334
            have hne9 : G13q323 ≠ G13q39 := fun e9 => by rw [e9] at hw_328; omega
            refine lv_aload_n hx hb dX11_stepOn_154 rfl (lv_at hl 0 rfl) ?_
            refine lv_iconst (v := I 1) hx hb dX11_stepOn_155 (by decide) ?_
            refine ok.putJ hO h_a k13_14 (show rng 1 from ⟨by decide, by decide⟩) (by omega) (by omega) (fun _ he hl9 kk => th_put (ci := 11) (v := .int (I 1)) (ty := .int) (C := RX11) (T := TX11) (N := 66) hx hb hts inX11 tyX11 tyX11_ok nmX11 hown hK hH hS h00 he rfl 14 (by decide) fl2 rfl (by decide +kernel) rfl rfl hl9 dX11_stepOn_156 kk) (fun σ_s_335 H locs hO hF9 hM9 hg9 ha9 hH hS => ?_)
            replace hM := hM.tu hM9 (by decide)
            replace hF := hF.tu hF9 (by decide)
            have e_336 : gI σ_s_335 a 11 = a110 := (hM9.i (by decide)).trans J_326_7
            have e_337 : gI σ_s_335 a 17 = G13q39 := (hM9.i (by decide)).trans J_326_8
            have e_338 : gI σ_s_335 a 13 = G13q323 := (hM9.i (by decide)).trans J_326_9
            have e_339 : gI σ_s_335 a 16 = G16q324 := (hM9.i (by decide)).trans J_326_10
            replace hsr := hsr.mv hM9 (by decide) (by decide) (by decide) (by decide) (by decide)
            have e_340 := hg9
            refine lv_goto (tgt := 295) hx hb dX11_stepOn_159 (by decide) ?_
            refine lv_aload_n hx hb dX11_stepOn_295 rfl (lv_at hl 0 rfl) ?_
            refine lv_aload_n hx hb dX11_stepOn_296 rfl (lv_at hl 0 rfl) ?_
            refine ok.getIc hO h_a (by decide) k13_13 e_338 (fun _ _ he hv kk => th_get (ci := 11) (C := RX11) (T := TX11) (N := 66) hx hb hts inX11 hown hK hH he rfl 13 (by decide) fl0 hv dX11_stepOn_297 kk) ?_
            refine ok.putJ hO h_a k13_18 rG13q323 (by omega) (by omega) (fun _ he hl9 kk => th_put (ci := 11) (v := .int (I G13q323)) (ty := .int) (C := RX11) (T := TX11) (N := 66) hx hb hts inX11 tyX11 tyX11_ok nmX11 hown hK hH hS h00 he rfl 18 (by decide) fl3 rfl (by decide +kernel) rfl rfl hl9 dX11_stepOn_300 kk) (fun σ_s_341 H locs hO hF9 hM9 hg9 ha9 hH hS => ?_)
            replace hM := hM.tu hM9 (by decide)
            replace hF := hF.tu hF9 (by decide)
            have e_342 : gI σ_s_341 a 11 = a110 := (hM9.i (by decide)).trans e_336
            have e_343 : gI σ_s_341 a 17 = G13q39 := (hM9.i (by decide)).trans e_337
            have e_344 : gI σ_s_341 a 13 = G13q323 := (hM9.i (by decide)).trans e_338
            have e_345 : gI σ_s_341 a 16 = G16q324 := (hM9.i (by decide)).trans e_339
            have e_346 : gI σ_s_341 a 14 = 1 := (hM9.i (by decide)).trans e_340
            replace hsr := hsr.mv hM9 (by decide) (by decide) (by decide) (by decide) (by decide)
            have e_347 := hg9
            exact th_vret hx hb hr hlocks hH hS ⟨hO, hF, hM, ⟨⟨by omega, by omega, by omega, by omega, by omega⟩, ⟨256, G16q324, by rw [show gI σ_s_341 a 17 = G13q39 by omega, show gI σ_s_341 a 13 = G13q39 + (G13q323 - G13q39) by omega]; exact Tok.word (by omega) (fun q h1 h2 => J_41_2 q h1 (by omega)) (run_gt (P := isLt) (B := Bf) (by have h9 := hw_60.1; unfold isLt; omega) (by omega) (by have h9 := hw_328.1; unfold isLt; omega)) J_326_5 (by have h9 := hw_328.1; unfold isLt; omega) J_326_6, by unfold rk; omega, by omega, fun _ _ => by omega⟩⟩⟩ dX11_stepOn_303
          · replace c_334 := mt (I_eq (a := z_333) (b := 0) rz_333 (show rng 0 from ⟨by decide, by decide⟩)).mpr c_334
            refine lv_aload_n hx hb dX11_stepOn_95 rfl (lv_at hl 0 rfl) ?_
            refine lv_aload_n hx hb dX11_stepOn_96 rfl (lv_at hl 0 rfl) ?_
            refine ok.getIc hO h_a (by decide) k13_13 J_326_9 (fun _ _ he hv kk => th_get (ci := 11) (C := RX11) (T := TX11) (N := 66) hx hb hts inX11 hown hK hH he rfl 13 (by decide) fl0 hv dX11_stepOn_97 kk) ?_
            refine lv_aload_n hx hb dX11_stepOn_100 rfl (lv_at hl 0 rfl) ?_
            refine ok.getIc hO h_a (by decide) k13_17 J_326_8 (fun _ _ he hv kk => th_get (ci := 11) (C := RX11) (T := TX11) (N := 66) hx hb hts inX11 hown hK hH he rfl 17 (by decide) fl1 hv dX11_stepOn_101 kk) ?_
            refine lv_isub hx hb dX11_stepOn_104 ?_
            refine nq_top (I_sub _ _) ?_
            refine lv_bipush (v := I 6) hx hb dX11_stepOn_105 (by decide) ?_
            refine lv_icmp_ge (tgt := 134) hx hb dX11_stepOn_107 (by decide) (fun c_348 => ?_) (fun c_348 => ?_)
            · replace c_348 := (I_le (a := 6) (b := G13q323 - G13q39) (show rng 6 from ⟨by decide, by decide⟩) ⟨by omega, by omega⟩).mp c_348
              refine lv_aload_n hx hb dX11_stepOn_134 rfl (lv_at hl 0 rfl) ?_
              refine ok.getIc hO h_a (by decide) k13_16 J_326_10 (fun _ _ he hv kk => th_get (ci := 11) (C := RX11) (T := TX11) (N := 66) hx hb hts inX11 hown hK hH he rfl 16 (by decide) fl10 hv dX11_stepOn_135 kk) ?_
              refine ok.putJ hO h_a k13_16 rG16q324 (by omega) (by omega) (fun _ he hl9 kk => th_put (ci := 11) (v := .int (I G16q324)) (ty := .int) (C := RX11) (T := TX11) (N := 66) hx hb hts inX11 tyX11 tyX11_ok nmX11 hown hK hH hS h00 he rfl 16 (by decide) fl10 rfl (by decide +kernel) rfl rfl hl9 dX11_stepOn_138 kk) (fun σ_s_349 H locs hO hF9 hM9 hg9 ha9 hH hS => ?_)
              replace hM := hM.tu hM9 (by decide)
              replace hF := hF.tu hF9 (by decide)
              have e_350 : gI σ_s_349 a 11 = a110 := (hM9.i (by decide)).trans J_326_7
              have e_351 : gI σ_s_349 a 17 = G13q39 := (hM9.i (by decide)).trans J_326_8
              have e_352 : gI σ_s_349 a 13 = G13q323 := (hM9.i (by decide)).trans J_326_9
              replace hsr := hsr.mv hM9 (by decide) (by decide) (by decide) (by decide) (by decide)
              have e_353 := hg9
              refine lv_aload_n hx hb dX11_stepOn_141 rfl (lv_at hl 0 rfl) ?_
              refine lv_dup hx hb dX11_stepOn_142 rfl ?_
              refine ok.getIc hO h_a (by decide) k13_13 e_352 (fun _ _ he hv kk => th_get (ci := 11) (C := RX11) (T := TX11) (N := 66) hx hb hts inX11 hown hK hH he rfl 13 (by decide) fl0 hv dX11_stepOn_143 kk) ?_
              refine lv_iconst (v := I 1) hx hb dX11_stepOn_146 (by decide) ?_
              refine lv_iadd hx hb dX11_stepOn_147 ?_
              refine nq_top (I_add _ _) ?_
              refine ok.putJ hO h_a k13_13 ⟨by omega, by omega⟩ (by omega) (by omega) (fun _ he hl9 kk => th_put (ci := 11) (v := .int (I (G13q323 + 1))) (ty := .int) (C := RX11) (T := TX11) (N := 66) hx hb hts inX11 tyX11 tyX11_ok nmX11 hown hK hH hS h00 he rfl 13 (by decide) fl0 rfl (by decide +kernel) rfl rfl hl9 dX11_stepOn_148 kk) (fun σ_s_354 H locs hO hF9 hM9 hg9 ha9 hH hS => ?_)
              replace hM := hM.tu hM9 (by decide)
              replace hF := hF.tu hF9 (by decide)
              have e_355 : gI σ_s_354 a 11 = a110 := (hM9.i (by decide)).trans e_350
              have e_356 : gI σ_s_354 a 17 = G13q39 := (hM9.i (by decide)).trans e_351
              have e_357 : gI σ_s_354 a 16 = G16q324 := (hM9.i (by decide)).trans e_353
              replace hsr := hsr.mv hM9 (by decide) (by decide) (by decide) (by decide) (by decide)
              have e_358 := hg9
              refine lv_goto (tgt := 81) hx hb dX11_stepOn_151 (by decide) ?_
              exact ihJ_326 (G13q323 + 1, G16q324) σ_s_354 _ _ _ (by first | (dsimp only; omega) | omega) ⟨hO, hF, hM, hsr, hH, hS, lv_sub hl [0] rfl, ⟨by first | (dsimp only; omega) | omega, by first | (dsimp only; omega) | omega⟩, rG16q324, by first | (dsimp only; omega) | omega, by first | (dsimp only; omega) | omega, by first | (dsimp only; omega) | omega, by first | (dsimp only; omega) | omega, by first | (dsimp only; omega) | omega, (fun q h1 h2 => by
                by_cases e9 : q = G13q323
                · rw [e9]; have h9 := hw_328.1; unfold isLt; omega
                · exact J_326_5 q h1 (by first | omega | (dsimp only at h2; omega))), (fun h9 => absurd h9 (by first | (dsimp only; omega) | omega)), e_355, e_356, e_358, e_357⟩
            · replace c_348 := mt (I_le (a := 6) (b := G13q323 - G13q39) (show rng 6 from ⟨by decide, by decide⟩) ⟨by omega, by omega⟩).mpr c_348
              have hwb_359 := wv_bw (B := Bf) J_326_5 J_326_6 (by omega)
              refine lv_bipush (v := I 32) hx hb dX11_stepOn_110 (by decide) ?_
              refine lv_aload_n hx hb dX11_stepOn_112 rfl (lv_at hl 0 rfl) ?_
              refine ok.getIc hO h_a (by decide) k13_16 J_326_10 (fun _ _ he hv kk => th_get (ci := 11) (C := RX11) (T := TX11) (N := 66) hx hb hts inX11 hown hK hH he rfl 16 (by decide) fl10 hv dX11_stepOn_113 kk) ?_
              refine lv_imul hx hb dX11_stepOn_116 ?_
              refine nq_top (I_mul _ _) ?_
              refine lv_aload_n hx hb dX11_stepOn_117 rfl (lv_at hl 0 rfl) ?_
              refine lv_aload_n hx hb dX11_stepOn_118 rfl (lv_at hl 0 rfl) ?_
              refine ok.getIc hO h_a (by decide) k13_13 J_326_9 (fun _ _ he hv kk => th_get (ci := 11) (C := RX11) (T := TX11) (N := 66) hx hb hts inX11 hown hK hH he rfl 13 (by decide) fl0 hv dX11_stepOn_119 kk) ?_
              obtain ⟨_, hc_360⟩ := hO.cell h_a (by decide) (ci := 11) rfl
              refine th_calli (va_runV (As := [.int (I G13q323)]) (rest := [.int (I (32 * G16q324)), .ref a]) ⟨hx, hb, hml, hown, hts⟩ (m_byteAt l G y b0 σ_J_326 E hO a h_a G13q323 (show rng G13q323 from rG13q323) (by omega) (by omega) Bf hsr) (cwV 1 hts gX11_stepOn_X11_byteAt rfl rfl rfl (by decide +kernel) ⟨Nat.le_of_ble_eq_true rfl, Nat.le_of_ble_eq_true rfl⟩) (th_PV hK hH rfl hc_360) rfl rfl hl.1 rfl (lv_room (Nat.le_of_ble_eq_true rfl)) dX11_stepOn_122 ⟨Nat.le_of_ble_eq_true rfl, Nat.le_of_ble_eq_true rfl⟩) hS (fun z_363 σ_s_362 H locs rz_363 hw_361 hH hS => ?_)
              obtain ⟨e9, hw_361⟩ := hw_361
              replace e9 := e9.symm
              subst e9
              replace hw_361 : z_363 = Bf G13q323 ∧ (z_363 = -1 ∨ G13q323 < gI σ_J_326 a 11) := hw_361
              refine lv_iadd hx hb dX11_stepOn_125 ?_
              refine nq_top (I_add _ _) ?_
              refine lv_bipush (v := I 97) hx hb dX11_stepOn_126 (by decide) ?_
              refine lv_isub hx hb dX11_stepOn_128 ?_
              refine nq_top (I_sub _ _) ?_
              refine lv_iconst (v := I 1) hx hb dX11_stepOn_129 (by decide) ?_
              refine lv_iadd hx hb dX11_stepOn_130 ?_
              refine nq_top (I_add _ _) ?_
              refine lv_goto (tgt := 138) hx hb dX11_stepOn_131 (by decide) ?_
              refine ok.putJ hO h_a k13_16 ⟨by omega, by omega⟩ (by omega) (by omega) (fun _ he hl9 kk => th_put (ci := 11) (v := .int (I (32 * G16q324 + z_363 - 97 + 1))) (ty := .int) (C := RX11) (T := TX11) (N := 66) hx hb hts inX11 tyX11 tyX11_ok nmX11 hown hK hH hS h00 he rfl 16 (by decide) fl10 rfl (by decide +kernel) rfl rfl hl9 dX11_stepOn_138 kk) (fun σ_s_364 H locs hO hF9 hM9 hg9 ha9 hH hS => ?_)
              replace hM := hM.tu hM9 (by decide)
              replace hF := hF.tu hF9 (by decide)
              have e_365 : gI σ_s_364 a 11 = a110 := (hM9.i (by decide)).trans J_326_7
              have e_366 : gI σ_s_364 a 17 = G13q39 := (hM9.i (by decide)).trans J_326_8
              have e_367 : gI σ_s_364 a 13 = G13q323 := (hM9.i (by decide)).trans J_326_9
              replace hsr := hsr.mv hM9 (by decide) (by decide) (by decide) (by decide) (by decide)
              have e_368 := hg9
              refine lv_aload_n hx hb dX11_stepOn_141 rfl (lv_at hl 0 rfl) ?_
              refine lv_dup hx hb dX11_stepOn_142 rfl ?_
              refine ok.getIc hO h_a (by decide) k13_13 e_367 (fun _ _ he hv kk => th_get (ci := 11) (C := RX11) (T := TX11) (N := 66) hx hb hts inX11 hown hK hH he rfl 13 (by decide) fl0 hv dX11_stepOn_143 kk) ?_
              refine lv_iconst (v := I 1) hx hb dX11_stepOn_146 (by decide) ?_
              refine lv_iadd hx hb dX11_stepOn_147 ?_
              refine nq_top (I_add _ _) ?_
              refine ok.putJ hO h_a k13_13 ⟨by omega, by omega⟩ (by omega) (by omega) (fun _ he hl9 kk => th_put (ci := 11) (v := .int (I (G13q323 + 1))) (ty := .int) (C := RX11) (T := TX11) (N := 66) hx hb hts inX11 tyX11 tyX11_ok nmX11 hown hK hH hS h00 he rfl 13 (by decide) fl0 rfl (by decide +kernel) rfl rfl hl9 dX11_stepOn_148 kk) (fun σ_s_369 H locs hO hF9 hM9 hg9 ha9 hH hS => ?_)
              replace hM := hM.tu hM9 (by decide)
              replace hF := hF.tu hF9 (by decide)
              have e_370 : gI σ_s_369 a 11 = a110 := (hM9.i (by decide)).trans e_365
              have e_371 : gI σ_s_369 a 17 = G13q39 := (hM9.i (by decide)).trans e_366
              have e_372 : gI σ_s_369 a 16 = 32 * G16q324 + z_363 - 97 + 1 := (hM9.i (by decide)).trans e_368
              replace hsr := hsr.mv hM9 (by decide) (by decide) (by decide) (by decide) (by decide)
              have e_373 := hg9
              refine lv_goto (tgt := 81) hx hb dX11_stepOn_151 (by decide) ?_
              exact ihJ_326 (G13q323 + 1, 32 * G16q324 + z_363 - 97 + 1) σ_s_369 _ _ _ (by first | (dsimp only; omega) | omega) ⟨hO, hF, hM, hsr, hH, hS, lv_sub hl [0] rfl, ⟨by first | (dsimp only; omega) | omega, by first | (dsimp only; omega) | omega⟩, ⟨by first | (dsimp only; omega) | omega, by first | (dsimp only; omega) | omega⟩, by first | (dsimp only; omega) | omega, by first | (dsimp only; omega) | omega, by first | (dsimp only; omega) | omega, by first | (dsimp only; omega) | omega, by first | (dsimp only; omega) | omega, (fun q h1 h2 => by
                by_cases e9 : q = G13q323
                · rw [e9]; have h9 := hw_328.1; unfold isLt; omega
                · exact J_326_5 q h1 (by first | omega | (dsimp only at h2; omega))), (by (try dsimp only); exact wv_next (z := 32 * G16q324 + z_363 - 97 + 1) (by omega) J_326_5 (by have h9 := hw_328.1; unfold isLt; omega) J_326_6 (fun g0 g1 g2 g3 => by have h9 := hw_361.1; omega)), e_370, e_371, e_373, e_372⟩
      · replace c_63 := (I_eq (a := z_62) (b := (-1)) rz_62 (show rng (-1) from ⟨by decide, by decide⟩)).mp c_63
        refine lv_aload_n hx hb dX11_stepOn_61 rfl (lv_at hl 1 rfl) ?_
        refine lv_iconst (v := I 0) hx hb dX11_stepOn_62 (by decide) ?_
        refine ok.putJ hO h_a k13_14 (show rng 0 from ⟨by decide, by decide⟩) (by omega) (by omega) (fun _ he hl9 kk => th_put (ci := 11) (v := .int (I 0)) (ty := .int) (C := RX11) (T := TX11) (N := 66) hx hb hts inX11 tyX11 tyX11_ok nmX11 hown hK hH hS h00 he rfl 14 (by decide) fl2 rfl (by decide +kernel) rfl rfl hl9 dX11_stepOn_63 kk) (fun σ_s_374 H locs hO hF9 hM9 hg9 ha9 hH hS => ?_)
        replace hM := hM.tu hM9 (by decide)
        replace hF := hF.tu hF9 (by decide)
        have e_375 : gI σ_s_374 a 11 = a110 := (hM9.i (by decide)).trans e_56
        have e_376 : gI σ_s_374 a 13 = G13q39 := (hM9.i (by decide)).trans e_57
        have e_377 : gI σ_s_374 a 17 = G13q39 := (hM9.i (by decide)).trans e_58
        replace hsr := hsr.mv hM9 (by decide) (by decide) (by decide) (by decide) (by decide)
        have e_378 := hg9
        refine lv_goto (tgt := 295) hx hb dX11_stepOn_66 (by decide) ?_
        refine lv_aload_n hx hb dX11_stepOn_295 rfl (lv_at hl 1 rfl) ?_
        refine lv_aload_n hx hb dX11_stepOn_296 rfl (lv_at hl 1 rfl) ?_
        refine ok.getIc hO h_a (by decide) k13_13 e_376 (fun _ _ he hv kk => th_get (ci := 11) (C := RX11) (T := TX11) (N := 66) hx hb hts inX11 hown hK hH he rfl 13 (by decide) fl0 hv dX11_stepOn_297 kk) ?_
        refine ok.putJ hO h_a k13_18 rG13q39 (by omega) (by omega) (fun _ he hl9 kk => th_put (ci := 11) (v := .int (I G13q39)) (ty := .int) (C := RX11) (T := TX11) (N := 66) hx hb hts inX11 tyX11 tyX11_ok nmX11 hown hK hH hS h00 he rfl 18 (by decide) fl3 rfl (by decide +kernel) rfl rfl hl9 dX11_stepOn_300 kk) (fun σ_s_379 H locs hO hF9 hM9 hg9 ha9 hH hS => ?_)
        replace hM := hM.tu hM9 (by decide)
        replace hF := hF.tu hF9 (by decide)
        have e_380 : gI σ_s_379 a 11 = a110 := (hM9.i (by decide)).trans e_375
        have e_381 : gI σ_s_379 a 13 = G13q39 := (hM9.i (by decide)).trans e_376
        have e_382 : gI σ_s_379 a 17 = G13q39 := (hM9.i (by decide)).trans e_377
        have e_383 : gI σ_s_379 a 14 = 0 := (hM9.i (by decide)).trans e_378
        replace hsr := hsr.mv hM9 (by decide) (by decide) (by decide) (by decide) (by decide)
        have e_384 := hg9
        exact th_vret hx hb hr hlocks hH hS ⟨hO, hF, hM, ⟨⟨by omega, by omega, by omega, by omega, by omega⟩, ⟨259, 0, by rw [show gI σ_s_379 a 17 = G13q39 by omega, show gI σ_s_379 a 13 = G13q39 + 0 by omega]; exact Tok.stop (by omega) (fun q h1 h2 => J_41_2 q h1 (by omega)) (by have h9 := hw_60.1; omega), by unfold rk; omega, by omega, fun h9 => absurd h9 (by omega)⟩⟩⟩ dX11_stepOn_303
    · replace c_54 := (I_eq (a := z_53) (b := 10) rz_53 (show rng 10 from ⟨by decide, by decide⟩)).mp c_54
      refine lv_aload_n hx hb dX11_stepOn_26 rfl (lv_at hl 0 rfl) ?_
      refine lv_dup hx hb dX11_stepOn_27 rfl ?_
      refine ok.getIc hO h_a (by decide) k13_13 J_41_4 (fun _ _ he hv kk => th_get (ci := 11) (C := RX11) (T := TX11) (N := 66) hx hb hts inX11 hown hK hH he rfl 13 (by decide) fl0 hv dX11_stepOn_28 kk) ?_
      refine lv_iconst (v := I 1) hx hb dX11_stepOn_31 (by decide) ?_
      refine lv_iadd hx hb dX11_stepOn_32 ?_
      refine nq_top (I_add _ _) ?_
      refine ok.putJ hO h_a k13_13 ⟨by omega, by omega⟩ (by omega) (by omega) (fun _ he hl9 kk => th_put (ci := 11) (v := .int (I (G13q39 + 1))) (ty := .int) (C := RX11) (T := TX11) (N := 66) hx hb hts inX11 tyX11 tyX11_ok nmX11 hown hK hH hS h00 he rfl 13 (by decide) fl0 rfl (by decide +kernel) rfl rfl hl9 dX11_stepOn_33 kk) (fun σ_s_385 H locs hO hF9 hM9 hg9 ha9 hH hS => ?_)
      replace hM := hM.tu hM9 (by decide)
      replace hF := hF.tu hF9 (by decide)
      have e_386 : gI σ_s_385 a 11 = a110 := (hM9.i (by decide)).trans J_41_3
      replace hsr := hsr.mv hM9 (by decide) (by decide) (by decide) (by decide) (by decide)
      have e_387 := hg9
      refine lv_goto (tgt := 0) hx hb dX11_stepOn_36 (by decide) ?_
      exact ihJ_41 (G13q39 + 1) σ_s_385 _ _ _ (by first | (dsimp only; omega) | omega) ⟨hO, hF, hM, hsr, hH, hS, lv_sub hl [0] rfl, ⟨by first | (dsimp only; omega) | omega, by first | (dsimp only; omega) | omega⟩, by first | (dsimp only; omega) | omega, by first | (dsimp only; omega) | omega, (fun q h1 h2 => by
        by_cases e9 : q = G13q39
        · rw [e9]; have h9 := hw_51.1; unfold isBk; omega
        · exact J_41_2 q h1 (by first | omega | (dsimp only at h2; omega))), e_386, e_387⟩
