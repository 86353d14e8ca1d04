set_option maxHeartbeats 20000000 in
set_option maxRecDepth 100000 in
theorem n_little (l : Launch) (G : va_G) (y : Nat → ClassId) (b0 : Nat) (σ : th_M) (E : th_E) (hO : ok y E σ) (a : Nat) (h_a : kd E a = 13) (f1 : Nat → Int32) (ef1 : aF σ (ad E a 1) = f1) (Bf : Int → Int) (hsr : sr E σ a Bf) (T : tkT) (hSt : tkSt Bf T) (fc jt : Int) (hR0 : RSt σ a T fc jt) (dd : Int) (hy0 : 0 ≤ gI σ a 17 ∧ gI σ a 17 ≤ gI σ a 13 ∧ gI σ a 13 ≤ gI σ a 11 ∧ gI σ a 11 ≤ 400) (hy1 : gI σ a 25 = 0) (hy2 : gI σ a 30 = -1) (hy3 : fc = 0 → 0 ≤ gI σ a 27 ∧ gI σ a 27 ≤ 12) (hy4 : fc = 0 → tK T jt ≠ 33 ∧ tK T jt ≠ 40) : Met l yX11_little wsX11_little ({ frames := 5, cells := 0, slots := 0, locals := 141 }) (th_P G y b0 σ [.ref a]) (th_Qi G b0 (fun r σ1 => ok y E σ1 ∧ fr [13] E σ σ1 ∧ fm [13, 14, 15, 16, 17, 18, 19, 20, 27] E σ σ1 a ∧ (0 ≤ r ∧ r ≤ 1) ∧ (((gI σ a 13 ≤ gI σ1 a 13 ∧ gI σ1 a 13 ≤ gI σ a 11 ∧ 0 ≤ gI σ1 a 17 ∧ gI σ1 a 17 ≤ gI σ1 a 13)) ∧ ∃ c1 j1, RSt σ1 a T c1 j1 ∧ (fc ≠ 0 → c1 = fc ∧ j1 = jt) ∧ (fc = 0 → jt ≤ j1 ∧ GS T [(1, dd)] jt (gI σ a 27) [] c1 j1 (gI σ1 a 27)) ∧ (c1 = 0 → 0 ≤ gI σ1 a 27 ∧ gI σ1 a 27 ≤ 12)))) 0 0 (th_A b0) := by
  refine Met.ofW (cc := cX11_little) (maxL := 6) (ret := (some .boolean)) (by decide) rfl ?_
  intro p e s m args below meth c s₁ B hml hv
  obtain ⟨rfl, hH, hK⟩ := hv
  have hx := B.exec
  have hb := B.bytes
  have hr := B.returns
  have hts := atoms_spec (ws := wsX11_little) B.pre
  have hown : s.vm.findClass RX11 = some m.cls := findClass_of_methodNamed B.named
  have hlocks := B.notSynchronized
  have h00 : b0 ≤ s.heap.size := hH.1
  have hS : va_S (th_A b0) s.heap s.heap [] := va_S.rf
  have hF : fr [13] E σ σ := fr.rf
  have hM : fm [13, 14, 15, 16, 17, 18, 19, 20, 27] E σ σ a := fm.rf
  have inX11 : ∀ w ∈ wsX110, w ∈ wsX11_little := by decide +kernel
  have fl0 := hts (.fieldLink RX11 162 "NestQueryModel" "bad" "I") (by decide +kernel)
  have fl1 := hts (.fieldLink RX11 276 "NestQueryModel" "littles" "I") (by decide +kernel)
  have fl2 := hts (.fieldLink RX11 316 "NestQueryModel" "asked" "I") (by decide +kernel)
  have fl3 := hts (.fieldLink RX11 133 "NestQueryModel" "begins" "I") (by decide +kernel)
  have fl4 := hts (.fieldLink RX11 136 "NestQueryModel" "token" "I") (by decide +kernel)
  have fl5 := hts (.fieldLink RX11 300 "NestQueryModel" "isGone" "Z") (by decide +kernel)
  have hl := lv_entry ([.ref a]) (n := 6) (Nat.le_of_ble_eq_true rfl)
  rw [lg_entry_eq]
  generalize (lg_sl ([.ref a]) ++ List.replicate (6 - (lg_sl ([.ref a])).length) Slot.unset).toArray = ls at hl ⊢
  have hl : lv_has ls 6 [(0, .ref a)] := hl
  obtain ⟨a110, ea110, ra110, la110, ua110⟩ := hO.gi h_a (by decide) k13_11
  obtain ⟨a130, ea130, ra130, la130, ua130⟩ := hO.gi h_a (by decide) k13_13
  obtain ⟨a140, ea140, ra140, la140, ua140⟩ := hO.gi h_a (by decide) k13_14
  obtain ⟨a170, ea170, ra170, la170, ua170⟩ := hO.gi h_a (by decide) k13_17
  obtain ⟨a190, ea190, ra190, la190, ua190⟩ := hO.gi h_a (by decide) k13_19
  obtain ⟨a270, ea270, ra270, la270, ua270⟩ := hO.gi h_a (by decide) k13_27
  obtain ⟨a300, ea300, ra300, la300, ua300⟩ := hO.gi h_a (by decide) k13_30
  have hV0 := hR0.1
  rcases Classical.em (fc = 0) with h0_1 | h0_1
  · subst h0_1
    try simp only [ne_eq, not_true_eq_false, not_false_eq_true, false_implies, true_implies, true_and, and_true, eq_self, false_or, or_false, false_and, and_false] at hV0
    have e_2 : gI σ a 19 = 0 := by omega
    have hG_3 := GS.start (T := T) (e := [(1, dd)]) (j := jt) (t := gI σ a 27)
    have e_4 : gI σ a 25 = 0 := by omega
    have e_5 : gI σ a 30 = -1 := by omega
    refine lv_aload_n hx hb dX11_little_0 rfl (lv_at hl 0 rfl) ?_
    refine lv_bipush (v := I 64) hx hb dX11_little_1 (by decide) ?_
    obtain ⟨_, hc_6⟩ := hO.cell h_a (by decide) (ci := 11) rfl
    refine th_calli (va_runV (As := [.int (I 64)]) (rest := []) ⟨hx, hb, hml, hown, hts⟩ (n_isMarked l G y b0 σ E hO a h_a 64 (show rng 64 from (show rng 64 from ⟨by decide, by decide⟩)) (by omega) (by omega) Bf hsr T hSt 0 jt hR0 (by omega)) (cwV 1 hts gX11_little_X11_isMarked rfl rfl rfl (by decide +kernel) ⟨Nat.le_of_ble_eq_true rfl, Nat.le_of_ble_eq_true rfl⟩) (th_PV hK hH rfl hc_6) rfl rfl hl.1 rfl (lv_room (Nat.le_of_ble_eq_true rfl)) dX11_little_3 ⟨Nat.le_of_ble_eq_true rfl, Nat.le_of_ble_eq_true rfl⟩) hS (fun z_9 σ_s_8 H locs rz_9 hw_7 hH hS => ?_)
    obtain ⟨e9, bhw_7, hw_7⟩ := hw_7
    replace e9 := e9.symm
    subst e9
    replace hw_7 : (z_9 = 1 ∧ (0 : Int) = 0 ∧ tK T jt = 64) ∨ (z_9 = 0 ∧ ((0 : Int) ≠ 0 ∨ tK T jt ≠ 64)) := hw_7
    obtain ⟨hw_7, -, hs_10⟩ | ⟨hw_7, hs_10⟩ := hw_7
    · subst hw_7
      refine lv_if_ne (tgt := 14) hx hb dX11_little_6 (by decide) (fun _ => ?_) (fun c_11 => absurd c_11 (by decide))
      refine lv_aload_n hx hb dX11_little_14 rfl (lv_at hl 0 rfl) ?_
      refine ok.getIc hO h_a (by decide) k13_19 e_2 (fun _ _ he hv kk => th_get (ci := 11) (C := RX11) (T := TX11) (N := 66) hx hb hts inX11 hown hK hH he rfl 19 (by decide) fl0 hv dX11_little_15 kk) ?_
      refine lv_if_ne (tgt := 42) hx hb dX11_little_18 (by decide) (fun c_12 => absurd (by decide) c_12) (fun _ => ?_)
      refine lv_aload_n hx hb dX11_little_21 rfl (lv_at hl 0 rfl) ?_
      refine ok.getIc hO h_a (by decide) k13_27 ea270 (fun _ _ he hv kk => th_get (ci := 11) (C := RX11) (T := TX11) (N := 66) hx hb hts inX11 hown hK hH he rfl 27 (by decide) fl1 hv dX11_little_22 kk) ?_
      refine lv_bipush (v := I 12) hx hb dX11_little_25 (by decide) ?_
      refine lv_icmp_ne (tgt := 42) hx hb dX11_little_27 (by decide) (fun c_13 => ?_) (fun c_13 => ?_)
      · replace c_13 := mt (I_eq (a := a270) (b := 12) ra270 (show rng 12 from ⟨by decide, by decide⟩)).mpr c_13
        refine lv_aload_n hx hb dX11_little_42 rfl (lv_at hl 0 rfl) ?_
        refine lv_dup hx hb dX11_little_43 rfl ?_
        refine ok.getIc hO h_a (by decide) k13_27 ea270 (fun _ _ he hv kk => th_get (ci := 11) (C := RX11) (T := TX11) (N := 66) hx hb hts inX11 hown hK hH he rfl 27 (by decide) fl1 hv dX11_little_44 kk) ?_
        refine lv_iconst (v := I 1) hx hb dX11_little_47 (by decide) ?_
        refine lv_iadd hx hb dX11_little_48 ?_
        refine th_addo (fun z_14 rz_14 hz_14 => ?_)
        replace hz_14 : z_14 = gI σ a 27 + 1 := by omega
        refine ok.putJ hO h_a k13_27 rz_14 (by omega) (by omega) (fun _ he hl9 kk => th_put (ci := 11) (v := .int (I z_14)) (ty := .int) (C := RX11) (T := TX11) (N := 66) hx hb hts inX11 tyX11 tyX11_ok nmX11 hown hK hH hS h00 he rfl 27 (by decide) fl1 rfl (by decide +kernel) rfl rfl hl9 dX11_little_49 kk) (fun σ_s_15 H locs hO hF9 hM9 hg9 ha9 hH hS => ?_)
        replace hM := hM.tu hM9 (by decide)
        replace hF := hF.tu hF9 (by decide)
        have e_16 : aF σ_s_15 (ad E a 1) = f1 := (hM9.a (by decide) (by decide)).trans ef1
        have e_17 : gI σ_s_15 a 11 = a110 := (hM9.i (by decide)).trans ea110
        have e_18 : gI σ_s_15 a 13 = a130 := (hM9.i (by decide)).trans ea130
        have e_19 : gI σ_s_15 a 14 = a140 := (hM9.i (by decide)).trans ea140
        have e_20 : gI σ_s_15 a 17 = a170 := (hM9.i (by decide)).trans ea170
        have e_21 : gI σ_s_15 a 19 = 0 := (hM9.i (by decide)).trans e_2
        have e_22 : gI σ_s_15 a 30 = (-1) := (hM9.i (by decide)).trans e_5
        have e_23 : gI σ_s_15 a 25 = 0 := (hM9.i (by decide)).trans e_4
        replace hsr := hsr.mv hM9 (by decide) (by decide) (by decide) (by decide) (by decide)
        replace hV0 := hid.mk hV0
        have hR_24 : RSt σ_s_15 a T 0 jt := RSt.mv hM9 (by decide) (by decide) (by decide) (by decide) (by decide) (by decide) (by decide) hR0
        have hVhR_24 := hR_24.1
        have e_25 := hg9
        refine lv_aload_n hx hb dX11_little_52 rfl (lv_at hl 0 rfl) ?_
        obtain ⟨_, hc_26⟩ := hO.cell h_a (by decide) (ci := 11) rfl
        refine th_callv (va_runV (As := []) (rest := []) ⟨hx, hb, hml, hown, hts⟩ (n_pass l G y b0 σ_s_15 E hO a h_a Bf hsr T hSt 0 jt hR_24 (by omega) (by omega)) (cwV 0 hts gX11_little_X11_pass rfl rfl rfl (by decide +kernel) ⟨Nat.le_of_ble_eq_true rfl, Nat.le_of_ble_eq_true rfl⟩) (th_PV hK hH rfl hc_26) rfl rfl hl.1 rfl (lv_room (Nat.le_of_ble_eq_true rfl)) dX11_little_53 ⟨Nat.le_of_ble_eq_true rfl, Nat.le_of_ble_eq_true rfl⟩) hS (fun σ_s_28 H locs hw_27 hH hS => ?_)
        obtain ⟨hO9, hF9, hM9, hw_27⟩ := hw_27
        replace hM := hM.tu hM9 (by decide)
        replace hF := hF.tu hF9 (by decide)
        have e_29 : aF σ_s_28 (ad E a 1) = f1 := (hM9.a (by decide) (by decide)).trans e_16
        have e_30 : gI σ_s_28 a 11 = a110 := (hM9.i (by decide)).trans e_17
        have e_31 : gI σ_s_28 a 19 = 0 := (hM9.i (by decide)).trans e_21
        have e_32 : gI σ_s_28 a 30 = (-1) := (hM9.i (by decide)).trans e_22
        have e_33 : gI σ_s_28 a 25 = 0 := (hM9.i (by decide)).trans e_23
        have e_34 : gI σ_s_28 a 27 = z_14 := (hM9.i (by decide)).trans e_25
        replace hsr := hsr.mv hM9 (by decide) (by decide) (by decide) (by decide) (by decide)
        replace hO := hO9
        replace hw_27 : ((gI σ_s_15 a 13 ≤ gI σ_s_28 a 13 ∧ gI σ_s_28 a 13 ≤ gI σ_s_15 a 11 ∧ 0 ≤ gI σ_s_28 a 17 ∧ gI σ_s_28 a 17 ≤ gI σ_s_28 a 13) ∧ pgo (gI σ_s_28 a 19) (gI σ_s_28 a 14) (gI σ_s_15 a 13) (gI σ_s_28 a 13) ∧ gI σ_s_28 a 19 = gI σ_s_15 a 19) ∧ ∃ c1 j1, RSt σ_s_28 a T c1 j1 ∧ (c1 = 0 ∧ ((0 : Int) ≠ 0 → j1 = jt) ∧ ((0 : Int) = 0 → j1 = jt + 1)) := hw_27
        replace hVhR_24 := hid.mk hVhR_24
        have hn_35 := hw_27.2
        replace hw_27 := hw_27.1
        obtain ⟨cc_36, jj_37, hR_38, hn_35⟩ := hn_35
        have hVhR_38 := hR_38.1
        have h0_39 : cc_36 = 0 := by omega
        subst h0_39
        try simp only [ne_eq, not_true_eq_false, not_false_eq_true, false_implies, true_implies, true_and, and_true, eq_self, false_or, or_false, false_and, and_false] at hVhR_38
        have e_40 : gI σ_s_28 a 19 = 0 := by omega
        have hj_41 : jt + 1 = jj_37 := by omega
        subst hj_41
        have hG_42 := hG_3.test hs_10 (by omega)
        refine lv_aload_n hx hb dX11_little_56 rfl (lv_at hl 0 rfl) ?_
        refine ok.getIc hO h_a (by decide) k13_30 e_32 (fun _ _ he hv kk => th_get (ci := 11) (C := RX11) (T := TX11) (N := 66) hx hb hts inX11 hown hK hH he rfl 30 (by decide) fl2 hv dX11_little_57 kk) ?_
        refine lv_istore_n (lv' := [(1, .int (I (-1))), (0, .ref a)]) hx hb dX11_little_60 rfl hl (by decide) rfl (fun ls hl => ?_)
        refine th_loop (α := Int) (pc := 61) (fun x9 => (tm T - x9).toNat) (fun x9 σ9 H9 l9 ls9 => ok y E σ9 ∧ fr [13] E σ σ9 ∧ fm [13, 14, 15, 16, 17, 18, 19, 20, 27] E σ σ9 a ∧ sr E σ9 a Bf ∧ th_H G b0 σ9 H9 ∧ va_S (th_A b0) s.heap H9 l9 ∧ lv_has ls9 6 [(0, .ref a), (1, .int (I (-1)))] ∧ (gI σ a 13 ≤ gI σ9 a 13) ∧ (gI σ9 a 13 ≤ gI σ a 11) ∧ (0 ≤ gI σ9 a 17) ∧ (gI σ9 a 17 ≤ gI σ9 a 13) ∧ (jt ≤ x9) ∧ (0 ≤ gI σ9 a 27) ∧ (gI σ9 a 27 ≤ 12) ∧ (RSt σ9 a T 0 x9) ∧ (GS T [(1, dd)] jt (gI σ a 27) [(4, 0)] 0 x9 (gI σ9 a 27)) ∧ (gI σ9 a 11 = a110) ∧ (gI σ9 a 30 = (-1)) ∧ (gI σ9 a 25 = 0) ∧ (gI σ9 a 27 = z_14) ∧ (aF σ9 (ad E a 1) = f1)) ?_ ((jt + 1)) σ_s_28 _ _ _ ⟨hO, hF, hM, hsr, hH, hS, lv_sub hl [1, 0] rfl, by first | (dsimp only; omega) | omega, by first | (dsimp only; omega) | omega, by first | (dsimp only; omega) | omega, by first | (dsimp only; omega) | omega, by first | (dsimp only; omega) | omega, by first | (dsimp only; omega) | omega, by first | (dsimp only; omega) | omega, hR_38, (hG_42.ec rfl rfl (fun _ => by omega)), e_30, e_32, e_33, e_34, e_29⟩
        intro x9 σ_J_313 H locs ls hI9 ihJ_313
        obtain ⟨jqq311, ex9⟩ : ∃ z, z = x9 := ⟨_, rfl⟩
        subst ex9
        obtain ⟨hO, hF, hM, hsr, hH, hS, hl, J_313_0, J_313_1, J_313_2, J_313_3, J_313_4, J_313_5, J_313_6, J_313_7, J_313_8, J_313_9, J_313_10, J_313_11, J_313_12, J_313_13⟩ := hI9
        replace hl : lv_has ls 6 [(0, .ref a), (1, .int (I (-1)))] := hl
        replace J_313_0 : gI σ a 13 ≤ gI σ_J_313 a 13 := J_313_0
        replace J_313_1 : gI σ_J_313 a 13 ≤ gI σ a 11 := J_313_1
        replace J_313_2 : 0 ≤ gI σ_J_313 a 17 := J_313_2
        replace J_313_3 : gI σ_J_313 a 17 ≤ gI σ_J_313 a 13 := J_313_3
        replace J_313_4 : jt ≤ jqq311 := J_313_4
        replace J_313_5 : 0 ≤ gI σ_J_313 a 27 := J_313_5
        replace J_313_6 : gI σ_J_313 a 27 ≤ 12 := J_313_6
        replace J_313_7 : RSt σ_J_313 a T 0 jqq311 := J_313_7
        replace J_313_8 : GS T [(1, dd)] jt (gI σ a 27) [(4, 0)] 0 jqq311 (gI σ_J_313 a 27) := J_313_8
        replace J_313_9 : gI σ_J_313 a 11 = a110 := J_313_9
        replace J_313_10 : gI σ_J_313 a 30 = (-1) := J_313_10
        replace J_313_11 : gI σ_J_313 a 25 = 0 := J_313_11
        replace J_313_12 : gI σ_J_313 a 27 = z_14 := J_313_12
        replace J_313_13 : aF σ_J_313 (ad E a 1) = f1 := J_313_13
        replace hw_27 := hid.mk hw_27
        replace hn_35 := hid.mk hn_35
        replace hVhR_38 := hid.mk hVhR_38
        have hVJ_313_7 := J_313_7.1
        try simp only [ne_eq, not_true_eq_false, not_false_eq_true, false_implies, true_implies, true_and, and_true, eq_self, false_or, or_false, false_and, and_false] at hVJ_313_7
        have e_314 : gI σ_J_313 a 19 = 0 := by omega
        refine lv_aload_n hx hb dX11_little_61 rfl (lv_at hl 0 rfl) ?_
        refine lv_bipush (v := I 46) hx hb dX11_little_62 (by decide) ?_
        obtain ⟨_, hc_315⟩ := hO.cell h_a (by decide) (ci := 11) rfl
        refine th_calli (va_runV (As := [.int (I 46)]) (rest := []) ⟨hx, hb, hml, hown, hts⟩ (n_isMarked l G y b0 σ_J_313 E hO a h_a 46 (show rng 46 from (show rng 46 from ⟨by decide, by decide⟩)) (by omega) (by omega) Bf hsr T hSt 0 jqq311 J_313_7 (by omega)) (cwV 1 hts gX11_little_X11_isMarked rfl rfl rfl (by decide +kernel) ⟨Nat.le_of_ble_eq_true rfl, Nat.le_of_ble_eq_true rfl⟩) (th_PV hK hH rfl hc_315) rfl rfl hl.1 rfl (lv_room (Nat.le_of_ble_eq_true rfl)) dX11_little_64 ⟨Nat.le_of_ble_eq_true rfl, Nat.le_of_ble_eq_true rfl⟩) hS (fun z_318 σ_s_317 H locs rz_318 hw_316 hH hS => ?_)
        obtain ⟨e9, bhw_316, hw_316⟩ := hw_316
        replace e9 := e9.symm
        subst e9
        replace hw_316 : (z_318 = 1 ∧ (0 : Int) = 0 ∧ tK T jqq311 = 46) ∨ (z_318 = 0 ∧ ((0 : Int) ≠ 0 ∨ tK T jqq311 ≠ 46)) := hw_316
        obtain ⟨hw_316, -, hs_319⟩ | ⟨hw_316, hs_319⟩ := hw_316
        · subst hw_316
          refine lv_if_ne (tgt := 79) hx hb dX11_little_67 (by decide) (fun _ => ?_) (fun c_320 => absurd c_320 (by decide))
          refine lv_aload_n hx hb dX11_little_79 rfl (lv_at hl 0 rfl) ?_
          refine lv_bipush (v := I 46) hx hb dX11_little_80 (by decide) ?_
          obtain ⟨_, hc_321⟩ := hO.cell h_a (by decide) (ci := 11) rfl
          refine th_calli (va_runV (As := [.int (I 46)]) (rest := []) ⟨hx, hb, hml, hown, hts⟩ (n_isMarked l G y b0 σ_J_313 E hO a h_a 46 (show rng 46 from (show rng 46 from ⟨by decide, by decide⟩)) (by omega) (by omega) Bf hsr T hSt 0 jqq311 J_313_7 (by omega)) (cwV 1 hts gX11_little_X11_isMarked rfl rfl rfl (by decide +kernel) ⟨Nat.le_of_ble_eq_true rfl, Nat.le_of_ble_eq_true rfl⟩) (th_PV hK hH rfl hc_321) rfl rfl hl.1 rfl (lv_room (Nat.le_of_ble_eq_true rfl)) dX11_little_82 ⟨Nat.le_of_ble_eq_true rfl, Nat.le_of_ble_eq_true rfl⟩) hS (fun z_324 σ_s_323 H locs rz_324 hw_322 hH hS => ?_)
          obtain ⟨e9, bhw_322, hw_322⟩ := hw_322
          replace e9 := e9.symm
          subst e9
          replace hw_322 : (z_324 = 1 ∧ (0 : Int) = 0 ∧ tK T jqq311 = 46) ∨ (z_324 = 0 ∧ ((0 : Int) ≠ 0 ∨ tK T jqq311 ≠ 46)) := hw_322
          replace hw_322 : z_324 = 1 := by omega
          subst hw_322
          refine lv_istore_n (lv' := [(2, .int (I 1)), (0, .ref a), (1, .int (I (-1)))]) hx hb dX11_little_85 rfl hl (by decide) rfl (fun ls hl => ?_)
          refine lv_aload_n hx hb dX11_little_86 rfl (lv_at hl 1 rfl) ?_
          obtain ⟨_, hc_325⟩ := hO.cell h_a (by decide) (ci := 11) rfl
          refine th_callv (va_runV (As := []) (rest := []) ⟨hx, hb, hml, hown, hts⟩ (n_pass l G y b0 σ_J_313 E hO a h_a Bf hsr T hSt 0 jqq311 J_313_7 (by omega) (by omega)) (cwV 0 hts gX11_little_X11_pass rfl rfl rfl (by decide +kernel) ⟨Nat.le_of_ble_eq_true rfl, Nat.le_of_ble_eq_true rfl⟩) (th_PV hK hH rfl hc_325) rfl rfl hl.1 rfl (lv_room (Nat.le_of_ble_eq_true rfl)) dX11_little_87 ⟨Nat.le_of_ble_eq_true rfl, Nat.le_of_ble_eq_true rfl⟩) hS (fun σ_s_327 H locs hw_326 hH hS => ?_)
          obtain ⟨hO9, hF9, hM9, hw_326⟩ := hw_326
          replace hM := hM.tu hM9 (by decide)
          replace hF := hF.tu hF9 (by decide)
          have e_328 : gI σ_s_327 a 11 = a110 := (hM9.i (by decide)).trans J_313_9
          have e_329 : gI σ_s_327 a 30 = (-1) := (hM9.i (by decide)).trans J_313_10
          have e_330 : gI σ_s_327 a 25 = 0 := (hM9.i (by decide)).trans J_313_11
          have e_331 : gI σ_s_327 a 27 = z_14 := (hM9.i (by decide)).trans J_313_12
          have e_332 : aF σ_s_327 (ad E a 1) = f1 := (hM9.a (by decide) (by decide)).trans J_313_13
          have e_333 : gI σ_s_327 a 19 = 0 := (hM9.i (by decide)).trans e_314
          replace hsr := hsr.mv hM9 (by decide) (by decide) (by decide) (by decide) (by decide)
          replace hO := hO9
          replace hw_326 : ((gI σ_J_313 a 13 ≤ gI σ_s_327 a 13 ∧ gI σ_s_327 a 13 ≤ gI σ_J_313 a 11 ∧ 0 ≤ gI σ_s_327 a 17 ∧ gI σ_s_327 a 17 ≤ gI σ_s_327 a 13) ∧ pgo (gI σ_s_327 a 19) (gI σ_s_327 a 14) (gI σ_J_313 a 13) (gI σ_s_327 a 13) ∧ gI σ_s_327 a 19 = gI σ_J_313 a 19) ∧ ∃ c1 j1, RSt σ_s_327 a T c1 j1 ∧ (c1 = 0 ∧ ((0 : Int) ≠ 0 → j1 = jqq311) ∧ ((0 : Int) = 0 → j1 = jqq311 + 1)) := hw_326
          replace hVJ_313_7 := hid.mk hVJ_313_7
          have hn_334 := hw_326.2
          replace hw_326 := hw_326.1
          obtain ⟨cc_335, jj_336, hR_337, hn_334⟩ := hn_334
          have hVhR_337 := hR_337.1
          have h0_338 : cc_335 = 0 := by omega
          subst h0_338
          try simp only [ne_eq, not_true_eq_false, not_false_eq_true, false_implies, true_implies, true_and, and_true, eq_self, false_or, or_false, false_and, and_false] at hVhR_337
          have e_339 : gI σ_s_327 a 19 = 0 := by omega
          have hj_340 : jqq311 + 1 = jj_336 := by omega
          subst hj_340
          have hG_341 := J_313_8.lkey hs_319
          refine lv_iload_n hx hb dX11_little_90 rfl (lv_at hl 0 rfl) ?_
          refine lv_if_eq (tgt := 101) hx hb dX11_little_91 (by decide) (fun c_342 => absurd c_342 (by decide)) (fun _ => ?_)
          refine lv_aload_n hx hb dX11_little_94 rfl (lv_at hl 1 rfl) ?_
          obtain ⟨_, hc_343⟩ := hO.cell h_a (by decide) (ci := 11) rfl
          refine th_calli (va_runV (As := []) (rest := []) ⟨hx, hb, hml, hown, hts⟩ (n_readWord l G y b0 σ_s_327 E hO a h_a Bf hsr T hSt 0 (jqq311 + 1) hR_337 (by omega)) (cwV 0 hts gX11_little_X11_readWord rfl rfl rfl (by decide +kernel) ⟨Nat.le_of_ble_eq_true rfl, Nat.le_of_ble_eq_true rfl⟩) (th_PV hK hH rfl hc_343) rfl rfl hl.1 rfl (lv_room (Nat.le_of_ble_eq_true rfl)) dX11_little_95 ⟨Nat.le_of_ble_eq_true rfl, Nat.le_of_ble_eq_true rfl⟩) hS (fun z_346 σ_s_345 H locs rz_346 hw_344 hH hS => ?_)
          obtain ⟨hO9, hF9, hM9, hw_344⟩ := hw_344
          replace hM := hM.tu hM9 (by decide)
          replace hF := hF.tu hF9 (by decide)
          have e_347 : gI σ_s_345 a 11 = a110 := (hM9.i (by decide)).trans e_328
          have e_348 : gI σ_s_345 a 30 = (-1) := (hM9.i (by decide)).trans e_329
          have e_349 : gI σ_s_345 a 25 = 0 := (hM9.i (by decide)).trans e_330
          have e_350 : gI σ_s_345 a 27 = z_14 := (hM9.i (by decide)).trans e_331
          have e_351 : aF σ_s_345 (ad E a 1) = f1 := (hM9.a (by decide) (by decide)).trans e_332
          replace hsr := hsr.mv hM9 (by decide) (by decide) (by decide) (by decide) (by decide)
          replace hO := hO9
          replace hw_344 : ((gI σ_s_327 a 13 ≤ gI σ_s_345 a 13 ∧ gI σ_s_345 a 13 ≤ gI σ_s_327 a 11 ∧ 0 ≤ gI σ_s_345 a 17 ∧ gI σ_s_345 a 17 ≤ gI σ_s_345 a 13) ∧ pgo (gI σ_s_345 a 19) (gI σ_s_345 a 14) (gI σ_s_327 a 13) (gI σ_s_345 a 13) ∧ bdo (gI σ_s_327 a 19) (gI σ_s_345 a 19)) ∧ ∃ c1 j1, RSt σ_s_345 a T c1 j1 ∧ (((0 : Int) ≠ 0 → c1 = 0 ∧ j1 = (jqq311 + 1)) ∧ ((0 : Int) = 0 → (tK T (jqq311 + 1) ≠ 256 ∧ c1 = 1 ∧ j1 = (jqq311 + 1)) ∨ (tK T (jqq311 + 1) = 256 ∧ 6 < tL T (jqq311 + 1) ∧ c1 = 2 ∧ j1 = (jqq311 + 1)) ∨ (tK T (jqq311 + 1) = 256 ∧ tL T (jqq311 + 1) ≤ 6 ∧ c1 = 0 ∧ j1 = (jqq311 + 1) + 1 ∧ z_346 = tV T (jqq311 + 1)))) := hw_344
          have hb_352 := hw_326.1
          replace hw_326 := hid.mk hw_326
          replace hn_334 := hid.mk hn_334
          replace hVhR_337 := hid.mk hVhR_337
          have hn_353 := hw_344.2
          replace hw_344 := hw_344.1
          obtain ⟨cc_354, jj_355, hR_356, hn_353⟩ := hn_353
          have hVhR_356 := hR_356.1
          rcases Classical.em (cc_354 = 0) with h0_357 | h0_357
          · subst h0_357
            try simp only [ne_eq, not_true_eq_false, not_false_eq_true, false_implies, true_implies, true_and, and_true, eq_self, false_or, or_false, false_and, and_false] at hVhR_356
            have e_358 : gI σ_s_345 a 19 = 0 := by omega
            try simp only [ne_eq, not_true_eq_false, not_false_eq_true, false_implies, true_implies, true_and, and_true, eq_self, false_or, or_false, false_and, and_false] at hn_353
            have hj_359 : (jqq311 + 1) + 1 = jj_355 := by omega
            subst hj_359
            have hG_360 := hG_341.word (c2 := 0) (j2 := ((jqq311 + 1) + 1)) (fun h9 => absurd rfl h9) (fun _ => by omega)
            refine lv_goto (tgt := 105) hx hb dX11_little_98 (by decide) ?_
            refine lv_istore_n (lv' := [(3, .int (I z_346)), (2, .int (I 1)), (0, .ref a), (1, .int (I (-1)))]) hx hb dX11_little_105 rfl hl (by decide) rfl (fun ls hl => ?_)
            refine lv_iload_n hx hb dX11_little_106 rfl (lv_at hl 1 rfl) ?_
            refine lv_if_ne (tgt := 116) hx hb dX11_little_107 (by decide) (fun _ => ?_) (fun c_361 => absurd c_361 (by decide))
            refine lv_iload_n hx hb dX11_little_116 rfl (lv_at hl 3 rfl) ?_
            refine lv_iconst (v := I (-1)) hx hb dX11_little_117 (by decide) ?_
            refine lv_icmp_ne (tgt := 124) hx hb dX11_little_118 (by decide) (fun c_362 => absurd (by decide) c_362) (fun _ => ?_)
            refine lv_goto (tgt := 61) hx hb dX11_little_121 (by decide) ?_
            replace hl : lv_has ls 6 [(0, .ref a), (1, .int (I (-1)))] := lv_sub hl [2, 3] rfl
            exact ihJ_313 (((jqq311 + 1) + 1)) σ_s_345 _ _ _ (by first | (dsimp only; omega) | omega) ⟨hO, hF, hM, hsr, hH, hS, lv_sub hl [0, 1] rfl, by first | (dsimp only; omega) | omega, by first | (dsimp only; omega) | omega, by first | (dsimp only; omega) | omega, by first | (dsimp only; omega) | omega, by first | (dsimp only; omega) | omega, by first | (dsimp only; omega) | omega, by first | (dsimp only; omega) | omega, hR_356, (hG_360.ec rfl rfl (fun _ => by omega)), e_347, e_348, e_349, e_350, e_351⟩
          · try simp only [h0_357, ne_eq, not_true_eq_false, not_false_eq_true, false_implies, true_implies, true_and, and_true, eq_self, false_or, or_false, false_and, and_false] at hVhR_356
            try simp only [h0_357, ne_eq, not_true_eq_false, not_false_eq_true, false_implies, true_implies, true_and, and_true, eq_self, false_or, or_false, false_and, and_false] at hn_353
            have hj_363 : jqq311 + 1 = jj_355 := by omega
            subst hj_363
            have hG_364 := hG_341.word (c2 := cc_354) (j2 := (jqq311 + 1)) (fun h9 => absurd rfl h9) (fun _ => by omega)
            refine lv_goto (tgt := 105) hx hb dX11_little_98 (by decide) ?_
            refine lv_istore_n (lv' := [(3, .int (I z_346)), (2, .int (I 1)), (0, .ref a), (1, .int (I (-1)))]) hx hb dX11_little_105 rfl hl (by decide) rfl (fun ls hl => ?_)
            refine lv_iload_n hx hb dX11_little_106 rfl (lv_at hl 1 rfl) ?_
            refine lv_if_ne (tgt := 116) hx hb dX11_little_107 (by decide) (fun _ => ?_) (fun c_365 => absurd c_365 (by decide))
            refine lv_iload_n hx hb dX11_little_116 rfl (lv_at hl 3 rfl) ?_
            refine lv_iconst (v := I (-1)) hx hb dX11_little_117 (by decide) ?_
            refine lv_icmp_ne (tgt := 124) hx hb dX11_little_118 (by decide) (fun c_366 => absurd (by decide) c_366) (fun _ => ?_)
            refine lv_goto (tgt := 61) hx hb dX11_little_121 (by decide) ?_
            refine lv_aload_n hx hb dX11_little_61 rfl (lv_at hl 2 rfl) ?_
            refine lv_bipush (v := I 46) hx hb dX11_little_62 (by decide) ?_
            obtain ⟨_, hc_367⟩ := hO.cell h_a (by decide) (ci := 11) rfl
            refine th_calli (va_runV (As := [.int (I 46)]) (rest := []) ⟨hx, hb, hml, hown, hts⟩ (n_isMarked l G y b0 σ_s_345 E hO a h_a 46 (show rng 46 from (show rng 46 from ⟨by decide, by decide⟩)) (by omega) (by omega) Bf hsr T hSt cc_354 (jqq311 + 1) hR_356 (by omega)) (cwV 1 hts gX11_little_X11_isMarked rfl rfl rfl (by decide +kernel) ⟨Nat.le_of_ble_eq_true rfl, Nat.le_of_ble_eq_true rfl⟩) (th_PV hK hH rfl hc_367) rfl rfl hl.1 rfl (lv_room (Nat.le_of_ble_eq_true rfl)) dX11_little_64 ⟨Nat.le_of_ble_eq_true rfl, Nat.le_of_ble_eq_true rfl⟩) hS (fun z_370 σ_s_369 H locs rz_370 hw_368 hH hS => ?_)
            obtain ⟨e9, bhw_368, hw_368⟩ := hw_368
            replace e9 := e9.symm
            subst e9
            replace hw_368 : (z_370 = 1 ∧ cc_354 = 0 ∧ tK T (jqq311 + 1) = 46) ∨ (z_370 = 0 ∧ (cc_354 ≠ 0 ∨ tK T (jqq311 + 1) ≠ 46)) := hw_368
            have hb_371 := hw_344.1
            replace hw_344 := hid.mk hw_344
            replace hn_353 := hid.mk hn_353
            try simp only [h0_357, ne_eq, not_true_eq_false, not_false_eq_true, false_implies, true_implies, true_and, and_true, eq_self, false_or, or_false, false_and, and_false] at hw_368
            replace hw_368 : z_370 = 0 := by omega
            subst hw_368
            refine lv_if_ne (tgt := 79) hx hb dX11_little_67 (by decide) (fun c_372 => absurd (by decide) c_372) (fun _ => ?_)
            refine lv_aload_n hx hb dX11_little_70 rfl (lv_at hl 2 rfl) ?_
            refine lv_bipush (v := I 91) hx hb dX11_little_71 (by decide) ?_
            obtain ⟨_, hc_373⟩ := hO.cell h_a (by decide) (ci := 11) rfl
            refine th_calli (va_runV (As := [.int (I 91)]) (rest := []) ⟨hx, hb, hml, hown, hts⟩ (n_isMarked l G y b0 σ_s_345 E hO a h_a 91 (show rng 91 from (show rng 91 from ⟨by decide, by decide⟩)) (by omega) (by omega) Bf hsr T hSt cc_354 (jqq311 + 1) hR_356 (by omega)) (cwV 1 hts gX11_little_X11_isMarked rfl rfl rfl (by decide +kernel) ⟨Nat.le_of_ble_eq_true rfl, Nat.le_of_ble_eq_true rfl⟩) (th_PV hK hH rfl hc_373) rfl rfl hl.1 rfl (lv_room (Nat.le_of_ble_eq_true rfl)) dX11_little_73 ⟨Nat.le_of_ble_eq_true rfl, Nat.le_of_ble_eq_true rfl⟩) hS (fun z_376 σ_s_375 H locs rz_376 hw_374 hH hS => ?_)
            obtain ⟨e9, bhw_374, hw_374⟩ := hw_374
            replace e9 := e9.symm
            subst e9
            replace hw_374 : (z_376 = 1 ∧ cc_354 = 0 ∧ tK T (jqq311 + 1) = 91) ∨ (z_376 = 0 ∧ (cc_354 ≠ 0 ∨ tK T (jqq311 + 1) ≠ 91)) := hw_374
            try simp only [h0_357, ne_eq, not_true_eq_false, not_false_eq_true, false_implies, true_implies, true_and, and_true, eq_self, false_or, or_false, false_and, and_false] at hw_374
            replace hw_374 : z_376 = 0 := by omega
            subst hw_374
            refine lv_if_eq (tgt := 185) hx hb dX11_little_76 (by decide) (fun _ => ?_) (fun c_377 => absurd (by decide) c_377)
            refine lv_aload_n hx hb dX11_little_185 rfl (lv_at hl 2 rfl) ?_
            refine lv_bipush (v := I 61) hx hb dX11_little_186 (by decide) ?_
            obtain ⟨_, hc_378⟩ := hO.cell h_a (by decide) (ci := 11) rfl
            refine th_calli (va_runV (As := [.int (I 61)]) (rest := []) ⟨hx, hb, hml, hown, hts⟩ (n_isMarked l G y b0 σ_s_345 E hO a h_a 61 (show rng 61 from (show rng 61 from ⟨by decide, by decide⟩)) (by omega) (by omega) Bf hsr T hSt cc_354 (jqq311 + 1) hR_356 (by omega)) (cwV 1 hts gX11_little_X11_isMarked rfl rfl rfl (by decide +kernel) ⟨Nat.le_of_ble_eq_true rfl, Nat.le_of_ble_eq_true rfl⟩) (th_PV hK hH rfl hc_378) rfl rfl hl.1 rfl (lv_room (Nat.le_of_ble_eq_true rfl)) dX11_little_188 ⟨Nat.le_of_ble_eq_true rfl, Nat.le_of_ble_eq_true rfl⟩) hS (fun z_381 σ_s_380 H locs rz_381 hw_379 hH hS => ?_)
            obtain ⟨e9, bhw_379, hw_379⟩ := hw_379
            replace e9 := e9.symm
            subst e9
            replace hw_379 : (z_381 = 1 ∧ cc_354 = 0 ∧ tK T (jqq311 + 1) = 61) ∨ (z_381 = 0 ∧ (cc_354 ≠ 0 ∨ tK T (jqq311 + 1) ≠ 61)) := hw_379
            try simp only [h0_357, ne_eq, not_true_eq_false, not_false_eq_true, false_implies, true_implies, true_and, and_true, eq_self, false_or, or_false, false_and, and_false] at hw_379
            replace hw_379 : z_381 = 0 := by omega
            subst hw_379
            refine lv_if_ne (tgt := 212) hx hb dX11_little_191 (by decide) (fun c_382 => absurd (by decide) c_382) (fun _ => ?_)
            refine lv_aload_n hx hb dX11_little_194 rfl (lv_at hl 2 rfl) ?_
            refine lv_bipush (v := I 60) hx hb dX11_little_195 (by decide) ?_
            obtain ⟨_, hc_383⟩ := hO.cell h_a (by decide) (ci := 11) rfl
            refine th_calli (va_runV (As := [.int (I 60)]) (rest := []) ⟨hx, hb, hml, hown, hts⟩ (n_isMarked l G y b0 σ_s_345 E hO a h_a 60 (show rng 60 from (show rng 60 from ⟨by decide, by decide⟩)) (by omega) (by omega) Bf hsr T hSt cc_354 (jqq311 + 1) hR_356 (by omega)) (cwV 1 hts gX11_little_X11_isMarked rfl rfl rfl (by decide +kernel) ⟨Nat.le_of_ble_eq_true rfl, Nat.le_of_ble_eq_true rfl⟩) (th_PV hK hH rfl hc_383) rfl rfl hl.1 rfl (lv_room (Nat.le_of_ble_eq_true rfl)) dX11_little_197 ⟨Nat.le_of_ble_eq_true rfl, Nat.le_of_ble_eq_true rfl⟩) hS (fun z_386 σ_s_385 H locs rz_386 hw_384 hH hS => ?_)
            obtain ⟨e9, bhw_384, hw_384⟩ := hw_384
            replace e9 := e9.symm
            subst e9
            replace hw_384 : (z_386 = 1 ∧ cc_354 = 0 ∧ tK T (jqq311 + 1) = 60) ∨ (z_386 = 0 ∧ (cc_354 ≠ 0 ∨ tK T (jqq311 + 1) ≠ 60)) := hw_384
            try simp only [h0_357, ne_eq, not_true_eq_false, not_false_eq_true, false_implies, true_implies, true_and, and_true, eq_self, false_or, or_false, false_and, and_false] at hw_384
            replace hw_384 : z_386 = 0 := by omega
            subst hw_384
            refine lv_if_ne (tgt := 212) hx hb dX11_little_200 (by decide) (fun c_387 => absurd (by decide) c_387) (fun _ => ?_)
            refine lv_aload_n hx hb dX11_little_203 rfl (lv_at hl 2 rfl) ?_
            refine lv_bipush (v := I 62) hx hb dX11_little_204 (by decide) ?_
            obtain ⟨_, hc_388⟩ := hO.cell h_a (by decide) (ci := 11) rfl
            refine th_calli (va_runV (As := [.int (I 62)]) (rest := []) ⟨hx, hb, hml, hown, hts⟩ (n_isMarked l G y b0 σ_s_345 E hO a h_a 62 (show rng 62 from (show rng 62 from ⟨by decide, by decide⟩)) (by omega) (by omega) Bf hsr T hSt cc_354 (jqq311 + 1) hR_356 (by omega)) (cwV 1 hts gX11_little_X11_isMarked rfl rfl rfl (by decide +kernel) ⟨Nat.le_of_ble_eq_true rfl, Nat.le_of_ble_eq_true rfl⟩) (th_PV hK hH rfl hc_388) rfl rfl hl.1 rfl (lv_room (Nat.le_of_ble_eq_true rfl)) dX11_little_206 ⟨Nat.le_of_ble_eq_true rfl, Nat.le_of_ble_eq_true rfl⟩) hS (fun z_391 σ_s_390 H locs rz_391 hw_389 hH hS => ?_)
            obtain ⟨e9, bhw_389, hw_389⟩ := hw_389
            replace e9 := e9.symm
            subst e9
            replace hw_389 : (z_391 = 1 ∧ cc_354 = 0 ∧ tK T (jqq311 + 1) = 62) ∨ (z_391 = 0 ∧ (cc_354 ≠ 0 ∨ tK T (jqq311 + 1) ≠ 62)) := hw_389
            try simp only [h0_357, ne_eq, not_true_eq_false, not_false_eq_true, false_implies, true_implies, true_and, and_true, eq_self, false_or, or_false, false_and, and_false] at hw_389
            replace hw_389 : z_391 = 0 := by omega
            subst hw_389
            refine lv_if_eq (tgt := 216) hx hb dX11_little_209 (by decide) (fun _ => ?_) (fun c_392 => absurd (by decide) c_392)
            refine lv_iconst (v := I 0) hx hb dX11_little_216 (by decide) ?_
            refine lv_istore_n (lv' := [(2, .int (I 0)), (3, .int (I z_346)), (0, .ref a), (1, .int (I (-1)))]) hx hb dX11_little_217 rfl hl (by decide) rfl (fun ls hl => ?_)
            refine lv_iload_n hx hb dX11_little_218 rfl (lv_at hl 0 rfl) ?_
            refine lv_if_ne (tgt := 233) hx hb dX11_little_219 (by decide) (fun c_393 => absurd (by decide) c_393) (fun _ => ?_)
            refine lv_iload_n hx hb dX11_little_222 rfl (lv_at hl 3 rfl) ?_
            refine lv_iconst (v := I (-1)) hx hb dX11_little_223 (by decide) ?_
            refine lv_icmp_eq (tgt := 231) hx hb dX11_little_224 (by decide) (fun _ => ?_) (fun c_394 => absurd (by decide) c_394)
            refine lv_iconst (v := I 0) hx hb dX11_little_231 (by decide) ?_
            exact th_zret hx hb hr hlocks hH hS (z := 0) (by omega) ⟨hO, hF, hM, ⟨by omega, by omega⟩, ⟨by omega, cc_354, (jqq311 + 1), hR_356, ⟨(fun h9 => absurd rfl h9), fun _ => ⟨by omega, hG_364.was h0_357⟩, fun h9 => absurd h9 h0_357⟩⟩⟩ dX11_little_232
        · replace hs_319 := hs_319.resolve_left (fun h9 => h9 rfl)
          subst hw_316
          refine lv_if_ne (tgt := 79) hx hb dX11_little_67 (by decide) (fun c_395 => absurd (by decide) c_395) (fun _ => ?_)
          refine lv_aload_n hx hb dX11_little_70 rfl (lv_at hl 0 rfl) ?_
          refine lv_bipush (v := I 91) hx hb dX11_little_71 (by decide) ?_
          obtain ⟨_, hc_396⟩ := hO.cell h_a (by decide) (ci := 11) rfl
          refine th_calli (va_runV (As := [.int (I 91)]) (rest := []) ⟨hx, hb, hml, hown, hts⟩ (n_isMarked l G y b0 σ_J_313 E hO a h_a 91 (show rng 91 from (show rng 91 from ⟨by decide, by decide⟩)) (by omega) (by omega) Bf hsr T hSt 0 jqq311 J_313_7 (by omega)) (cwV 1 hts gX11_little_X11_isMarked rfl rfl rfl (by decide +kernel) ⟨Nat.le_of_ble_eq_true rfl, Nat.le_of_ble_eq_true rfl⟩) (th_PV hK hH rfl hc_396) rfl rfl hl.1 rfl (lv_room (Nat.le_of_ble_eq_true rfl)) dX11_little_73 ⟨Nat.le_of_ble_eq_true rfl, Nat.le_of_ble_eq_true rfl⟩) hS (fun z_399 σ_s_398 H locs rz_399 hw_397 hH hS => ?_)
          obtain ⟨e9, bhw_397, hw_397⟩ := hw_397
          replace e9 := e9.symm
          subst e9
          replace hw_397 : (z_399 = 1 ∧ (0 : Int) = 0 ∧ tK T jqq311 = 91) ∨ (z_399 = 0 ∧ ((0 : Int) ≠ 0 ∨ tK T jqq311 ≠ 91)) := hw_397
          obtain ⟨hw_397, -, hs_400⟩ | ⟨hw_397, hs_400⟩ := hw_397
          · subst hw_397
            refine lv_if_eq (tgt := 185) hx hb dX11_little_76 (by decide) (fun c_401 => absurd c_401 (by decide)) (fun _ => ?_)
            refine lv_aload_n hx hb dX11_little_79 rfl (lv_at hl 0 rfl) ?_
            refine lv_bipush (v := I 46) hx hb dX11_little_80 (by decide) ?_
            obtain ⟨_, hc_402⟩ := hO.cell h_a (by decide) (ci := 11) rfl
            refine th_calli (va_runV (As := [.int (I 46)]) (rest := []) ⟨hx, hb, hml, hown, hts⟩ (n_isMarked l G y b0 σ_J_313 E hO a h_a 46 (show rng 46 from (show rng 46 from ⟨by decide, by decide⟩)) (by omega) (by omega) Bf hsr T hSt 0 jqq311 J_313_7 (by omega)) (cwV 1 hts gX11_little_X11_isMarked rfl rfl rfl (by decide +kernel) ⟨Nat.le_of_ble_eq_true rfl, Nat.le_of_ble_eq_true rfl⟩) (th_PV hK hH rfl hc_402) rfl rfl hl.1 rfl (lv_room (Nat.le_of_ble_eq_true rfl)) dX11_little_82 ⟨Nat.le_of_ble_eq_true rfl, Nat.le_of_ble_eq_true rfl⟩) hS (fun z_405 σ_s_404 H locs rz_405 hw_403 hH hS => ?_)
            obtain ⟨e9, bhw_403, hw_403⟩ := hw_403
            replace e9 := e9.symm
            subst e9
            replace hw_403 : (z_405 = 1 ∧ (0 : Int) = 0 ∧ tK T jqq311 = 46) ∨ (z_405 = 0 ∧ ((0 : Int) ≠ 0 ∨ tK T jqq311 ≠ 46)) := hw_403
            replace hw_403 : z_405 = 0 := by omega
            subst hw_403
            refine lv_istore_n (lv' := [(2, .int (I 0)), (0, .ref a), (1, .int (I (-1)))]) hx hb dX11_little_85 rfl hl (by decide) rfl (fun ls hl => ?_)
            refine lv_aload_n hx hb dX11_little_86 rfl (lv_at hl 1 rfl) ?_
            obtain ⟨_, hc_406⟩ := hO.cell h_a (by decide) (ci := 11) rfl
            refine th_callv (va_runV (As := []) (rest := []) ⟨hx, hb, hml, hown, hts⟩ (n_pass l G y b0 σ_J_313 E hO a h_a Bf hsr T hSt 0 jqq311 J_313_7 (by omega) (by omega)) (cwV 0 hts gX11_little_X11_pass rfl rfl rfl (by decide +kernel) ⟨Nat.le_of_ble_eq_true rfl, Nat.le_of_ble_eq_true rfl⟩) (th_PV hK hH rfl hc_406) rfl rfl hl.1 rfl (lv_room (Nat.le_of_ble_eq_true rfl)) dX11_little_87 ⟨Nat.le_of_ble_eq_true rfl, Nat.le_of_ble_eq_true rfl⟩) hS (fun σ_s_408 H locs hw_407 hH hS => ?_)
            obtain ⟨hO9, hF9, hM9, hw_407⟩ := hw_407
            replace hM := hM.tu hM9 (by decide)
            replace hF := hF.tu hF9 (by decide)
            have e_409 : gI σ_s_408 a 11 = a110 := (hM9.i (by decide)).trans J_313_9
            have e_410 : gI σ_s_408 a 30 = (-1) := (hM9.i (by decide)).trans J_313_10
            have e_411 : gI σ_s_408 a 25 = 0 := (hM9.i (by decide)).trans J_313_11
            have e_412 : gI σ_s_408 a 27 = z_14 := (hM9.i (by decide)).trans J_313_12
            have e_413 : aF σ_s_408 (ad E a 1) = f1 := (hM9.a (by decide) (by decide)).trans J_313_13
            have e_414 : gI σ_s_408 a 19 = 0 := (hM9.i (by decide)).trans e_314
            replace hsr := hsr.mv hM9 (by decide) (by decide) (by decide) (by decide) (by decide)
            replace hO := hO9
            replace hw_407 : ((gI σ_J_313 a 13 ≤ gI σ_s_408 a 13 ∧ gI σ_s_408 a 13 ≤ gI σ_J_313 a 11 ∧ 0 ≤ gI σ_s_408 a 17 ∧ gI σ_s_408 a 17 ≤ gI σ_s_408 a 13) ∧ pgo (gI σ_s_408 a 19) (gI σ_s_408 a 14) (gI σ_J_313 a 13) (gI σ_s_408 a 13) ∧ gI σ_s_408 a 19 = gI σ_J_313 a 19) ∧ ∃ c1 j1, RSt σ_s_408 a T c1 j1 ∧ (c1 = 0 ∧ ((0 : Int) ≠ 0 → j1 = jqq311) ∧ ((0 : Int) = 0 → j1 = jqq311 + 1)) := hw_407
            replace hVJ_313_7 := hid.mk hVJ_313_7
            have hn_415 := hw_407.2
            replace hw_407 := hw_407.1
            obtain ⟨cc_416, jj_417, hR_418, hn_415⟩ := hn_415
            have hVhR_418 := hR_418.1
            have h0_419 : cc_416 = 0 := by omega
            subst h0_419
            try simp only [ne_eq, not_true_eq_false, not_false_eq_true, false_implies, true_implies, true_and, and_true, eq_self, false_or, or_false, false_and, and_false] at hVhR_418
            have e_420 : gI σ_s_408 a 19 = 0 := by omega
            have hj_421 : jqq311 + 1 = jj_417 := by omega
            subst hj_421
            have hG_422 := J_313_8.lplace hs_400
            refine lv_iload_n hx hb dX11_little_90 rfl (lv_at hl 0 rfl) ?_
            refine lv_if_eq (tgt := 101) hx hb dX11_little_91 (by decide) (fun _ => ?_) (fun c_423 => absurd (by decide) c_423)
            refine lv_aload_n hx hb dX11_little_101 rfl (lv_at hl 1 rfl) ?_
            obtain ⟨_, hc_424⟩ := hO.cell h_a (by decide) (ci := 11) rfl
            refine th_calli (va_runV (As := []) (rest := []) ⟨hx, hb, hml, hown, hts⟩ (n_readNumber l G y b0 σ_s_408 E hO a h_a Bf hsr T hSt 0 (jqq311 + 1) hR_418 (by omega)) (cwV 0 hts gX11_little_X11_readNumber rfl rfl rfl (by decide +kernel) ⟨Nat.le_of_ble_eq_true rfl, Nat.le_of_ble_eq_true rfl⟩) (th_PV hK hH rfl hc_424) rfl rfl hl.1 rfl (lv_room (Nat.le_of_ble_eq_true rfl)) dX11_little_102 ⟨Nat.le_of_ble_eq_true rfl, Nat.le_of_ble_eq_true rfl⟩) hS (fun z_427 σ_s_426 H locs rz_427 hw_425 hH hS => ?_)
            obtain ⟨hO9, hF9, hM9, hw_425⟩ := hw_425
            replace hM := hM.tu hM9 (by decide)
            replace hF := hF.tu hF9 (by decide)
            have e_428 : gI σ_s_426 a 11 = a110 := (hM9.i (by decide)).trans e_409
            have e_429 : gI σ_s_426 a 30 = (-1) := (hM9.i (by decide)).trans e_410
            have e_430 : gI σ_s_426 a 25 = 0 := (hM9.i (by decide)).trans e_411
            have e_431 : gI σ_s_426 a 27 = z_14 := (hM9.i (by decide)).trans e_412
            have e_432 : aF σ_s_426 (ad E a 1) = f1 := (hM9.a (by decide) (by decide)).trans e_413
            replace hsr := hsr.mv hM9 (by decide) (by decide) (by decide) (by decide) (by decide)
            replace hO := hO9
            replace hw_425 : ((gI σ_s_408 a 13 ≤ gI σ_s_426 a 13 ∧ gI σ_s_426 a 13 ≤ gI σ_s_408 a 11 ∧ 0 ≤ gI σ_s_426 a 17 ∧ gI σ_s_426 a 17 ≤ gI σ_s_426 a 13) ∧ pgo (gI σ_s_426 a 19) (gI σ_s_426 a 14) (gI σ_s_408 a 13) (gI σ_s_426 a 13) ∧ bdo (gI σ_s_408 a 19) (gI σ_s_426 a 19)) ∧ ∃ c1 j1, RSt σ_s_426 a T c1 j1 ∧ (((0 : Int) ≠ 0 → c1 = 0 ∧ j1 = (jqq311 + 1)) ∧ ((0 : Int) = 0 → nuR T (jqq311 + 1) c1 j1)) := hw_425
            have hb_433 := hw_407.1
            replace hw_407 := hid.mk hw_407
            replace hn_415 := hid.mk hn_415
            replace hVhR_418 := hid.mk hVhR_418
            have hn_434 := hw_425.2
            replace hw_425 := hw_425.1
            obtain ⟨cc_435, jj_436, hR_437, hn_434⟩ := hn_434
            have hVhR_437 := hR_437.1
            rcases Classical.em (cc_435 = 0) with h0_438 | h0_438
            · subst h0_438
              try simp only [ne_eq, not_true_eq_false, not_false_eq_true, false_implies, true_implies, true_and, and_true, eq_self, false_or, or_false, false_and, and_false] at hVhR_437
              have e_439 : gI σ_s_426 a 19 = 0 := by omega
              try simp only [ne_eq, not_true_eq_false, not_false_eq_true, false_implies, true_implies, true_and, and_true, eq_self, false_or, or_false, false_and, and_false] at hn_434
              have hle_440 : (jqq311 + 1) ≤ jj_436 := nuR.le (T := T) (c := 0) (by first | exact hn_434 | exact hn_434.2 rfl)
              have hG_441 := hG_422.num (c2 := 0) (j2 := jj_436) (fun h9 => absurd rfl h9) (fun _ => by first | exact hn_434 | exact hn_434.2 rfl)
              refine lv_istore_n (lv' := [(3, .int (I z_427)), (2, .int (I 0)), (0, .ref a), (1, .int (I (-1)))]) hx hb dX11_little_105 rfl hl (by decide) rfl (fun ls hl => ?_)
              refine lv_iload_n hx hb dX11_little_106 rfl (lv_at hl 1 rfl) ?_
              refine lv_if_ne (tgt := 116) hx hb dX11_little_107 (by decide) (fun c_442 => absurd (by decide) c_442) (fun _ => ?_)
              refine lv_aload_n hx hb dX11_little_110 rfl (lv_at hl 2 rfl) ?_
              refine lv_bipush (v := I 93) hx hb dX11_little_111 (by decide) ?_
              obtain ⟨_, hc_443⟩ := hO.cell h_a (by decide) (ci := 11) rfl
              refine th_callv (va_runV (As := [.int (I 93)]) (rest := []) ⟨hx, hb, hml, hown, hts⟩ (n_need l G y b0 σ_s_426 E hO a h_a 93 (show rng 93 from (show rng 93 from ⟨by decide, by decide⟩)) (by omega) (by omega) Bf hsr T hSt 0 jj_436 hR_437 (by omega)) (cwV 1 hts gX11_little_X11_need rfl rfl rfl (by decide +kernel) ⟨Nat.le_of_ble_eq_true rfl, Nat.le_of_ble_eq_true rfl⟩) (th_PV hK hH rfl hc_443) rfl rfl hl.1 rfl (lv_room (Nat.le_of_ble_eq_true rfl)) dX11_little_113 ⟨Nat.le_of_ble_eq_true rfl, Nat.le_of_ble_eq_true rfl⟩) hS (fun σ_s_445 H locs hw_444 hH hS => ?_)
              obtain ⟨hO9, hF9, hM9, hw_444⟩ := hw_444
              replace hM := hM.tu hM9 (by decide)
              replace hF := hF.tu hF9 (by decide)
              have e_446 : gI σ_s_445 a 11 = a110 := (hM9.i (by decide)).trans e_428
              have e_447 : gI σ_s_445 a 30 = (-1) := (hM9.i (by decide)).trans e_429
              have e_448 : gI σ_s_445 a 25 = 0 := (hM9.i (by decide)).trans e_430
              have e_449 : gI σ_s_445 a 27 = z_14 := (hM9.i (by decide)).trans e_431
              have e_450 : aF σ_s_445 (ad E a 1) = f1 := (hM9.a (by decide) (by decide)).trans e_432
              replace hsr := hsr.mv hM9 (by decide) (by decide) (by decide) (by decide) (by decide)
              replace hO := hO9
              replace hw_444 : ((gI σ_s_426 a 13 ≤ gI σ_s_445 a 13 ∧ gI σ_s_445 a 13 ≤ gI σ_s_426 a 11 ∧ 0 ≤ gI σ_s_445 a 17 ∧ gI σ_s_445 a 17 ≤ gI σ_s_445 a 13) ∧ pgo (gI σ_s_445 a 19) (gI σ_s_445 a 14) (gI σ_s_426 a 13) (gI σ_s_445 a 13) ∧ bdo (gI σ_s_426 a 19) (gI σ_s_445 a 19)) ∧ ∃ c1 j1, RSt σ_s_445 a T c1 j1 ∧ (((0 : Int) ≠ 0 → c1 = 0 ∧ j1 = jj_436) ∧ ((0 : Int) = 0 → (tK T jj_436 = 93 ∧ c1 = 0 ∧ j1 = jj_436 + 1) ∨ (tK T jj_436 ≠ 93 ∧ c1 = 1 ∧ j1 = jj_436))) := hw_444
              have hb_451 := hw_425.1
              replace hw_425 := hid.mk hw_425
              replace hn_434 := hid.mk hn_434
              replace hVhR_437 := hid.mk hVhR_437
              have hn_452 := hw_444.2
              replace hw_444 := hw_444.1
              obtain ⟨cc_453, jj_454, hR_455, hn_452⟩ := hn_452
              have hVhR_455 := hR_455.1
              rcases Classical.em (cc_453 = 0) with h0_456 | h0_456
              · subst h0_456
                try simp only [ne_eq, not_true_eq_false, not_false_eq_true, false_implies, true_implies, true_and, and_true, eq_self, false_or, or_false, false_and, and_false] at hVhR_455
                have e_457 : gI σ_s_445 a 19 = 0 := by omega
                try simp only [ne_eq, not_true_eq_false, not_false_eq_true, false_implies, true_implies, true_and, and_true, eq_self, false_or, or_false, false_and, and_false] at hn_452
                have hj_458 : jj_436 + 1 = jj_454 := by omega
                subst hj_458
                have hG_459 := hG_441.need (c2 := 0) (j2 := (jj_436 + 1)) (fun h9 => absurd rfl h9) (fun _ => by omega)
                refine lv_iload_n hx hb dX11_little_116 rfl (lv_at hl 3 rfl) ?_
                refine lv_iconst (v := I (-1)) hx hb dX11_little_117 (by decide) ?_
                refine lv_icmp_ne (tgt := 124) hx hb dX11_little_118 (by decide) (fun c_460 => absurd (by decide) c_460) (fun _ => ?_)
                refine lv_goto (tgt := 61) hx hb dX11_little_121 (by decide) ?_
                replace hl : lv_has ls 6 [(0, .ref a), (1, .int (I (-1)))] := lv_sub hl [2, 3] rfl
                exact ihJ_313 ((jj_436 + 1)) σ_s_445 _ _ _ (by first | (dsimp only; omega) | omega) ⟨hO, hF, hM, hsr, hH, hS, lv_sub hl [0, 1] rfl, by first | (dsimp only; omega) | omega, by first | (dsimp only; omega) | omega, by first | (dsimp only; omega) | omega, by first | (dsimp only; omega) | omega, by first | (dsimp only; omega) | omega, by first | (dsimp only; omega) | omega, by first | (dsimp only; omega) | omega, hR_455, (hG_459.ec rfl rfl (fun _ => by omega)), e_446, e_447, e_448, e_449, e_450⟩
              · try simp only [h0_456, ne_eq, not_true_eq_false, not_false_eq_true, false_implies, true_implies, true_and, and_true, eq_self, false_or, or_false, false_and, and_false] at hVhR_455
                try simp only [h0_456, ne_eq, not_true_eq_false, not_false_eq_true, false_implies, true_implies, true_and, and_true, eq_self, false_or, or_false, false_and, and_false] at hn_452
                have hj_461 : jj_436 = jj_454 := by omega
                subst hj_461
                have hG_462 := hG_441.need (c2 := cc_453) (j2 := jj_436) (fun h9 => absurd rfl h9) (fun _ => by omega)
                refine lv_iload_n hx hb dX11_little_116 rfl (lv_at hl 3 rfl) ?_
                refine lv_iconst (v := I (-1)) hx hb dX11_little_117 (by decide) ?_
                refine lv_icmp_ne (tgt := 124) hx hb dX11_little_118 (by decide) (fun c_463 => absurd (by decide) c_463) (fun _ => ?_)
                refine lv_goto (tgt := 61) hx hb dX11_little_121 (by decide) ?_
                refine lv_aload_n hx hb dX11_little_61 rfl (lv_at hl 2 rfl) ?_
                refine lv_bipush (v := I 46) hx hb dX11_little_62 (by decide) ?_
                obtain ⟨_, hc_464⟩ := hO.cell h_a (by decide) (ci := 11) rfl
                refine th_calli (va_runV (As := [.int (I 46)]) (rest := []) ⟨hx, hb, hml, hown, hts⟩ (n_isMarked l G y b0 σ_s_445 E hO a h_a 46 (show rng 46 from (show rng 46 from ⟨by decide, by decide⟩)) (by omega) (by omega) Bf hsr T hSt cc_453 jj_436 hR_455 (by omega)) (cwV 1 hts gX11_little_X11_isMarked rfl rfl rfl (by decide +kernel) ⟨Nat.le_of_ble_eq_true rfl, Nat.le_of_ble_eq_true rfl⟩) (th_PV hK hH rfl hc_464) rfl rfl hl.1 rfl (lv_room (Nat.le_of_ble_eq_true rfl)) dX11_little_64 ⟨Nat.le_of_ble_eq_true rfl, Nat.le_of_ble_eq_true rfl⟩) hS (fun z_467 σ_s_466 H locs rz_467 hw_465 hH hS => ?_)
                obtain ⟨e9, bhw_465, hw_465⟩ := hw_465
                replace e9 := e9.symm
                subst e9
                replace hw_465 : (z_467 = 1 ∧ cc_453 = 0 ∧ tK T jj_436 = 46) ∨ (z_467 = 0 ∧ (cc_453 ≠ 0 ∨ tK T jj_436 ≠ 46)) := hw_465
                have hb_468 := hw_444.1
                replace hw_444 := hid.mk hw_444
                replace hn_452 := hid.mk hn_452
                try simp only [h0_456, ne_eq, not_true_eq_false, not_false_eq_true, false_implies, true_implies, true_and, and_true, eq_self, false_or, or_false, false_and, and_false] at hw_465
                replace hw_465 : z_467 = 0 := by omega
                subst hw_465
                refine lv_if_ne (tgt := 79) hx hb dX11_little_67 (by decide) (fun c_469 => absurd (by decide) c_469) (fun _ => ?_)
                refine lv_aload_n hx hb dX11_little_70 rfl (lv_at hl 2 rfl) ?_
                refine lv_bipush (v := I 91) hx hb dX11_little_71 (by decide) ?_
                obtain ⟨_, hc_470⟩ := hO.cell h_a (by decide) (ci := 11) rfl
                refine th_calli (va_runV (As := [.int (I 91)]) (rest := []) ⟨hx, hb, hml, hown, hts⟩ (n_isMarked l G y b0 σ_s_445 E hO a h_a 91 (show rng 91 from (show rng 91 from ⟨by decide, by decide⟩)) (by omega) (by omega) Bf hsr T hSt cc_453 jj_436 hR_455 (by omega)) (cwV 1 hts gX11_little_X11_isMarked rfl rfl rfl (by decide +kernel) ⟨Nat.le_of_ble_eq_true rfl, Nat.le_of_ble_eq_true rfl⟩) (th_PV hK hH rfl hc_470) rfl rfl hl.1 rfl (lv_room (Nat.le_of_ble_eq_true rfl)) dX11_little_73 ⟨Nat.le_of_ble_eq_true rfl, Nat.le_of_ble_eq_true rfl⟩) hS (fun z_473 σ_s_472 H locs rz_473 hw_471 hH hS => ?_)
                obtain ⟨e9, bhw_471, hw_471⟩ := hw_471
                replace e9 := e9.symm
                subst e9
                replace hw_471 : (z_473 = 1 ∧ cc_453 = 0 ∧ tK T jj_436 = 91) ∨ (z_473 = 0 ∧ (cc_453 ≠ 0 ∨ tK T jj_436 ≠ 91)) := hw_471
                try simp only [h0_456, ne_eq, not_true_eq_false, not_false_eq_true, false_implies, true_implies, true_and, and_true, eq_self, false_or, or_false, false_and, and_false] at hw_471
                replace hw_471 : z_473 = 0 := by omega
                subst hw_471
                refine lv_if_eq (tgt := 185) hx hb dX11_little_76 (by decide) (fun _ => ?_) (fun c_474 => absurd (by decide) c_474)
                refine lv_aload_n hx hb dX11_little_185 rfl (lv_at hl 2 rfl) ?_
                refine lv_bipush (v := I 61) hx hb dX11_little_186 (by decide) ?_
                obtain ⟨_, hc_475⟩ := hO.cell h_a (by decide) (ci := 11) rfl
                refine th_calli (va_runV (As := [.int (I 61)]) (rest := []) ⟨hx, hb, hml, hown, hts⟩ (n_isMarked l G y b0 σ_s_445 E hO a h_a 61 (show rng 61 from (show rng 61 from ⟨by decide, by decide⟩)) (by omega) (by omega) Bf hsr T hSt cc_453 jj_436 hR_455 (by omega)) (cwV 1 hts gX11_little_X11_isMarked rfl rfl rfl (by decide +kernel) ⟨Nat.le_of_ble_eq_true rfl, Nat.le_of_ble_eq_true rfl⟩) (th_PV hK hH rfl hc_475) rfl rfl hl.1 rfl (lv_room (Nat.le_of_ble_eq_true rfl)) dX11_little_188 ⟨Nat.le_of_ble_eq_true rfl, Nat.le_of_ble_eq_true rfl⟩) hS (fun z_478 σ_s_477 H locs rz_478 hw_476 hH hS => ?_)
                obtain ⟨e9, bhw_476, hw_476⟩ := hw_476
                replace e9 := e9.symm
                subst e9
                replace hw_476 : (z_478 = 1 ∧ cc_453 = 0 ∧ tK T jj_436 = 61) ∨ (z_478 = 0 ∧ (cc_453 ≠ 0 ∨ tK T jj_436 ≠ 61)) := hw_476
                try simp only [h0_456, ne_eq, not_true_eq_false, not_false_eq_true, false_implies, true_implies, true_and, and_true, eq_self, false_or, or_false, false_and, and_false] at hw_476
                replace hw_476 : z_478 = 0 := by omega
                subst hw_476
                refine lv_if_ne (tgt := 212) hx hb dX11_little_191 (by decide) (fun c_479 => absurd (by decide) c_479) (fun _ => ?_)
                refine lv_aload_n hx hb dX11_little_194 rfl (lv_at hl 2 rfl) ?_
                refine lv_bipush (v := I 60) hx hb dX11_little_195 (by decide) ?_
                obtain ⟨_, hc_480⟩ := hO.cell h_a (by decide) (ci := 11) rfl
                refine th_calli (va_runV (As := [.int (I 60)]) (rest := []) ⟨hx, hb, hml, hown, hts⟩ (n_isMarked l G y b0 σ_s_445 E hO a h_a 60 (show rng 60 from (show rng 60 from ⟨by decide, by decide⟩)) (by omega) (by omega) Bf hsr T hSt cc_453 jj_436 hR_455 (by omega)) (cwV 1 hts gX11_little_X11_isMarked rfl rfl rfl (by decide +kernel) ⟨Nat.le_of_ble_eq_true rfl, Nat.le_of_ble_eq_true rfl⟩) (th_PV hK hH rfl hc_480) rfl rfl hl.1 rfl (lv_room (Nat.le_of_ble_eq_true rfl)) dX11_little_197 ⟨Nat.le_of_ble_eq_true rfl, Nat.le_of_ble_eq_true rfl⟩) hS (fun z_483 σ_s_482 H locs rz_483 hw_481 hH hS => ?_)
                obtain ⟨e9, bhw_481, hw_481⟩ := hw_481
                replace e9 := e9.symm
                subst e9
                replace hw_481 : (z_483 = 1 ∧ cc_453 = 0 ∧ tK T jj_436 = 60) ∨ (z_483 = 0 ∧ (cc_453 ≠ 0 ∨ tK T jj_436 ≠ 60)) := hw_481
                try simp only [h0_456, ne_eq, not_true_eq_false, not_false_eq_true, false_implies, true_implies, true_and, and_true, eq_self, false_or, or_false, false_and, and_false] at hw_481
                replace hw_481 : z_483 = 0 := by omega
                subst hw_481
                refine lv_if_ne (tgt := 212) hx hb dX11_little_200 (by decide) (fun c_484 => absurd (by decide) c_484) (fun _ => ?_)
                refine lv_aload_n hx hb dX11_little_203 rfl (lv_at hl 2 rfl) ?_
                refine lv_bipush (v := I 62) hx hb dX11_little_204 (by decide) ?_
                obtain ⟨_, hc_485⟩ := hO.cell h_a (by decide) (ci := 11) rfl
                refine th_calli (va_runV (As := [.int (I 62)]) (rest := []) ⟨hx, hb, hml, hown, hts⟩ (n_isMarked l G y b0 σ_s_445 E hO a h_a 62 (show rng 62 from (show rng 62 from ⟨by decide, by decide⟩)) (by omega) (by omega) Bf hsr T hSt cc_453 jj_436 hR_455 (by omega)) (cwV 1 hts gX11_little_X11_isMarked rfl rfl rfl (by decide +kernel) ⟨Nat.le_of_ble_eq_true rfl, Nat.le_of_ble_eq_true rfl⟩) (th_PV hK hH rfl hc_485) rfl rfl hl.1 rfl (lv_room (Nat.le_of_ble_eq_true rfl)) dX11_little_206 ⟨Nat.le_of_ble_eq_true rfl, Nat.le_of_ble_eq_true rfl⟩) hS (fun z_488 σ_s_487 H locs rz_488 hw_486 hH hS => ?_)
                obtain ⟨e9, bhw_486, hw_486⟩ := hw_486
                replace e9 := e9.symm
                subst e9
                replace hw_486 : (z_488 = 1 ∧ cc_453 = 0 ∧ tK T jj_436 = 62) ∨ (z_488 = 0 ∧ (cc_453 ≠ 0 ∨ tK T jj_436 ≠ 62)) := hw_486
                try simp only [h0_456, ne_eq, not_true_eq_false, not_false_eq_true, false_implies, true_implies, true_and, and_true, eq_self, false_or, or_false, false_and, and_false] at hw_486
                replace hw_486 : z_488 = 0 := by omega
                subst hw_486
                refine lv_if_eq (tgt := 216) hx hb dX11_little_209 (by decide) (fun _ => ?_) (fun c_489 => absurd (by decide) c_489)
                refine lv_iconst (v := I 0) hx hb dX11_little_216 (by decide) ?_
                refine lv_istore_n (lv' := [(2, .int (I 0)), (3, .int (I z_427)), (0, .ref a), (1, .int (I (-1)))]) hx hb dX11_little_217 rfl hl (by decide) rfl (fun ls hl => ?_)
                refine lv_iload_n hx hb dX11_little_218 rfl (lv_at hl 0 rfl) ?_
                refine lv_if_ne (tgt := 233) hx hb dX11_little_219 (by decide) (fun c_490 => absurd (by decide) c_490) (fun _ => ?_)
                refine lv_iload_n hx hb dX11_little_222 rfl (lv_at hl 3 rfl) ?_
                refine lv_iconst (v := I (-1)) hx hb dX11_little_223 (by decide) ?_
                refine lv_icmp_eq (tgt := 231) hx hb dX11_little_224 (by decide) (fun _ => ?_) (fun c_491 => absurd (by decide) c_491)
                refine lv_iconst (v := I 0) hx hb dX11_little_231 (by decide) ?_
                exact th_zret hx hb hr hlocks hH hS (z := 0) (by omega) ⟨hO, hF, hM, ⟨by omega, by omega⟩, ⟨by omega, cc_453, jj_436, hR_455, ⟨(fun h9 => absurd rfl h9), fun _ => ⟨by omega, hG_462.was h0_456⟩, fun h9 => absurd h9 h0_456⟩⟩⟩ dX11_little_232
            · try simp only [h0_438, ne_eq, not_true_eq_false, not_false_eq_true, false_implies, true_implies, true_and, and_true, eq_self, false_or, or_false, false_and, and_false] at hVhR_437
              try simp only [h0_438, ne_eq, not_true_eq_false, not_false_eq_true, false_implies, true_implies, true_and, and_true, eq_self, false_or, or_false, false_and, and_false] at hn_434
              have hle_492 : (jqq311 + 1) ≤ jj_436 := nuR.le (T := T) (c := cc_435) (by first | exact hn_434 | exact hn_434.2 rfl)
              have hG_493 := hG_422.num (c2 := cc_435) (j2 := jj_436) (fun h9 => absurd rfl h9) (fun _ => by first | exact hn_434 | exact hn_434.2 rfl)
              refine lv_istore_n (lv' := [(3, .int (I z_427)), (2, .int (I 0)), (0, .ref a), (1, .int (I (-1)))]) hx hb dX11_little_105 rfl hl (by decide) rfl (fun ls hl => ?_)
              refine lv_iload_n hx hb dX11_little_106 rfl (lv_at hl 1 rfl) ?_
              refine lv_if_ne (tgt := 116) hx hb dX11_little_107 (by decide) (fun c_494 => absurd (by decide) c_494) (fun _ => ?_)
              refine lv_aload_n hx hb dX11_little_110 rfl (lv_at hl 2 rfl) ?_
              refine lv_bipush (v := I 93) hx hb dX11_little_111 (by decide) ?_
              obtain ⟨_, hc_495⟩ := hO.cell h_a (by decide) (ci := 11) rfl
              refine th_callv (va_runV (As := [.int (I 93)]) (rest := []) ⟨hx, hb, hml, hown, hts⟩ (n_need l G y b0 σ_s_426 E hO a h_a 93 (show rng 93 from (show rng 93 from ⟨by decide, by decide⟩)) (by omega) (by omega) Bf hsr T hSt cc_435 jj_436 hR_437 (by omega)) (cwV 1 hts gX11_little_X11_need rfl rfl rfl (by decide +kernel) ⟨Nat.le_of_ble_eq_true rfl, Nat.le_of_ble_eq_true rfl⟩) (th_PV hK hH rfl hc_495) rfl rfl hl.1 rfl (lv_room (Nat.le_of_ble_eq_true rfl)) dX11_little_113 ⟨Nat.le_of_ble_eq_true rfl, Nat.le_of_ble_eq_true rfl⟩) hS (fun σ_s_497 H locs hw_496 hH hS => ?_)
              obtain ⟨hO9, hF9, hM9, hw_496⟩ := hw_496
              replace hM := hM.tu hM9 (by decide)
              replace hF := hF.tu hF9 (by decide)
              have e_498 : gI σ_s_497 a 11 = a110 := (hM9.i (by decide)).trans e_428
              have e_499 : gI σ_s_497 a 30 = (-1) := (hM9.i (by decide)).trans e_429
              have e_500 : gI σ_s_497 a 25 = 0 := (hM9.i (by decide)).trans e_430
              have e_501 : gI σ_s_497 a 27 = z_14 := (hM9.i (by decide)).trans e_431
              have e_502 : aF σ_s_497 (ad E a 1) = f1 := (hM9.a (by decide) (by decide)).trans e_432
              replace hsr := hsr.mv hM9 (by decide) (by decide) (by decide) (by decide) (by decide)
              replace hO := hO9
              replace hw_496 : ((gI σ_s_426 a 13 ≤ gI σ_s_497 a 13 ∧ gI σ_s_497 a 13 ≤ gI σ_s_426 a 11 ∧ 0 ≤ gI σ_s_497 a 17 ∧ gI σ_s_497 a 17 ≤ gI σ_s_497 a 13) ∧ pgo (gI σ_s_497 a 19) (gI σ_s_497 a 14) (gI σ_s_426 a 13) (gI σ_s_497 a 13) ∧ bdo (gI σ_s_426 a 19) (gI σ_s_497 a 19)) ∧ ∃ c1 j1, RSt σ_s_497 a T c1 j1 ∧ ((cc_435 ≠ 0 → c1 = cc_435 ∧ j1 = jj_436) ∧ (cc_435 = 0 → (tK T jj_436 = 93 ∧ c1 = 0 ∧ j1 = jj_436 + 1) ∨ (tK T jj_436 ≠ 93 ∧ c1 = 1 ∧ j1 = jj_436))) := hw_496
              have hb_503 := hw_425.1
              replace hw_425 := hid.mk hw_425
              replace hn_434 := hid.mk hn_434
              replace hVhR_437 := hid.mk hVhR_437
              have hn_504 := hw_496.2
              replace hw_496 := hw_496.1
              obtain ⟨cc_505, jj_506, hR_507, hn_504⟩ := hn_504
              have hVhR_507 := hR_507.1
              try simp only [h0_438, ne_eq, not_true_eq_false, not_false_eq_true, false_implies, true_implies, true_and, and_true, eq_self, false_or, or_false, false_and, and_false] at hn_504
              have h0_508 : ¬ cc_505 = 0 := by omega
              try simp only [h0_508, ne_eq, not_true_eq_false, not_false_eq_true, false_implies, true_implies, true_and, and_true, eq_self, false_or, or_false, false_and, and_false] at hVhR_507
              try simp only [h0_438, h0_508, ne_eq, not_true_eq_false, not_false_eq_true, false_implies, true_implies, true_and, and_true, eq_self, false_or, or_false, false_and, and_false] at hn_504
              have hc_509 : cc_435 = cc_505 := by omega
              subst hc_509
              have hj_510 : jj_436 = jj_506 := by omega
              subst hj_510
              refine lv_iload_n hx hb dX11_little_116 rfl (lv_at hl 3 rfl) ?_
              refine lv_iconst (v := I (-1)) hx hb dX11_little_117 (by decide) ?_
              refine lv_icmp_ne (tgt := 124) hx hb dX11_little_118 (by decide) (fun c_511 => absurd (by decide) c_511) (fun _ => ?_)
              refine lv_goto (tgt := 61) hx hb dX11_little_121 (by decide) ?_
              refine lv_aload_n hx hb dX11_little_61 rfl (lv_at hl 2 rfl) ?_
              refine lv_bipush (v := I 46) hx hb dX11_little_62 (by decide) ?_
              obtain ⟨_, hc_512⟩ := hO.cell h_a (by decide) (ci := 11) rfl
              refine th_calli (va_runV (As := [.int (I 46)]) (rest := []) ⟨hx, hb, hml, hown, hts⟩ (n_isMarked l G y b0 σ_s_497 E hO a h_a 46 (show rng 46 from (show rng 46 from ⟨by decide, by decide⟩)) (by omega) (by omega) Bf hsr T hSt cc_435 jj_436 hR_507 (by omega)) (cwV 1 hts gX11_little_X11_isMarked rfl rfl rfl (by decide +kernel) ⟨Nat.le_of_ble_eq_true rfl, Nat.le_of_ble_eq_true rfl⟩) (th_PV hK hH rfl hc_512) rfl rfl hl.1 rfl (lv_room (Nat.le_of_ble_eq_true rfl)) dX11_little_64 ⟨Nat.le_of_ble_eq_true rfl, Nat.le_of_ble_eq_true rfl⟩) hS (fun z_515 σ_s_514 H locs rz_515 hw_513 hH hS => ?_)
              obtain ⟨e9, bhw_513, hw_513⟩ := hw_513
              replace e9 := e9.symm
              subst e9
              replace hw_513 : (z_515 = 1 ∧ cc_435 = 0 ∧ tK T jj_436 = 46) ∨ (z_515 = 0 ∧ (cc_435 ≠ 0 ∨ tK T jj_436 ≠ 46)) := hw_513
              have hb_516 := hw_496.1
              replace hw_496 := hid.mk hw_496
              replace hn_504 := hid.mk hn_504
              try simp only [h0_508, ne_eq, not_true_eq_false, not_false_eq_true, false_implies, true_implies, true_and, and_true, eq_self, false_or, or_false, false_and, and_false] at hw_513
              replace hw_513 : z_515 = 0 := by omega
              subst hw_513
              refine lv_if_ne (tgt := 79) hx hb dX11_little_67 (by decide) (fun c_517 => absurd (by decide) c_517) (fun _ => ?_)
              refine lv_aload_n hx hb dX11_little_70 rfl (lv_at hl 2 rfl) ?_
              refine lv_bipush (v := I 91) hx hb dX11_little_71 (by decide) ?_
              obtain ⟨_, hc_518⟩ := hO.cell h_a (by decide) (ci := 11) rfl
              refine th_calli (va_runV (As := [.int (I 91)]) (rest := []) ⟨hx, hb, hml, hown, hts⟩ (n_isMarked l G y b0 σ_s_497 E hO a h_a 91 (show rng 91 from (show rng 91 from ⟨by decide, by decide⟩)) (by omega) (by omega) Bf hsr T hSt cc_435 jj_436 hR_507 (by omega)) (cwV 1 hts gX11_little_X11_isMarked rfl rfl rfl (by decide +kernel) ⟨Nat.le_of_ble_eq_true rfl, Nat.le_of_ble_eq_true rfl⟩) (th_PV hK hH rfl hc_518) rfl rfl hl.1 rfl (lv_room (Nat.le_of_ble_eq_true rfl)) dX11_little_73 ⟨Nat.le_of_ble_eq_true rfl, Nat.le_of_ble_eq_true rfl⟩) hS (fun z_521 σ_s_520 H locs rz_521 hw_519 hH hS => ?_)
              obtain ⟨e9, bhw_519, hw_519⟩ := hw_519
              replace e9 := e9.symm
              subst e9
              replace hw_519 : (z_521 = 1 ∧ cc_435 = 0 ∧ tK T jj_436 = 91) ∨ (z_521 = 0 ∧ (cc_435 ≠ 0 ∨ tK T jj_436 ≠ 91)) := hw_519
              try simp only [h0_508, ne_eq, not_true_eq_false, not_false_eq_true, false_implies, true_implies, true_and, and_true, eq_self, false_or, or_false, false_and, and_false] at hw_519
              replace hw_519 : z_521 = 0 := by omega
              subst hw_519
              refine lv_if_eq (tgt := 185) hx hb dX11_little_76 (by decide) (fun _ => ?_) (fun c_522 => absurd (by decide) c_522)
              refine lv_aload_n hx hb dX11_little_185 rfl (lv_at hl 2 rfl) ?_
              refine lv_bipush (v := I 61) hx hb dX11_little_186 (by decide) ?_
              obtain ⟨_, hc_523⟩ := hO.cell h_a (by decide) (ci := 11) rfl
              refine th_calli (va_runV (As := [.int (I 61)]) (rest := []) ⟨hx, hb, hml, hown, hts⟩ (n_isMarked l G y b0 σ_s_497 E hO a h_a 61 (show rng 61 from (show rng 61 from ⟨by decide, by decide⟩)) (by omega) (by omega) Bf hsr T hSt cc_435 jj_436 hR_507 (by omega)) (cwV 1 hts gX11_little_X11_isMarked rfl rfl rfl (by decide +kernel) ⟨Nat.le_of_ble_eq_true rfl, Nat.le_of_ble_eq_true rfl⟩) (th_PV hK hH rfl hc_523) rfl rfl hl.1 rfl (lv_room (Nat.le_of_ble_eq_true rfl)) dX11_little_188 ⟨Nat.le_of_ble_eq_true rfl, Nat.le_of_ble_eq_true rfl⟩) hS (fun z_526 σ_s_525 H locs rz_526 hw_524 hH hS => ?_)
              obtain ⟨e9, bhw_524, hw_524⟩ := hw_524
              replace e9 := e9.symm
              subst e9
              replace hw_524 : (z_526 = 1 ∧ cc_435 = 0 ∧ tK T jj_436 = 61) ∨ (z_526 = 0 ∧ (cc_435 ≠ 0 ∨ tK T jj_436 ≠ 61)) := hw_524
              try simp only [h0_508, ne_eq, not_true_eq_false, not_false_eq_true, false_implies, true_implies, true_and, and_true, eq_self, false_or, or_false, false_and, and_false] at hw_524
              replace hw_524 : z_526 = 0 := by omega
              subst hw_524
              refine lv_if_ne (tgt := 212) hx hb dX11_little_191 (by decide) (fun c_527 => absurd (by decide) c_527) (fun _ => ?_)
              refine lv_aload_n hx hb dX11_little_194 rfl (lv_at hl 2 rfl) ?_
              refine lv_bipush (v := I 60) hx hb dX11_little_195 (by decide) ?_
              obtain ⟨_, hc_528⟩ := hO.cell h_a (by decide) (ci := 11) rfl
              refine th_calli (va_runV (As := [.int (I 60)]) (rest := []) ⟨hx, hb, hml, hown, hts⟩ (n_isMarked l G y b0 σ_s_497 E hO a h_a 60 (show rng 60 from (show rng 60 from ⟨by decide, by decide⟩)) (by omega) (by omega) Bf hsr T hSt cc_435 jj_436 hR_507 (by omega)) (cwV 1 hts gX11_little_X11_isMarked rfl rfl rfl (by decide +kernel) ⟨Nat.le_of_ble_eq_true rfl, Nat.le_of_ble_eq_true rfl⟩) (th_PV hK hH rfl hc_528) rfl rfl hl.1 rfl (lv_room (Nat.le_of_ble_eq_true rfl)) dX11_little_197 ⟨Nat.le_of_ble_eq_true rfl, Nat.le_of_ble_eq_true rfl⟩) hS (fun z_531 σ_s_530 H locs rz_531 hw_529 hH hS => ?_)
              obtain ⟨e9, bhw_529, hw_529⟩ := hw_529
              replace e9 := e9.symm
              subst e9
              replace hw_529 : (z_531 = 1 ∧ cc_435 = 0 ∧ tK T jj_436 = 60) ∨ (z_531 = 0 ∧ (cc_435 ≠ 0 ∨ tK T jj_436 ≠ 60)) := hw_529
              try simp only [h0_508, ne_eq, not_true_eq_false, not_false_eq_true, false_implies, true_implies, true_and, and_true, eq_self, false_or, or_false, false_and, and_false] at hw_529
              replace hw_529 : z_531 = 0 := by omega
              subst hw_529
              refine lv_if_ne (tgt := 212) hx hb dX11_little_200 (by decide) (fun c_532 => absurd (by decide) c_532) (fun _ => ?_)
              refine lv_aload_n hx hb dX11_little_203 rfl (lv_at hl 2 rfl) ?_
              refine lv_bipush (v := I 62) hx hb dX11_little_204 (by decide) ?_
              obtain ⟨_, hc_533⟩ := hO.cell h_a (by decide) (ci := 11) rfl
              refine th_calli (va_runV (As := [.int (I 62)]) (rest := []) ⟨hx, hb, hml, hown, hts⟩ (n_isMarked l G y b0 σ_s_497 E hO a h_a 62 (show rng 62 from (show rng 62 from ⟨by decide, by decide⟩)) (by omega) (by omega) Bf hsr T hSt cc_435 jj_436 hR_507 (by omega)) (cwV 1 hts gX11_little_X11_isMarked rfl rfl rfl (by decide +kernel) ⟨Nat.le_of_ble_eq_true rfl, Nat.le_of_ble_eq_true rfl⟩) (th_PV hK hH rfl hc_533) rfl rfl hl.1 rfl (lv_room (Nat.le_of_ble_eq_true rfl)) dX11_little_206 ⟨Nat.le_of_ble_eq_true rfl, Nat.le_of_ble_eq_true rfl⟩) hS (fun z_536 σ_s_535 H locs rz_536 hw_534 hH hS => ?_)
              obtain ⟨e9, bhw_534, hw_534⟩ := hw_534
              replace e9 := e9.symm
              subst e9
              replace hw_534 : (z_536 = 1 ∧ cc_435 = 0 ∧ tK T jj_436 = 62) ∨ (z_536 = 0 ∧ (cc_435 ≠ 0 ∨ tK T jj_436 ≠ 62)) := hw_534
              try simp only [h0_508, ne_eq, not_true_eq_false, not_false_eq_true, false_implies, true_implies, true_and, and_true, eq_self, false_or, or_false, false_and, and_false] at hw_534
              replace hw_534 : z_536 = 0 := by omega
              subst hw_534
              refine lv_if_eq (tgt := 216) hx hb dX11_little_209 (by decide) (fun _ => ?_) (fun c_537 => absurd (by decide) c_537)
              refine lv_iconst (v := I 0) hx hb dX11_little_216 (by decide) ?_
              refine lv_istore_n (lv' := [(2, .int (I 0)), (3, .int (I z_427)), (0, .ref a), (1, .int (I (-1)))]) hx hb dX11_little_217 rfl hl (by decide) rfl (fun ls hl => ?_)
              refine lv_iload_n hx hb dX11_little_218 rfl (lv_at hl 0 rfl) ?_
              refine lv_if_ne (tgt := 233) hx hb dX11_little_219 (by decide) (fun c_538 => absurd (by decide) c_538) (fun _ => ?_)
              refine lv_iload_n hx hb dX11_little_222 rfl (lv_at hl 3 rfl) ?_
              refine lv_iconst (v := I (-1)) hx hb dX11_little_223 (by decide) ?_
              refine lv_icmp_eq (tgt := 231) hx hb dX11_little_224 (by decide) (fun _ => ?_) (fun c_539 => absurd (by decide) c_539)
              refine lv_iconst (v := I 0) hx hb dX11_little_231 (by decide) ?_
              exact th_zret hx hb hr hlocks hH hS (z := 0) (by omega) ⟨hO, hF, hM, ⟨by omega, by omega⟩, ⟨by omega, cc_435, jj_436, hR_507, ⟨(fun h9 => absurd rfl h9), fun _ => ⟨by omega, hG_493.was h0_508⟩, fun h9 => absurd h9 h0_508⟩⟩⟩ dX11_little_232
          · replace hs_400 := hs_400.resolve_left (fun h9 => h9 rfl)
            subst hw_397
            refine lv_if_eq (tgt := 185) hx hb dX11_little_76 (by decide) (fun _ => ?_) (fun c_540 => absurd (by decide) c_540)
            refine lv_aload_n hx hb dX11_little_185 rfl (lv_at hl 0 rfl) ?_
            refine lv_bipush (v := I 61) hx hb dX11_little_186 (by decide) ?_
            obtain ⟨_, hc_541⟩ := hO.cell h_a (by decide) (ci := 11) rfl
            refine th_calli (va_runV (As := [.int (I 61)]) (rest := []) ⟨hx, hb, hml, hown, hts⟩ (n_isMarked l G y b0 σ_J_313 E hO a h_a 61 (show rng 61 from (show rng 61 from ⟨by decide, by decide⟩)) (by omega) (by omega) Bf hsr T hSt 0 jqq311 J_313_7 (by omega)) (cwV 1 hts gX11_little_X11_isMarked rfl rfl rfl (by decide +kernel) ⟨Nat.le_of_ble_eq_true rfl, Nat.le_of_ble_eq_true rfl⟩) (th_PV hK hH rfl hc_541) rfl rfl hl.1 rfl (lv_room (Nat.le_of_ble_eq_true rfl)) dX11_little_188 ⟨Nat.le_of_ble_eq_true rfl, Nat.le_of_ble_eq_true rfl⟩) hS (fun z_544 σ_s_543 H locs rz_544 hw_542 hH hS => ?_)
            obtain ⟨e9, bhw_542, hw_542⟩ := hw_542
            replace e9 := e9.symm
            subst e9
            replace hw_542 : (z_544 = 1 ∧ (0 : Int) = 0 ∧ tK T jqq311 = 61) ∨ (z_544 = 0 ∧ ((0 : Int) ≠ 0 ∨ tK T jqq311 ≠ 61)) := hw_542
            obtain ⟨hw_542, -, hs_545⟩ | ⟨hw_542, hs_545⟩ := hw_542
            · subst hw_542
              refine lv_if_ne (tgt := 212) hx hb dX11_little_191 (by decide) (fun _ => ?_) (fun c_546 => absurd c_546 (by decide))
              refine lv_iconst (v := I 1) hx hb dX11_little_212 (by decide) ?_
              refine lv_goto (tgt := 217) hx hb dX11_little_213 (by decide) ?_
              refine lv_istore_n (lv' := [(2, .int (I 1)), (0, .ref a), (1, .int (I (-1)))]) hx hb dX11_little_217 rfl hl (by decide) rfl (fun ls hl => ?_)
              refine lv_iload_n hx hb dX11_little_218 rfl (lv_at hl 0 rfl) ?_
              refine lv_if_ne (tgt := 233) hx hb dX11_little_219 (by decide) (fun _ => ?_) (fun c_547 => absurd c_547 (by decide))
              refine lv_aload_n hx hb dX11_little_233 rfl (lv_at hl 1 rfl) ?_
              refine lv_aload_n hx hb dX11_little_234 rfl (lv_at hl 1 rfl) ?_
              refine ok.getI hO h_a (by decide) k13_17 (fun _ _ he hv kk => th_get (ci := 11) (C := RX11) (T := TX11) (N := 66) hx hb hts inX11 hown hK hH he rfl 17 (by decide) fl3 hv dX11_little_235 kk) (fun z_548 e_549 rz_548 lz_548 uz_548 => ?_)
              obtain ⟨_, hc_550⟩ := hO.cell h_a (by decide) (ci := 11) rfl
              refine th_calli (va_runV (As := [.int (I z_548)]) (rest := []) ⟨hx, hb, hml, hown, hts⟩ (m_byteAt l G y b0 σ_J_313 E hO a h_a z_548 (show rng z_548 from rz_548) (by omega) (by omega) Bf hsr) (cwV 1 hts gX11_little_X11_byteAt rfl rfl rfl (by decide +kernel) ⟨Nat.le_of_ble_eq_true rfl, Nat.le_of_ble_eq_true rfl⟩) (th_PV hK hH rfl hc_550) rfl rfl hl.1 rfl (lv_room (Nat.le_of_ble_eq_true rfl)) dX11_little_238 ⟨Nat.le_of_ble_eq_true rfl, Nat.le_of_ble_eq_true rfl⟩) hS (fun z_553 σ_s_552 H locs rz_553 hw_551 hH hS => ?_)
              obtain ⟨e9, hw_551⟩ := hw_551
              replace e9 := e9.symm
              subst e9
              replace hw_551 : z_553 = Bf z_548 ∧ (z_553 = -1 ∨ z_548 < gI σ_J_313 a 11) := hw_551
              refine lv_istore_n (lv' := [(3, .int (I z_553)), (2, .int (I 1)), (0, .ref a), (1, .int (I (-1)))]) hx hb dX11_little_241 rfl hl (by decide) rfl (fun ls hl => ?_)
              refine lv_aload_n hx hb dX11_little_242 rfl (lv_at hl 2 rfl) ?_
              obtain ⟨_, hc_554⟩ := hO.cell h_a (by decide) (ci := 11) rfl
              refine th_callv (va_runV (As := []) (rest := []) ⟨hx, hb, hml, hown, hts⟩ (n_pass l G y b0 σ_J_313 E hO a h_a Bf hsr T hSt 0 jqq311 J_313_7 (by omega) (by omega)) (cwV 0 hts gX11_little_X11_pass rfl rfl rfl (by decide +kernel) ⟨Nat.le_of_ble_eq_true rfl, Nat.le_of_ble_eq_true rfl⟩) (th_PV hK hH rfl hc_554) rfl rfl hl.1 rfl (lv_room (Nat.le_of_ble_eq_true rfl)) dX11_little_243 ⟨Nat.le_of_ble_eq_true rfl, Nat.le_of_ble_eq_true rfl⟩) hS (fun σ_s_556 H locs hw_555 hH hS => ?_)
              obtain ⟨hO9, hF9, hM9, hw_555⟩ := hw_555
              replace hM := hM.tu hM9 (by decide)
              replace hF := hF.tu hF9 (by decide)
              have e_557 : gI σ_s_556 a 11 = a110 := (hM9.i (by decide)).trans J_313_9
              have e_558 : gI σ_s_556 a 30 = (-1) := (hM9.i (by decide)).trans J_313_10
              have e_559 : gI σ_s_556 a 25 = 0 := (hM9.i (by decide)).trans J_313_11
              have e_560 : gI σ_s_556 a 27 = z_14 := (hM9.i (by decide)).trans J_313_12
              have e_561 : aF σ_s_556 (ad E a 1) = f1 := (hM9.a (by decide) (by decide)).trans J_313_13
              have e_562 : gI σ_s_556 a 19 = 0 := (hM9.i (by decide)).trans e_314
              replace hsr := hsr.mv hM9 (by decide) (by decide) (by decide) (by decide) (by decide)
              replace hO := hO9
              replace hw_555 : ((gI σ_J_313 a 13 ≤ gI σ_s_556 a 13 ∧ gI σ_s_556 a 13 ≤ gI σ_J_313 a 11 ∧ 0 ≤ gI σ_s_556 a 17 ∧ gI σ_s_556 a 17 ≤ gI σ_s_556 a 13) ∧ pgo (gI σ_s_556 a 19) (gI σ_s_556 a 14) (gI σ_J_313 a 13) (gI σ_s_556 a 13) ∧ gI σ_s_556 a 19 = gI σ_J_313 a 19) ∧ ∃ c1 j1, RSt σ_s_556 a T c1 j1 ∧ (c1 = 0 ∧ ((0 : Int) ≠ 0 → j1 = jqq311) ∧ ((0 : Int) = 0 → j1 = jqq311 + 1)) := hw_555
              replace hVJ_313_7 := hid.mk hVJ_313_7
              replace hw_551 := hid.mk hw_551
              have hn_563 := hw_555.2
              replace hw_555 := hw_555.1
              obtain ⟨cc_564, jj_565, hR_566, hn_563⟩ := hn_563
              have hVhR_566 := hR_566.1
              have h0_567 : cc_564 = 0 := by omega
              subst h0_567
              try simp only [ne_eq, not_true_eq_false, not_false_eq_true, false_implies, true_implies, true_and, and_true, eq_self, false_or, or_false, false_and, and_false] at hVhR_566
              have e_568 : gI σ_s_556 a 19 = 0 := by omega
              have hj_569 : jqq311 + 1 = jj_565 := by omega
              subst hj_569
              refine lv_aload_n hx hb dX11_little_246 rfl (lv_at hl 2 rfl) ?_
              refine ok.getI hO h_a (by decide) k13_14 (fun _ _ he hv kk => th_get (ci := 11) (C := RX11) (T := TX11) (N := 66) hx hb hts inX11 hown hK hH he rfl 14 (by decide) fl4 hv dX11_little_247 kk) (fun z_570 e_571 rz_570 lz_570 uz_570 => ?_)
              have ht_572 := hR_566.t1
              refine lv_iconst (v := I 1) hx hb dX11_little_250 (by decide) ?_
              refine lv_icmp_ne (tgt := 258) hx hb dX11_little_251 (by decide) (fun c_573 => ?_) (fun c_573 => ?_)
              · replace c_573 := mt (I_eq (a := z_570) (b := 1) rz_570 (show rng 1 from ⟨by decide, by decide⟩)).mpr c_573
                have hG_574 := J_313_8.lnum (by omega) (by omega)
                refine lv_iconst (v := I 0) hx hb dX11_little_258 (by decide) ?_
                refine lv_istore (lv' := [(4, .int (I 0)), (3, .int (I z_553)), (2, .int (I 1)), (0, .ref a), (1, .int (I (-1)))]) hx hb dX11_little_259 hl (by decide) rfl (fun ls hl => ?_)
                refine lv_iload hx hb dX11_little_261 (lv_at hl 0 rfl) ?_
                refine lv_if_eq (tgt := 273) hx hb dX11_little_263 (by decide) (fun _ => ?_) (fun c_575 => absurd (by decide) c_575)
                refine lv_aload_n hx hb dX11_little_273 rfl (lv_at hl 3 rfl) ?_
                obtain ⟨_, hc_576⟩ := hO.cell h_a (by decide) (ci := 11) rfl
                refine th_calli (va_runV (As := []) (rest := []) ⟨hx, hb, hml, hown, hts⟩ (n_readNumber l G y b0 σ_s_556 E hO a h_a Bf hsr T hSt 0 (jqq311 + 1) hR_566 (by omega)) (cwV 0 hts gX11_little_X11_readNumber rfl rfl rfl (by decide +kernel) ⟨Nat.le_of_ble_eq_true rfl, Nat.le_of_ble_eq_true rfl⟩) (th_PV hK hH rfl hc_576) rfl rfl hl.1 rfl (lv_room (Nat.le_of_ble_eq_true rfl)) dX11_little_274 ⟨Nat.le_of_ble_eq_true rfl, Nat.le_of_ble_eq_true rfl⟩) hS (fun z_579 σ_s_578 H locs rz_579 hw_577 hH hS => ?_)
                obtain ⟨hO9, hF9, hM9, hw_577⟩ := hw_577
                replace hM := hM.tu hM9 (by decide)
                replace hF := hF.tu hF9 (by decide)
                have e_580 : gI σ_s_578 a 11 = a110 := (hM9.i (by decide)).trans e_557
                have e_581 : gI σ_s_578 a 30 = (-1) := (hM9.i (by decide)).trans e_558
                have e_582 : gI σ_s_578 a 25 = 0 := (hM9.i (by decide)).trans e_559
                have e_583 : gI σ_s_578 a 27 = z_14 := (hM9.i (by decide)).trans e_560
                have e_584 : aF σ_s_578 (ad E a 1) = f1 := (hM9.a (by decide) (by decide)).trans e_561
                replace hsr := hsr.mv hM9 (by decide) (by decide) (by decide) (by decide) (by decide)
                replace hO := hO9
                replace hw_577 : ((gI σ_s_556 a 13 ≤ gI σ_s_578 a 13 ∧ gI σ_s_578 a 13 ≤ gI σ_s_556 a 11 ∧ 0 ≤ gI σ_s_578 a 17 ∧ gI σ_s_578 a 17 ≤ gI σ_s_578 a 13) ∧ pgo (gI σ_s_578 a 19) (gI σ_s_578 a 14) (gI σ_s_556 a 13) (gI σ_s_578 a 13) ∧ bdo (gI σ_s_556 a 19) (gI σ_s_578 a 19)) ∧ ∃ c1 j1, RSt σ_s_578 a T c1 j1 ∧ (((0 : Int) ≠ 0 → c1 = 0 ∧ j1 = (jqq311 + 1)) ∧ ((0 : Int) = 0 → nuR T (jqq311 + 1) c1 j1)) := hw_577
                have hb_585 := hw_555.1
                replace hw_555 := hid.mk hw_555
                replace hn_563 := hid.mk hn_563
                replace hVhR_566 := hid.mk hVhR_566
                have hn_586 := hw_577.2
                replace hw_577 := hw_577.1
                obtain ⟨cc_587, jj_588, hR_589, hn_586⟩ := hn_586
                have hVhR_589 := hR_589.1
                rcases Classical.em (cc_587 = 0) with h0_590 | h0_590
                · subst h0_590
                  try simp only [ne_eq, not_true_eq_false, not_false_eq_true, false_implies, true_implies, true_and, and_true, eq_self, false_or, or_false, false_and, and_false] at hVhR_589
                  have e_591 : gI σ_s_578 a 19 = 0 := by omega
                  try simp only [ne_eq, not_true_eq_false, not_false_eq_true, false_implies, true_implies, true_and, and_true, eq_self, false_or, or_false, false_and, and_false] at hn_586
                  have hle_592 : (jqq311 + 1) ≤ jj_588 := nuR.le (T := T) (c := 0) (by first | exact hn_586 | exact hn_586.2 rfl)
                  have hG_593 := hG_574.num (c2 := 0) (j2 := jj_588) (fun h9 => absurd rfl h9) (fun _ => by first | exact hn_586 | exact hn_586.2 rfl)
                  refine lv_istore (lv' := [(5, .int (I z_579)), (4, .int (I 0)), (3, .int (I z_553)), (2, .int (I 1)), (0, .ref a), (1, .int (I (-1)))]) hx hb dX11_little_277 hl (by decide) rfl (fun ls hl => ?_)
                  refine lv_iload_n hx hb dX11_little_279 rfl (lv_at hl 5 rfl) ?_
                  refine lv_iconst (v := I (-1)) hx hb dX11_little_280 (by decide) ?_
                  refine lv_icmp_eq (tgt := 352) hx hb dX11_little_281 (by decide) (fun _ => ?_) (fun c_594 => absurd (by decide) c_594)
                  refine lv_iconst (v := I 0) hx hb dX11_little_352 (by decide) ?_
                  exact th_zret hx hb hr hlocks hH hS (z := 0) (by omega) ⟨hO, hF, hM, ⟨by omega, by omega⟩, ⟨by omega, 0, jj_588, hR_589, ⟨(fun h9 => absurd rfl h9), fun _ => ⟨by omega, hG_593.ec rfl rfl (fun _ => by omega)⟩, fun _ => by omega⟩⟩⟩ dX11_little_353
                · try simp only [h0_590, ne_eq, not_true_eq_false, not_false_eq_true, false_implies, true_implies, true_and, and_true, eq_self, false_or, or_false, false_and, and_false] at hVhR_589
                  try simp only [h0_590, ne_eq, not_true_eq_false, not_false_eq_true, false_implies, true_implies, true_and, and_true, eq_self, false_or, or_false, false_and, and_false] at hn_586
                  have hle_595 : (jqq311 + 1) ≤ jj_588 := nuR.le (T := T) (c := cc_587) (by first | exact hn_586 | exact hn_586.2 rfl)
                  have hG_596 := hG_574.num (c2 := cc_587) (j2 := jj_588) (fun h9 => absurd rfl h9) (fun _ => by first | exact hn_586 | exact hn_586.2 rfl)
                  refine lv_istore (lv' := [(5, .int (I z_579)), (4, .int (I 0)), (3, .int (I z_553)), (2, .int (I 1)), (0, .ref a), (1, .int (I (-1)))]) hx hb dX11_little_277 hl (by decide) rfl (fun ls hl => ?_)
                  refine lv_iload_n hx hb dX11_little_279 rfl (lv_at hl 5 rfl) ?_
                  refine lv_iconst (v := I (-1)) hx hb dX11_little_280 (by decide) ?_
                  refine lv_icmp_eq (tgt := 352) hx hb dX11_little_281 (by decide) (fun _ => ?_) (fun c_597 => absurd (by decide) c_597)
                  refine lv_iconst (v := I 0) hx hb dX11_little_352 (by decide) ?_
                  exact th_zret hx hb hr hlocks hH hS (z := 0) (by omega) ⟨hO, hF, hM, ⟨by omega, by omega⟩, ⟨by omega, cc_587, jj_588, hR_589, ⟨(fun h9 => absurd rfl h9), fun _ => ⟨by omega, hG_596.was h0_590⟩, fun h9 => absurd h9 h0_590⟩⟩⟩ dX11_little_353
              · replace c_573 := (I_eq (a := z_570) (b := 1) rz_570 (show rng 1 from ⟨by decide, by decide⟩)).mp c_573
                have hG_598 := J_313_8.lword (by omega) (by omega)
                refine lv_iconst (v := I 1) hx hb dX11_little_254 (by decide) ?_
                refine lv_goto (tgt := 259) hx hb dX11_little_255 (by decide) ?_
                refine lv_istore (lv' := [(4, .int (I 1)), (3, .int (I z_553)), (2, .int (I 1)), (0, .ref a), (1, .int (I (-1)))]) hx hb dX11_little_259 hl (by decide) rfl (fun ls hl => ?_)
                refine lv_iload hx hb dX11_little_261 (lv_at hl 0 rfl) ?_
                refine lv_if_eq (tgt := 273) hx hb dX11_little_263 (by decide) (fun c_599 => absurd c_599 (by decide)) (fun _ => ?_)
                refine lv_aload_n hx hb dX11_little_266 rfl (lv_at hl 3 rfl) ?_
                obtain ⟨_, hc_600⟩ := hO.cell h_a (by decide) (ci := 11) rfl
                refine th_calli (va_runV (As := []) (rest := []) ⟨hx, hb, hml, hown, hts⟩ (n_readWord l G y b0 σ_s_556 E hO a h_a Bf hsr T hSt 0 (jqq311 + 1) hR_566 (by omega)) (cwV 0 hts gX11_little_X11_readWord rfl rfl rfl (by decide +kernel) ⟨Nat.le_of_ble_eq_true rfl, Nat.le_of_ble_eq_true rfl⟩) (th_PV hK hH rfl hc_600) rfl rfl hl.1 rfl (lv_room (Nat.le_of_ble_eq_true rfl)) dX11_little_267 ⟨Nat.le_of_ble_eq_true rfl, Nat.le_of_ble_eq_true rfl⟩) hS (fun z_603 σ_s_602 H locs rz_603 hw_601 hH hS => ?_)
                obtain ⟨hO9, hF9, hM9, hw_601⟩ := hw_601
                replace hM := hM.tu hM9 (by decide)
                replace hF := hF.tu hF9 (by decide)
                have e_604 : gI σ_s_602 a 11 = a110 := (hM9.i (by decide)).trans e_557
                have e_605 : gI σ_s_602 a 30 = (-1) := (hM9.i (by decide)).trans e_558
                have e_606 : gI σ_s_602 a 25 = 0 := (hM9.i (by decide)).trans e_559
                have e_607 : gI σ_s_602 a 27 = z_14 := (hM9.i (by decide)).trans e_560
                have e_608 : aF σ_s_602 (ad E a 1) = f1 := (hM9.a (by decide) (by decide)).trans e_561
                replace hsr := hsr.mv hM9 (by decide) (by decide) (by decide) (by decide) (by decide)
                replace hO := hO9
                replace hw_601 : ((gI σ_s_556 a 13 ≤ gI σ_s_602 a 13 ∧ gI σ_s_602 a 13 ≤ gI σ_s_556 a 11 ∧ 0 ≤ gI σ_s_602 a 17 ∧ gI σ_s_602 a 17 ≤ gI σ_s_602 a 13) ∧ pgo (gI σ_s_602 a 19) (gI σ_s_602 a 14) (gI σ_s_556 a 13) (gI σ_s_602 a 13) ∧ bdo (gI σ_s_556 a 19) (gI σ_s_602 a 19)) ∧ ∃ c1 j1, RSt σ_s_602 a T c1 j1 ∧ (((0 : Int) ≠ 0 → c1 = 0 ∧ j1 = (jqq311 + 1)) ∧ ((0 : Int) = 0 → (tK T (jqq311 + 1) ≠ 256 ∧ c1 = 1 ∧ j1 = (jqq311 + 1)) ∨ (tK T (jqq311 + 1) = 256 ∧ 6 < tL T (jqq311 + 1) ∧ c1 = 2 ∧ j1 = (jqq311 + 1)) ∨ (tK T (jqq311 + 1) = 256 ∧ tL T (jqq311 + 1) ≤ 6 ∧ c1 = 0 ∧ j1 = (jqq311 + 1) + 1 ∧ z_603 = tV T (jqq311 + 1)))) := hw_601
                have hb_609 := hw_555.1
                replace hw_555 := hid.mk hw_555
                replace hn_563 := hid.mk hn_563
                replace hVhR_566 := hid.mk hVhR_566
                have hn_610 := hw_601.2
                replace hw_601 := hw_601.1
                obtain ⟨cc_611, jj_612, hR_613, hn_610⟩ := hn_610
                have hVhR_613 := hR_613.1
                rcases Classical.em (cc_611 = 0) with h0_614 | h0_614
                · subst h0_614
                  try simp only [ne_eq, not_true_eq_false, not_false_eq_true, false_implies, true_implies, true_and, and_true, eq_self, false_or, or_false, false_and, and_false] at hVhR_613
                  have e_615 : gI σ_s_602 a 19 = 0 := by omega
                  try simp only [ne_eq, not_true_eq_false, not_false_eq_true, false_implies, true_implies, true_and, and_true, eq_self, false_or, or_false, false_and, and_false] at hn_610
                  have hj_616 : (jqq311 + 1) + 1 = jj_612 := by omega
                  subst hj_616
                  have hG_617 := hG_598.word (c2 := 0) (j2 := ((jqq311 + 1) + 1)) (fun h9 => absurd rfl h9) (fun _ => by omega)
                  refine lv_goto (tgt := 277) hx hb dX11_little_270 (by decide) ?_
                  refine lv_istore (lv' := [(5, .int (I z_603)), (4, .int (I 1)), (3, .int (I z_553)), (2, .int (I 1)), (0, .ref a), (1, .int (I (-1)))]) hx hb dX11_little_277 hl (by decide) rfl (fun ls hl => ?_)
                  refine lv_iload_n hx hb dX11_little_279 rfl (lv_at hl 5 rfl) ?_
                  refine lv_iconst (v := I (-1)) hx hb dX11_little_280 (by decide) ?_
                  refine lv_icmp_eq (tgt := 352) hx hb dX11_little_281 (by decide) (fun _ => ?_) (fun c_618 => absurd (by decide) c_618)
                  refine lv_iconst (v := I 0) hx hb dX11_little_352 (by decide) ?_
                  exact th_zret hx hb hr hlocks hH hS (z := 0) (by omega) ⟨hO, hF, hM, ⟨by omega, by omega⟩, ⟨by omega, 0, ((jqq311 + 1) + 1), hR_613, ⟨(fun h9 => absurd rfl h9), fun _ => ⟨by omega, hG_617.ec rfl rfl (fun _ => by omega)⟩, fun _ => by omega⟩⟩⟩ dX11_little_353
                · try simp only [h0_614, ne_eq, not_true_eq_false, not_false_eq_true, false_implies, true_implies, true_and, and_true, eq_self, false_or, or_false, false_and, and_false] at hVhR_613
                  try simp only [h0_614, ne_eq, not_true_eq_false, not_false_eq_true, false_implies, true_implies, true_and, and_true, eq_self, false_or, or_false, false_and, and_false] at hn_610
                  have hj_619 : jqq311 + 1 = jj_612 := by omega
                  subst hj_619
                  have hG_620 := hG_598.word (c2 := cc_611) (j2 := (jqq311 + 1)) (fun h9 => absurd rfl h9) (fun _ => by omega)
                  refine lv_goto (tgt := 277) hx hb dX11_little_270 (by decide) ?_
                  refine lv_istore (lv' := [(5, .int (I z_603)), (4, .int (I 1)), (3, .int (I z_553)), (2, .int (I 1)), (0, .ref a), (1, .int (I (-1)))]) hx hb dX11_little_277 hl (by decide) rfl (fun ls hl => ?_)
                  refine lv_iload_n hx hb dX11_little_279 rfl (lv_at hl 5 rfl) ?_
                  refine lv_iconst (v := I (-1)) hx hb dX11_little_280 (by decide) ?_
                  refine lv_icmp_eq (tgt := 352) hx hb dX11_little_281 (by decide) (fun _ => ?_) (fun c_621 => absurd (by decide) c_621)
                  refine lv_iconst (v := I 0) hx hb dX11_little_352 (by decide) ?_
                  exact th_zret hx hb hr hlocks hH hS (z := 0) (by omega) ⟨hO, hF, hM, ⟨by omega, by omega⟩, ⟨by omega, cc_611, (jqq311 + 1), hR_613, ⟨(fun h9 => absurd rfl h9), fun _ => ⟨by omega, hG_620.was h0_614⟩, fun h9 => absurd h9 h0_614⟩⟩⟩ dX11_little_353
            · replace hs_545 := hs_545.resolve_left (fun h9 => h9 rfl)
              subst hw_542
              refine lv_if_ne (tgt := 212) hx hb dX11_little_191 (by decide) (fun c_622 => absurd (by decide) c_622) (fun _ => ?_)
              refine lv_aload_n hx hb dX11_little_194 rfl (lv_at hl 0 rfl) ?_
              refine lv_bipush (v := I 60) hx hb dX11_little_195 (by decide) ?_
              obtain ⟨_, hc_623⟩ := hO.cell h_a (by decide) (ci := 11) rfl
              refine th_calli (va_runV (As := [.int (I 60)]) (rest := []) ⟨hx, hb, hml, hown, hts⟩ (n_isMarked l G y b0 σ_J_313 E hO a h_a 60 (show rng 60 from (show rng 60 from ⟨by decide, by decide⟩)) (by omega) (by omega) Bf hsr T hSt 0 jqq311 J_313_7 (by omega)) (cwV 1 hts gX11_little_X11_isMarked rfl rfl rfl (by decide +kernel) ⟨Nat.le_of_ble_eq_true rfl, Nat.le_of_ble_eq_true rfl⟩) (th_PV hK hH rfl hc_623) rfl rfl hl.1 rfl (lv_room (Nat.le_of_ble_eq_true rfl)) dX11_little_197 ⟨Nat.le_of_ble_eq_true rfl, Nat.le_of_ble_eq_true rfl⟩) hS (fun z_626 σ_s_625 H locs rz_626 hw_624 hH hS => ?_)
              obtain ⟨e9, bhw_624, hw_624⟩ := hw_624
              replace e9 := e9.symm
              subst e9
              replace hw_624 : (z_626 = 1 ∧ (0 : Int) = 0 ∧ tK T jqq311 = 60) ∨ (z_626 = 0 ∧ ((0 : Int) ≠ 0 ∨ tK T jqq311 ≠ 60)) := hw_624
              obtain ⟨hw_624, -, hs_627⟩ | ⟨hw_624, hs_627⟩ := hw_624
              · subst hw_624
                refine lv_if_ne (tgt := 212) hx hb dX11_little_200 (by decide) (fun _ => ?_) (fun c_628 => absurd c_628 (by decide))
                refine lv_iconst (v := I 1) hx hb dX11_little_212 (by decide) ?_
                refine lv_goto (tgt := 217) hx hb dX11_little_213 (by decide) ?_
                refine lv_istore_n (lv' := [(2, .int (I 1)), (0, .ref a), (1, .int (I (-1)))]) hx hb dX11_little_217 rfl hl (by decide) rfl (fun ls hl => ?_)
                refine lv_iload_n hx hb dX11_little_218 rfl (lv_at hl 0 rfl) ?_
                refine lv_if_ne (tgt := 233) hx hb dX11_little_219 (by decide) (fun _ => ?_) (fun c_629 => absurd c_629 (by decide))
                refine lv_aload_n hx hb dX11_little_233 rfl (lv_at hl 1 rfl) ?_
                refine lv_aload_n hx hb dX11_little_234 rfl (lv_at hl 1 rfl) ?_
                refine ok.getI hO h_a (by decide) k13_17 (fun _ _ he hv kk => th_get (ci := 11) (C := RX11) (T := TX11) (N := 66) hx hb hts inX11 hown hK hH he rfl 17 (by decide) fl3 hv dX11_little_235 kk) (fun z_630 e_631 rz_630 lz_630 uz_630 => ?_)
                obtain ⟨_, hc_632⟩ := hO.cell h_a (by decide) (ci := 11) rfl
                refine th_calli (va_runV (As := [.int (I z_630)]) (rest := []) ⟨hx, hb, hml, hown, hts⟩ (m_byteAt l G y b0 σ_J_313 E hO a h_a z_630 (show rng z_630 from rz_630) (by omega) (by omega) Bf hsr) (cwV 1 hts gX11_little_X11_byteAt rfl rfl rfl (by decide +kernel) ⟨Nat.le_of_ble_eq_true rfl, Nat.le_of_ble_eq_true rfl⟩) (th_PV hK hH rfl hc_632) rfl rfl hl.1 rfl (lv_room (Nat.le_of_ble_eq_true rfl)) dX11_little_238 ⟨Nat.le_of_ble_eq_true rfl, Nat.le_of_ble_eq_true rfl⟩) hS (fun z_635 σ_s_634 H locs rz_635 hw_633 hH hS => ?_)
                obtain ⟨e9, hw_633⟩ := hw_633
                replace e9 := e9.symm
                subst e9
                replace hw_633 : z_635 = Bf z_630 ∧ (z_635 = -1 ∨ z_630 < gI σ_J_313 a 11) := hw_633
                refine lv_istore_n (lv' := [(3, .int (I z_635)), (2, .int (I 1)), (0, .ref a), (1, .int (I (-1)))]) hx hb dX11_little_241 rfl hl (by decide) rfl (fun ls hl => ?_)
                refine lv_aload_n hx hb dX11_little_242 rfl (lv_at hl 2 rfl) ?_
                obtain ⟨_, hc_636⟩ := hO.cell h_a (by decide) (ci := 11) rfl
                refine th_callv (va_runV (As := []) (rest := []) ⟨hx, hb, hml, hown, hts⟩ (n_pass l G y b0 σ_J_313 E hO a h_a Bf hsr T hSt 0 jqq311 J_313_7 (by omega) (by omega)) (cwV 0 hts gX11_little_X11_pass rfl rfl rfl (by decide +kernel) ⟨Nat.le_of_ble_eq_true rfl, Nat.le_of_ble_eq_true rfl⟩) (th_PV hK hH rfl hc_636) rfl rfl hl.1 rfl (lv_room (Nat.le_of_ble_eq_true rfl)) dX11_little_243 ⟨Nat.le_of_ble_eq_true rfl, Nat.le_of_ble_eq_true rfl⟩) hS (fun σ_s_638 H locs hw_637 hH hS => ?_)
                obtain ⟨hO9, hF9, hM9, hw_637⟩ := hw_637
                replace hM := hM.tu hM9 (by decide)
                replace hF := hF.tu hF9 (by decide)
                have e_639 : gI σ_s_638 a 11 = a110 := (hM9.i (by decide)).trans J_313_9
                have e_640 : gI σ_s_638 a 30 = (-1) := (hM9.i (by decide)).trans J_313_10
                have e_641 : gI σ_s_638 a 25 = 0 := (hM9.i (by decide)).trans J_313_11
                have e_642 : gI σ_s_638 a 27 = z_14 := (hM9.i (by decide)).trans J_313_12
                have e_643 : aF σ_s_638 (ad E a 1) = f1 := (hM9.a (by decide) (by decide)).trans J_313_13
                have e_644 : gI σ_s_638 a 19 = 0 := (hM9.i (by decide)).trans e_314
                replace hsr := hsr.mv hM9 (by decide) (by decide) (by decide) (by decide) (by decide)
                replace hO := hO9
                replace hw_637 : ((gI σ_J_313 a 13 ≤ gI σ_s_638 a 13 ∧ gI σ_s_638 a 13 ≤ gI σ_J_313 a 11 ∧ 0 ≤ gI σ_s_638 a 17 ∧ gI σ_s_638 a 17 ≤ gI σ_s_638 a 13) ∧ pgo (gI σ_s_638 a 19) (gI σ_s_638 a 14) (gI σ_J_313 a 13) (gI σ_s_638 a 13) ∧ gI σ_s_638 a 19 = gI σ_J_313 a 19) ∧ ∃ c1 j1, RSt σ_s_638 a T c1 j1 ∧ (c1 = 0 ∧ ((0 : Int) ≠ 0 → j1 = jqq311) ∧ ((0 : Int) = 0 → j1 = jqq311 + 1)) := hw_637
                replace hVJ_313_7 := hid.mk hVJ_313_7
                replace hw_633 := hid.mk hw_633
                have hn_645 := hw_637.2
                replace hw_637 := hw_637.1
                obtain ⟨cc_646, jj_647, hR_648, hn_645⟩ := hn_645
                have hVhR_648 := hR_648.1
                have h0_649 : cc_646 = 0 := by omega
                subst h0_649
                try simp only [ne_eq, not_true_eq_false, not_false_eq_true, false_implies, true_implies, true_and, and_true, eq_self, false_or, or_false, false_and, and_false] at hVhR_648
                have e_650 : gI σ_s_638 a 19 = 0 := by omega
                have hj_651 : jqq311 + 1 = jj_647 := by omega
                subst hj_651
                refine lv_aload_n hx hb dX11_little_246 rfl (lv_at hl 2 rfl) ?_
                refine ok.getI hO h_a (by decide) k13_14 (fun _ _ he hv kk => th_get (ci := 11) (C := RX11) (T := TX11) (N := 66) hx hb hts inX11 hown hK hH he rfl 14 (by decide) fl4 hv dX11_little_247 kk) (fun z_652 e_653 rz_652 lz_652 uz_652 => ?_)
                have ht_654 := hR_648.t1
                refine lv_iconst (v := I 1) hx hb dX11_little_250 (by decide) ?_
                refine lv_icmp_ne (tgt := 258) hx hb dX11_little_251 (by decide) (fun c_655 => ?_) (fun c_655 => ?_)
                · replace c_655 := mt (I_eq (a := z_652) (b := 1) rz_652 (show rng 1 from ⟨by decide, by decide⟩)).mpr c_655
                  have hG_656 := J_313_8.lnum (by omega) (by omega)
                  refine lv_iconst (v := I 0) hx hb dX11_little_258 (by decide) ?_
                  refine lv_istore (lv' := [(4, .int (I 0)), (3, .int (I z_635)), (2, .int (I 1)), (0, .ref a), (1, .int (I (-1)))]) hx hb dX11_little_259 hl (by decide) rfl (fun ls hl => ?_)
                  refine lv_iload hx hb dX11_little_261 (lv_at hl 0 rfl) ?_
                  refine lv_if_eq (tgt := 273) hx hb dX11_little_263 (by decide) (fun _ => ?_) (fun c_657 => absurd (by decide) c_657)
                  refine lv_aload_n hx hb dX11_little_273 rfl (lv_at hl 3 rfl) ?_
                  obtain ⟨_, hc_658⟩ := hO.cell h_a (by decide) (ci := 11) rfl
                  refine th_calli (va_runV (As := []) (rest := []) ⟨hx, hb, hml, hown, hts⟩ (n_readNumber l G y b0 σ_s_638 E hO a h_a Bf hsr T hSt 0 (jqq311 + 1) hR_648 (by omega)) (cwV 0 hts gX11_little_X11_readNumber rfl rfl rfl (by decide +kernel) ⟨Nat.le_of_ble_eq_true rfl, Nat.le_of_ble_eq_true rfl⟩) (th_PV hK hH rfl hc_658) rfl rfl hl.1 rfl (lv_room (Nat.le_of_ble_eq_true rfl)) dX11_little_274 ⟨Nat.le_of_ble_eq_true rfl, Nat.le_of_ble_eq_true rfl⟩) hS (fun z_661 σ_s_660 H locs rz_661 hw_659 hH hS => ?_)
                  obtain ⟨hO9, hF9, hM9, hw_659⟩ := hw_659
                  replace hM := hM.tu hM9 (by decide)
                  replace hF := hF.tu hF9 (by decide)
                  have e_662 : gI σ_s_660 a 11 = a110 := (hM9.i (by decide)).trans e_639
                  have e_663 : gI σ_s_660 a 30 = (-1) := (hM9.i (by decide)).trans e_640
                  have e_664 : gI σ_s_660 a 25 = 0 := (hM9.i (by decide)).trans e_641
                  have e_665 : gI σ_s_660 a 27 = z_14 := (hM9.i (by decide)).trans e_642
                  have e_666 : aF σ_s_660 (ad E a 1) = f1 := (hM9.a (by decide) (by decide)).trans e_643
                  replace hsr := hsr.mv hM9 (by decide) (by decide) (by decide) (by decide) (by decide)
                  replace hO := hO9
                  replace hw_659 : ((gI σ_s_638 a 13 ≤ gI σ_s_660 a 13 ∧ gI σ_s_660 a 13 ≤ gI σ_s_638 a 11 ∧ 0 ≤ gI σ_s_660 a 17 ∧ gI σ_s_660 a 17 ≤ gI σ_s_660 a 13) ∧ pgo (gI σ_s_660 a 19) (gI σ_s_660 a 14) (gI σ_s_638 a 13) (gI σ_s_660 a 13) ∧ bdo (gI σ_s_638 a 19) (gI σ_s_660 a 19)) ∧ ∃ c1 j1, RSt σ_s_660 a T c1 j1 ∧ (((0 : Int) ≠ 0 → c1 = 0 ∧ j1 = (jqq311 + 1)) ∧ ((0 : Int) = 0 → nuR T (jqq311 + 1) c1 j1)) := hw_659
                  have hb_667 := hw_637.1
                  replace hw_637 := hid.mk hw_637
                  replace hn_645 := hid.mk hn_645
                  replace hVhR_648 := hid.mk hVhR_648
                  have hn_668 := hw_659.2
                  replace hw_659 := hw_659.1
                  obtain ⟨cc_669, jj_670, hR_671, hn_668⟩ := hn_668
                  have hVhR_671 := hR_671.1
                  rcases Classical.em (cc_669 = 0) with h0_672 | h0_672
                  · subst h0_672
                    try simp only [ne_eq, not_true_eq_false, not_false_eq_true, false_implies, true_implies, true_and, and_true, eq_self, false_or, or_false, false_and, and_false] at hVhR_671
                    have e_673 : gI σ_s_660 a 19 = 0 := by omega
                    try simp only [ne_eq, not_true_eq_false, not_false_eq_true, false_implies, true_implies, true_and, and_true, eq_self, false_or, or_false, false_and, and_false] at hn_668
                    have hle_674 : (jqq311 + 1) ≤ jj_670 := nuR.le (T := T) (c := 0) (by first | exact hn_668 | exact hn_668.2 rfl)
                    have hG_675 := hG_656.num (c2 := 0) (j2 := jj_670) (fun h9 => absurd rfl h9) (fun _ => by first | exact hn_668 | exact hn_668.2 rfl)
                    refine lv_istore (lv' := [(5, .int (I z_661)), (4, .int (I 0)), (3, .int (I z_635)), (2, .int (I 1)), (0, .ref a), (1, .int (I (-1)))]) hx hb dX11_little_277 hl (by decide) rfl (fun ls hl => ?_)
                    refine lv_iload_n hx hb dX11_little_279 rfl (lv_at hl 5 rfl) ?_
                    refine lv_iconst (v := I (-1)) hx hb dX11_little_280 (by decide) ?_
                    refine lv_icmp_eq (tgt := 352) hx hb dX11_little_281 (by decide) (fun _ => ?_) (fun c_676 => absurd (by decide) c_676)
                    refine lv_iconst (v := I 0) hx hb dX11_little_352 (by decide) ?_
                    exact th_zret hx hb hr hlocks hH hS (z := 0) (by omega) ⟨hO, hF, hM, ⟨by omega, by omega⟩, ⟨by omega, 0, jj_670, hR_671, ⟨(fun h9 => absurd rfl h9), fun _ => ⟨by omega, hG_675.ec rfl rfl (fun _ => by omega)⟩, fun _ => by omega⟩⟩⟩ dX11_little_353
                  · try simp only [h0_672, ne_eq, not_true_eq_false, not_false_eq_true, false_implies, true_implies, true_and, and_true, eq_self, false_or, or_false, false_and, and_false] at hVhR_671
                    try simp only [h0_672, ne_eq, not_true_eq_false, not_false_eq_true, false_implies, true_implies, true_and, and_true, eq_self, false_or, or_false, false_and, and_false] at hn_668
                    have hle_677 : (jqq311 + 1) ≤ jj_670 := nuR.le (T := T) (c := cc_669) (by first | exact hn_668 | exact hn_668.2 rfl)
                    have hG_678 := hG_656.num (c2 := cc_669) (j2 := jj_670) (fun h9 => absurd rfl h9) (fun _ => by first | exact hn_668 | exact hn_668.2 rfl)
                    refine lv_istore (lv' := [(5, .int (I z_661)), (4, .int (I 0)), (3, .int (I z_635)), (2, .int (I 1)), (0, .ref a), (1, .int (I (-1)))]) hx hb dX11_little_277 hl (by decide) rfl (fun ls hl => ?_)
                    refine lv_iload_n hx hb dX11_little_279 rfl (lv_at hl 5 rfl) ?_
                    refine lv_iconst (v := I (-1)) hx hb dX11_little_280 (by decide) ?_
                    refine lv_icmp_eq (tgt := 352) hx hb dX11_little_281 (by decide) (fun _ => ?_) (fun c_679 => absurd (by decide) c_679)
                    refine lv_iconst (v := I 0) hx hb dX11_little_352 (by decide) ?_
                    exact th_zret hx hb hr hlocks hH hS (z := 0) (by omega) ⟨hO, hF, hM, ⟨by omega, by omega⟩, ⟨by omega, cc_669, jj_670, hR_671, ⟨(fun h9 => absurd rfl h9), fun _ => ⟨by omega, hG_678.was h0_672⟩, fun h9 => absurd h9 h0_672⟩⟩⟩ dX11_little_353
                · replace c_655 := (I_eq (a := z_652) (b := 1) rz_652 (show rng 1 from ⟨by decide, by decide⟩)).mp c_655
                  have hG_680 := J_313_8.lword (by omega) (by omega)
                  refine lv_iconst (v := I 1) hx hb dX11_little_254 (by decide) ?_
                  refine lv_goto (tgt := 259) hx hb dX11_little_255 (by decide) ?_
                  refine lv_istore (lv' := [(4, .int (I 1)), (3, .int (I z_635)), (2, .int (I 1)), (0, .ref a), (1, .int (I (-1)))]) hx hb dX11_little_259 hl (by decide) rfl (fun ls hl => ?_)
                  refine lv_iload hx hb dX11_little_261 (lv_at hl 0 rfl) ?_
                  refine lv_if_eq (tgt := 273) hx hb dX11_little_263 (by decide) (fun c_681 => absurd c_681 (by decide)) (fun _ => ?_)
                  refine lv_aload_n hx hb dX11_little_266 rfl (lv_at hl 3 rfl) ?_
                  obtain ⟨_, hc_682⟩ := hO.cell h_a (by decide) (ci := 11) rfl
                  refine th_calli (va_runV (As := []) (rest := []) ⟨hx, hb, hml, hown, hts⟩ (n_readWord l G y b0 σ_s_638 E hO a h_a Bf hsr T hSt 0 (jqq311 + 1) hR_648 (by omega)) (cwV 0 hts gX11_little_X11_readWord rfl rfl rfl (by decide +kernel) ⟨Nat.le_of_ble_eq_true rfl, Nat.le_of_ble_eq_true rfl⟩) (th_PV hK hH rfl hc_682) rfl rfl hl.1 rfl (lv_room (Nat.le_of_ble_eq_true rfl)) dX11_little_267 ⟨Nat.le_of_ble_eq_true rfl, Nat.le_of_ble_eq_true rfl⟩) hS (fun z_685 σ_s_684 H locs rz_685 hw_683 hH hS => ?_)
                  obtain ⟨hO9, hF9, hM9, hw_683⟩ := hw_683
                  replace hM := hM.tu hM9 (by decide)
                  replace hF := hF.tu hF9 (by decide)
                  have e_686 : gI σ_s_684 a 11 = a110 := (hM9.i (by decide)).trans e_639
                  have e_687 : gI σ_s_684 a 30 = (-1) := (hM9.i (by decide)).trans e_640
                  have e_688 : gI σ_s_684 a 25 = 0 := (hM9.i (by decide)).trans e_641
                  have e_689 : gI σ_s_684 a 27 = z_14 := (hM9.i (by decide)).trans e_642
                  have e_690 : aF σ_s_684 (ad E a 1) = f1 := (hM9.a (by decide) (by decide)).trans e_643
                  replace hsr := hsr.mv hM9 (by decide) (by decide) (by decide) (by decide) (by decide)
                  replace hO := hO9
                  replace hw_683 : ((gI σ_s_638 a 13 ≤ gI σ_s_684 a 13 ∧ gI σ_s_684 a 13 ≤ gI σ_s_638 a 11 ∧ 0 ≤ gI σ_s_684 a 17 ∧ gI σ_s_684 a 17 ≤ gI σ_s_684 a 13) ∧ pgo (gI σ_s_684 a 19) (gI σ_s_684 a 14) (gI σ_s_638 a 13) (gI σ_s_684 a 13) ∧ bdo (gI σ_s_638 a 19) (gI σ_s_684 a 19)) ∧ ∃ c1 j1, RSt σ_s_684 a T c1 j1 ∧ (((0 : Int) ≠ 0 → c1 = 0 ∧ j1 = (jqq311 + 1)) ∧ ((0 : Int) = 0 → (tK T (jqq311 + 1) ≠ 256 ∧ c1 = 1 ∧ j1 = (jqq311 + 1)) ∨ (tK T (jqq311 + 1) = 256 ∧ 6 < tL T (jqq311 + 1) ∧ c1 = 2 ∧ j1 = (jqq311 + 1)) ∨ (tK T (jqq311 + 1) = 256 ∧ tL T (jqq311 + 1) ≤ 6 ∧ c1 = 0 ∧ j1 = (jqq311 + 1) + 1 ∧ z_685 = tV T (jqq311 + 1)))) := hw_683
                  have hb_691 := hw_637.1
                  replace hw_637 := hid.mk hw_637
                  replace hn_645 := hid.mk hn_645
                  replace hVhR_648 := hid.mk hVhR_648
                  have hn_692 := hw_683.2
                  replace hw_683 := hw_683.1
                  obtain ⟨cc_693, jj_694, hR_695, hn_692⟩ := hn_692
                  have hVhR_695 := hR_695.1
                  rcases Classical.em (cc_693 = 0) with h0_696 | h0_696
                  · subst h0_696
                    try simp only [ne_eq, not_true_eq_false, not_false_eq_true, false_implies, true_implies, true_and, and_true, eq_self, false_or, or_false, false_and, and_false] at hVhR_695
                    have e_697 : gI σ_s_684 a 19 = 0 := by omega
                    try simp only [ne_eq, not_true_eq_false, not_false_eq_true, false_implies, true_implies, true_and, and_true, eq_self, false_or, or_false, false_and, and_false] at hn_692
                    have hj_698 : (jqq311 + 1) + 1 = jj_694 := by omega
                    subst hj_698
                    have hG_699 := hG_680.word (c2 := 0) (j2 := ((jqq311 + 1) + 1)) (fun h9 => absurd rfl h9) (fun _ => by omega)
                    refine lv_goto (tgt := 277) hx hb dX11_little_270 (by decide) ?_
                    refine lv_istore (lv' := [(5, .int (I z_685)), (4, .int (I 1)), (3, .int (I z_635)), (2, .int (I 1)), (0, .ref a), (1, .int (I (-1)))]) hx hb dX11_little_277 hl (by decide) rfl (fun ls hl => ?_)
                    refine lv_iload_n hx hb dX11_little_279 rfl (lv_at hl 5 rfl) ?_
                    refine lv_iconst (v := I (-1)) hx hb dX11_little_280 (by decide) ?_
                    refine lv_icmp_eq (tgt := 352) hx hb dX11_little_281 (by decide) (fun _ => ?_) (fun c_700 => absurd (by decide) c_700)
                    refine lv_iconst (v := I 0) hx hb dX11_little_352 (by decide) ?_
                    exact th_zret hx hb hr hlocks hH hS (z := 0) (by omega) ⟨hO, hF, hM, ⟨by omega, by omega⟩, ⟨by omega, 0, ((jqq311 + 1) + 1), hR_695, ⟨(fun h9 => absurd rfl h9), fun _ => ⟨by omega, hG_699.ec rfl rfl (fun _ => by omega)⟩, fun _ => by omega⟩⟩⟩ dX11_little_353
                  · try simp only [h0_696, ne_eq, not_true_eq_false, not_false_eq_true, false_implies, true_implies, true_and, and_true, eq_self, false_or, or_false, false_and, and_false] at hVhR_695
                    try simp only [h0_696, ne_eq, not_true_eq_false, not_false_eq_true, false_implies, true_implies, true_and, and_true, eq_self, false_or, or_false, false_and, and_false] at hn_692
                    have hj_701 : jqq311 + 1 = jj_694 := by omega
                    subst hj_701
                    have hG_702 := hG_680.word (c2 := cc_693) (j2 := (jqq311 + 1)) (fun h9 => absurd rfl h9) (fun _ => by omega)
                    refine lv_goto (tgt := 277) hx hb dX11_little_270 (by decide) ?_
                    refine lv_istore (lv' := [(5, .int (I z_685)), (4, .int (I 1)), (3, .int (I z_635)), (2, .int (I 1)), (0, .ref a), (1, .int (I (-1)))]) hx hb dX11_little_277 hl (by decide) rfl (fun ls hl => ?_)
                    refine lv_iload_n hx hb dX11_little_279 rfl (lv_at hl 5 rfl) ?_
                    refine lv_iconst (v := I (-1)) hx hb dX11_little_280 (by decide) ?_
                    refine lv_icmp_eq (tgt := 352) hx hb dX11_little_281 (by decide) (fun _ => ?_) (fun c_703 => absurd (by decide) c_703)
                    refine lv_iconst (v := I 0) hx hb dX11_little_352 (by decide) ?_
                    exact th_zret hx hb hr hlocks hH hS (z := 0) (by omega) ⟨hO, hF, hM, ⟨by omega, by omega⟩, ⟨by omega, cc_693, (jqq311 + 1), hR_695, ⟨(fun h9 => absurd rfl h9), fun _ => ⟨by omega, hG_702.was h0_696⟩, fun h9 => absurd h9 h0_696⟩⟩⟩ dX11_little_353
              · replace hs_627 := hs_627.resolve_left (fun h9 => h9 rfl)
                subst hw_624
                refine lv_if_ne (tgt := 212) hx hb dX11_little_200 (by decide) (fun c_704 => absurd (by decide) c_704) (fun _ => ?_)
                refine lv_aload_n hx hb dX11_little_203 rfl (lv_at hl 0 rfl) ?_
                refine lv_bipush (v := I 62) hx hb dX11_little_204 (by decide) ?_
                obtain ⟨_, hc_705⟩ := hO.cell h_a (by decide) (ci := 11) rfl
                refine th_calli (va_runV (As := [.int (I 62)]) (rest := []) ⟨hx, hb, hml, hown, hts⟩ (n_isMarked l G y b0 σ_J_313 E hO a h_a 62 (show rng 62 from (show rng 62 from ⟨by decide, by decide⟩)) (by omega) (by omega) Bf hsr T hSt 0 jqq311 J_313_7 (by omega)) (cwV 1 hts gX11_little_X11_isMarked rfl rfl rfl (by decide +kernel) ⟨Nat.le_of_ble_eq_true rfl, Nat.le_of_ble_eq_true rfl⟩) (th_PV hK hH rfl hc_705) rfl rfl hl.1 rfl (lv_room (Nat.le_of_ble_eq_true rfl)) dX11_little_206 ⟨Nat.le_of_ble_eq_true rfl, Nat.le_of_ble_eq_true rfl⟩) hS (fun z_708 σ_s_707 H locs rz_708 hw_706 hH hS => ?_)
                obtain ⟨e9, bhw_706, hw_706⟩ := hw_706
                replace e9 := e9.symm
                subst e9
                replace hw_706 : (z_708 = 1 ∧ (0 : Int) = 0 ∧ tK T jqq311 = 62) ∨ (z_708 = 0 ∧ ((0 : Int) ≠ 0 ∨ tK T jqq311 ≠ 62)) := hw_706
                obtain ⟨hw_706, -, hs_709⟩ | ⟨hw_706, hs_709⟩ := hw_706
                · subst hw_706
                  refine lv_if_eq (tgt := 216) hx hb dX11_little_209 (by decide) (fun c_710 => absurd c_710 (by decide)) (fun _ => ?_)
                  refine lv_iconst (v := I 1) hx hb dX11_little_212 (by decide) ?_
                  refine lv_goto (tgt := 217) hx hb dX11_little_213 (by decide) ?_
                  refine lv_istore_n (lv' := [(2, .int (I 1)), (0, .ref a), (1, .int (I (-1)))]) hx hb dX11_little_217 rfl hl (by decide) rfl (fun ls hl => ?_)
                  refine lv_iload_n hx hb dX11_little_218 rfl (lv_at hl 0 rfl) ?_
                  refine lv_if_ne (tgt := 233) hx hb dX11_little_219 (by decide) (fun _ => ?_) (fun c_711 => absurd c_711 (by decide))
                  refine lv_aload_n hx hb dX11_little_233 rfl (lv_at hl 1 rfl) ?_
                  refine lv_aload_n hx hb dX11_little_234 rfl (lv_at hl 1 rfl) ?_
                  refine ok.getI hO h_a (by decide) k13_17 (fun _ _ he hv kk => th_get (ci := 11) (C := RX11) (T := TX11) (N := 66) hx hb hts inX11 hown hK hH he rfl 17 (by decide) fl3 hv dX11_little_235 kk) (fun z_712 e_713 rz_712 lz_712 uz_712 => ?_)
                  obtain ⟨_, hc_714⟩ := hO.cell h_a (by decide) (ci := 11) rfl
                  refine th_calli (va_runV (As := [.int (I z_712)]) (rest := []) ⟨hx, hb, hml, hown, hts⟩ (m_byteAt l G y b0 σ_J_313 E hO a h_a z_712 (show rng z_712 from rz_712) (by omega) (by omega) Bf hsr) (cwV 1 hts gX11_little_X11_byteAt rfl rfl rfl (by decide +kernel) ⟨Nat.le_of_ble_eq_true rfl, Nat.le_of_ble_eq_true rfl⟩) (th_PV hK hH rfl hc_714) rfl rfl hl.1 rfl (lv_room (Nat.le_of_ble_eq_true rfl)) dX11_little_238 ⟨Nat.le_of_ble_eq_true rfl, Nat.le_of_ble_eq_true rfl⟩) hS (fun z_717 σ_s_716 H locs rz_717 hw_715 hH hS => ?_)
                  obtain ⟨e9, hw_715⟩ := hw_715
                  replace e9 := e9.symm
                  subst e9
                  replace hw_715 : z_717 = Bf z_712 ∧ (z_717 = -1 ∨ z_712 < gI σ_J_313 a 11) := hw_715
                  refine lv_istore_n (lv' := [(3, .int (I z_717)), (2, .int (I 1)), (0, .ref a), (1, .int (I (-1)))]) hx hb dX11_little_241 rfl hl (by decide) rfl (fun ls hl => ?_)
                  refine lv_aload_n hx hb dX11_little_242 rfl (lv_at hl 2 rfl) ?_
                  obtain ⟨_, hc_718⟩ := hO.cell h_a (by decide) (ci := 11) rfl
                  refine th_callv (va_runV (As := []) (rest := []) ⟨hx, hb, hml, hown, hts⟩ (n_pass l G y b0 σ_J_313 E hO a h_a Bf hsr T hSt 0 jqq311 J_313_7 (by omega) (by omega)) (cwV 0 hts gX11_little_X11_pass rfl rfl rfl (by decide +kernel) ⟨Nat.le_of_ble_eq_true rfl, Nat.le_of_ble_eq_true rfl⟩) (th_PV hK hH rfl hc_718) rfl rfl hl.1 rfl (lv_room (Nat.le_of_ble_eq_true rfl)) dX11_little_243 ⟨Nat.le_of_ble_eq_true rfl, Nat.le_of_ble_eq_true rfl⟩) hS (fun σ_s_720 H locs hw_719 hH hS => ?_)
                  obtain ⟨hO9, hF9, hM9, hw_719⟩ := hw_719
                  replace hM := hM.tu hM9 (by decide)
                  replace hF := hF.tu hF9 (by decide)
                  have e_721 : gI σ_s_720 a 11 = a110 := (hM9.i (by decide)).trans J_313_9
                  have e_722 : gI σ_s_720 a 30 = (-1) := (hM9.i (by decide)).trans J_313_10
                  have e_723 : gI σ_s_720 a 25 = 0 := (hM9.i (by decide)).trans J_313_11
                  have e_724 : gI σ_s_720 a 27 = z_14 := (hM9.i (by decide)).trans J_313_12
                  have e_725 : aF σ_s_720 (ad E a 1) = f1 := (hM9.a (by decide) (by decide)).trans J_313_13
                  have e_726 : gI σ_s_720 a 19 = 0 := (hM9.i (by decide)).trans e_314
                  replace hsr := hsr.mv hM9 (by decide) (by decide) (by decide) (by decide) (by decide)
                  replace hO := hO9
                  replace hw_719 : ((gI σ_J_313 a 13 ≤ gI σ_s_720 a 13 ∧ gI σ_s_720 a 13 ≤ gI σ_J_313 a 11 ∧ 0 ≤ gI σ_s_720 a 17 ∧ gI σ_s_720 a 17 ≤ gI σ_s_720 a 13) ∧ pgo (gI σ_s_720 a 19) (gI σ_s_720 a 14) (gI σ_J_313 a 13) (gI σ_s_720 a 13) ∧ gI σ_s_720 a 19 = gI σ_J_313 a 19) ∧ ∃ c1 j1, RSt σ_s_720 a T c1 j1 ∧ (c1 = 0 ∧ ((0 : Int) ≠ 0 → j1 = jqq311) ∧ ((0 : Int) = 0 → j1 = jqq311 + 1)) := hw_719
                  replace hVJ_313_7 := hid.mk hVJ_313_7
                  replace hw_715 := hid.mk hw_715
                  have hn_727 := hw_719.2
                  replace hw_719 := hw_719.1
                  obtain ⟨cc_728, jj_729, hR_730, hn_727⟩ := hn_727
                  have hVhR_730 := hR_730.1
                  have h0_731 : cc_728 = 0 := by omega
                  subst h0_731
                  try simp only [ne_eq, not_true_eq_false, not_false_eq_true, false_implies, true_implies, true_and, and_true, eq_self, false_or, or_false, false_and, and_false] at hVhR_730
                  have e_732 : gI σ_s_720 a 19 = 0 := by omega
                  have hj_733 : jqq311 + 1 = jj_729 := by omega
                  subst hj_733
                  refine lv_aload_n hx hb dX11_little_246 rfl (lv_at hl 2 rfl) ?_
                  refine ok.getI hO h_a (by decide) k13_14 (fun _ _ he hv kk => th_get (ci := 11) (C := RX11) (T := TX11) (N := 66) hx hb hts inX11 hown hK hH he rfl 14 (by decide) fl4 hv dX11_little_247 kk) (fun z_734 e_735 rz_734 lz_734 uz_734 => ?_)
                  have ht_736 := hR_730.t1
                  refine lv_iconst (v := I 1) hx hb dX11_little_250 (by decide) ?_
                  refine lv_icmp_ne (tgt := 258) hx hb dX11_little_251 (by decide) (fun c_737 => ?_) (fun c_737 => ?_)
                  · replace c_737 := mt (I_eq (a := z_734) (b := 1) rz_734 (show rng 1 from ⟨by decide, by decide⟩)).mpr c_737
                    have hG_738 := J_313_8.lnum (by omega) (by omega)
                    refine lv_iconst (v := I 0) hx hb dX11_little_258 (by decide) ?_
                    refine lv_istore (lv' := [(4, .int (I 0)), (3, .int (I z_717)), (2, .int (I 1)), (0, .ref a), (1, .int (I (-1)))]) hx hb dX11_little_259 hl (by decide) rfl (fun ls hl => ?_)
                    refine lv_iload hx hb dX11_little_261 (lv_at hl 0 rfl) ?_
                    refine lv_if_eq (tgt := 273) hx hb dX11_little_263 (by decide) (fun _ => ?_) (fun c_739 => absurd (by decide) c_739)
                    refine lv_aload_n hx hb dX11_little_273 rfl (lv_at hl 3 rfl) ?_
                    obtain ⟨_, hc_740⟩ := hO.cell h_a (by decide) (ci := 11) rfl
                    refine th_calli (va_runV (As := []) (rest := []) ⟨hx, hb, hml, hown, hts⟩ (n_readNumber l G y b0 σ_s_720 E hO a h_a Bf hsr T hSt 0 (jqq311 + 1) hR_730 (by omega)) (cwV 0 hts gX11_little_X11_readNumber rfl rfl rfl (by decide +kernel) ⟨Nat.le_of_ble_eq_true rfl, Nat.le_of_ble_eq_true rfl⟩) (th_PV hK hH rfl hc_740) rfl rfl hl.1 rfl (lv_room (Nat.le_of_ble_eq_true rfl)) dX11_little_274 ⟨Nat.le_of_ble_eq_true rfl, Nat.le_of_ble_eq_true rfl⟩) hS (fun z_743 σ_s_742 H locs rz_743 hw_741 hH hS => ?_)
                    obtain ⟨hO9, hF9, hM9, hw_741⟩ := hw_741
                    replace hM := hM.tu hM9 (by decide)
                    replace hF := hF.tu hF9 (by decide)
                    have e_744 : gI σ_s_742 a 11 = a110 := (hM9.i (by decide)).trans e_721
                    have e_745 : gI σ_s_742 a 30 = (-1) := (hM9.i (by decide)).trans e_722
                    have e_746 : gI σ_s_742 a 25 = 0 := (hM9.i (by decide)).trans e_723
                    have e_747 : gI σ_s_742 a 27 = z_14 := (hM9.i (by decide)).trans e_724
                    have e_748 : aF σ_s_742 (ad E a 1) = f1 := (hM9.a (by decide) (by decide)).trans e_725
                    replace hsr := hsr.mv hM9 (by decide) (by decide) (by decide) (by decide) (by decide)
                    replace hO := hO9
                    replace hw_741 : ((gI σ_s_720 a 13 ≤ gI σ_s_742 a 13 ∧ gI σ_s_742 a 13 ≤ gI σ_s_720 a 11 ∧ 0 ≤ gI σ_s_742 a 17 ∧ gI σ_s_742 a 17 ≤ gI σ_s_742 a 13) ∧ pgo (gI σ_s_742 a 19) (gI σ_s_742 a 14) (gI σ_s_720 a 13) (gI σ_s_742 a 13) ∧ bdo (gI σ_s_720 a 19) (gI σ_s_742 a 19)) ∧ ∃ c1 j1, RSt σ_s_742 a T c1 j1 ∧ (((0 : Int) ≠ 0 → c1 = 0 ∧ j1 = (jqq311 + 1)) ∧ ((0 : Int) = 0 → nuR T (jqq311 + 1) c1 j1)) := hw_741
                    have hb_749 := hw_719.1
                    replace hw_719 := hid.mk hw_719
                    replace hn_727 := hid.mk hn_727
                    replace hVhR_730 := hid.mk hVhR_730
                    have hn_750 := hw_741.2
                    replace hw_741 := hw_741.1
                    obtain ⟨cc_751, jj_752, hR_753, hn_750⟩ := hn_750
                    have hVhR_753 := hR_753.1
                    rcases Classical.em (cc_751 = 0) with h0_754 | h0_754
                    · subst h0_754
                      try simp only [ne_eq, not_true_eq_false, not_false_eq_true, false_implies, true_implies, true_and, and_true, eq_self, false_or, or_false, false_and, and_false] at hVhR_753
                      have e_755 : gI σ_s_742 a 19 = 0 := by omega
                      try simp only [ne_eq, not_true_eq_false, not_false_eq_true, false_implies, true_implies, true_and, and_true, eq_self, false_or, or_false, false_and, and_false] at hn_750
                      have hle_756 : (jqq311 + 1) ≤ jj_752 := nuR.le (T := T) (c := 0) (by first | exact hn_750 | exact hn_750.2 rfl)
                      have hG_757 := hG_738.num (c2 := 0) (j2 := jj_752) (fun h9 => absurd rfl h9) (fun _ => by first | exact hn_750 | exact hn_750.2 rfl)
                      refine lv_istore (lv' := [(5, .int (I z_743)), (4, .int (I 0)), (3, .int (I z_717)), (2, .int (I 1)), (0, .ref a), (1, .int (I (-1)))]) hx hb dX11_little_277 hl (by decide) rfl (fun ls hl => ?_)
                      refine lv_iload_n hx hb dX11_little_279 rfl (lv_at hl 5 rfl) ?_
                      refine lv_iconst (v := I (-1)) hx hb dX11_little_280 (by decide) ?_
                      refine lv_icmp_eq (tgt := 352) hx hb dX11_little_281 (by decide) (fun _ => ?_) (fun c_758 => absurd (by decide) c_758)
                      refine lv_iconst (v := I 0) hx hb dX11_little_352 (by decide) ?_
                      exact th_zret hx hb hr hlocks hH hS (z := 0) (by omega) ⟨hO, hF, hM, ⟨by omega, by omega⟩, ⟨by omega, 0, jj_752, hR_753, ⟨(fun h9 => absurd rfl h9), fun _ => ⟨by omega, hG_757.ec rfl rfl (fun _ => by omega)⟩, fun _ => by omega⟩⟩⟩ dX11_little_353
                    · try simp only [h0_754, ne_eq, not_true_eq_false, not_false_eq_true, false_implies, true_implies, true_and, and_true, eq_self, false_or, or_false, false_and, and_false] at hVhR_753
                      try simp only [h0_754, ne_eq, not_true_eq_false, not_false_eq_true, false_implies, true_implies, true_and, and_true, eq_self, false_or, or_false, false_and, and_false] at hn_750
                      have hle_759 : (jqq311 + 1) ≤ jj_752 := nuR.le (T := T) (c := cc_751) (by first | exact hn_750 | exact hn_750.2 rfl)
                      have hG_760 := hG_738.num (c2 := cc_751) (j2 := jj_752) (fun h9 => absurd rfl h9) (fun _ => by first | exact hn_750 | exact hn_750.2 rfl)
                      refine lv_istore (lv' := [(5, .int (I z_743)), (4, .int (I 0)), (3, .int (I z_717)), (2, .int (I 1)), (0, .ref a), (1, .int (I (-1)))]) hx hb dX11_little_277 hl (by decide) rfl (fun ls hl => ?_)
                      refine lv_iload_n hx hb dX11_little_279 rfl (lv_at hl 5 rfl) ?_
                      refine lv_iconst (v := I (-1)) hx hb dX11_little_280 (by decide) ?_
                      refine lv_icmp_eq (tgt := 352) hx hb dX11_little_281 (by decide) (fun _ => ?_) (fun c_761 => absurd (by decide) c_761)
                      refine lv_iconst (v := I 0) hx hb dX11_little_352 (by decide) ?_
                      exact th_zret hx hb hr hlocks hH hS (z := 0) (by omega) ⟨hO, hF, hM, ⟨by omega, by omega⟩, ⟨by omega, cc_751, jj_752, hR_753, ⟨(fun h9 => absurd rfl h9), fun _ => ⟨by omega, hG_760.was h0_754⟩, fun h9 => absurd h9 h0_754⟩⟩⟩ dX11_little_353
                  · replace c_737 := (I_eq (a := z_734) (b := 1) rz_734 (show rng 1 from ⟨by decide, by decide⟩)).mp c_737
                    have hG_762 := J_313_8.lword (by omega) (by omega)
                    refine lv_iconst (v := I 1) hx hb dX11_little_254 (by decide) ?_
                    refine lv_goto (tgt := 259) hx hb dX11_little_255 (by decide) ?_
                    refine lv_istore (lv' := [(4, .int (I 1)), (3, .int (I z_717)), (2, .int (I 1)), (0, .ref a), (1, .int (I (-1)))]) hx hb dX11_little_259 hl (by decide) rfl (fun ls hl => ?_)
                    refine lv_iload hx hb dX11_little_261 (lv_at hl 0 rfl) ?_
                    refine lv_if_eq (tgt := 273) hx hb dX11_little_263 (by decide) (fun c_763 => absurd c_763 (by decide)) (fun _ => ?_)
                    refine lv_aload_n hx hb dX11_little_266 rfl (lv_at hl 3 rfl) ?_
                    obtain ⟨_, hc_764⟩ := hO.cell h_a (by decide) (ci := 11) rfl
                    refine th_calli (va_runV (As := []) (rest := []) ⟨hx, hb, hml, hown, hts⟩ (n_readWord l G y b0 σ_s_720 E hO a h_a Bf hsr T hSt 0 (jqq311 + 1) hR_730 (by omega)) (cwV 0 hts gX11_little_X11_readWord rfl rfl rfl (by decide +kernel) ⟨Nat.le_of_ble_eq_true rfl, Nat.le_of_ble_eq_true rfl⟩) (th_PV hK hH rfl hc_764) rfl rfl hl.1 rfl (lv_room (Nat.le_of_ble_eq_true rfl)) dX11_little_267 ⟨Nat.le_of_ble_eq_true rfl, Nat.le_of_ble_eq_true rfl⟩) hS (fun z_767 σ_s_766 H locs rz_767 hw_765 hH hS => ?_)
                    obtain ⟨hO9, hF9, hM9, hw_765⟩ := hw_765
                    replace hM := hM.tu hM9 (by decide)
                    replace hF := hF.tu hF9 (by decide)
                    have e_768 : gI σ_s_766 a 11 = a110 := (hM9.i (by decide)).trans e_721
                    have e_769 : gI σ_s_766 a 30 = (-1) := (hM9.i (by decide)).trans e_722
                    have e_770 : gI σ_s_766 a 25 = 0 := (hM9.i (by decide)).trans e_723
                    have e_771 : gI σ_s_766 a 27 = z_14 := (hM9.i (by decide)).trans e_724
                    have e_772 : aF σ_s_766 (ad E a 1) = f1 := (hM9.a (by decide) (by decide)).trans e_725
                    replace hsr := hsr.mv hM9 (by decide) (by decide) (by decide) (by decide) (by decide)
                    replace hO := hO9
                    replace hw_765 : ((gI σ_s_720 a 13 ≤ gI σ_s_766 a 13 ∧ gI σ_s_766 a 13 ≤ gI σ_s_720 a 11 ∧ 0 ≤ gI σ_s_766 a 17 ∧ gI σ_s_766 a 17 ≤ gI σ_s_766 a 13) ∧ pgo (gI σ_s_766 a 19) (gI σ_s_766 a 14) (gI σ_s_720 a 13) (gI σ_s_766 a 13) ∧ bdo (gI σ_s_720 a 19) (gI σ_s_766 a 19)) ∧ ∃ c1 j1, RSt σ_s_766 a T c1 j1 ∧ (((0 : Int) ≠ 0 → c1 = 0 ∧ j1 = (jqq311 + 1)) ∧ ((0 : Int) = 0 → (tK T (jqq311 + 1) ≠ 256 ∧ c1 = 1 ∧ j1 = (jqq311 + 1)) ∨ (tK T (jqq311 + 1) = 256 ∧ 6 < tL T (jqq311 + 1) ∧ c1 = 2 ∧ j1 = (jqq311 + 1)) ∨ (tK T (jqq311 + 1) = 256 ∧ tL T (jqq311 + 1) ≤ 6 ∧ c1 = 0 ∧ j1 = (jqq311 + 1) + 1 ∧ z_767 = tV T (jqq311 + 1)))) := hw_765
                    have hb_773 := hw_719.1
                    replace hw_719 := hid.mk hw_719
                    replace hn_727 := hid.mk hn_727
                    replace hVhR_730 := hid.mk hVhR_730
                    have hn_774 := hw_765.2
                    replace hw_765 := hw_765.1
                    obtain ⟨cc_775, jj_776, hR_777, hn_774⟩ := hn_774
                    have hVhR_777 := hR_777.1
                    rcases Classical.em (cc_775 = 0) with h0_778 | h0_778
                    · subst h0_778
                      try simp only [ne_eq, not_true_eq_false, not_false_eq_true, false_implies, true_implies, true_and, and_true, eq_self, false_or, or_false, false_and, and_false] at hVhR_777
                      have e_779 : gI σ_s_766 a 19 = 0 := by omega
                      try simp only [ne_eq, not_true_eq_false, not_false_eq_true, false_implies, true_implies, true_and, and_true, eq_self, false_or, or_false, false_and, and_false] at hn_774
                      have hj_780 : (jqq311 + 1) + 1 = jj_776 := by omega
                      subst hj_780
                      have hG_781 := hG_762.word (c2 := 0) (j2 := ((jqq311 + 1) + 1)) (fun h9 => absurd rfl h9) (fun _ => by omega)
                      refine lv_goto (tgt := 277) hx hb dX11_little_270 (by decide) ?_
                      refine lv_istore (lv' := [(5, .int (I z_767)), (4, .int (I 1)), (3, .int (I z_717)), (2, .int (I 1)), (0, .ref a), (1, .int (I (-1)))]) hx hb dX11_little_277 hl (by decide) rfl (fun ls hl => ?_)
                      refine lv_iload_n hx hb dX11_little_279 rfl (lv_at hl 5 rfl) ?_
                      refine lv_iconst (v := I (-1)) hx hb dX11_little_280 (by decide) ?_
                      refine lv_icmp_eq (tgt := 352) hx hb dX11_little_281 (by decide) (fun _ => ?_) (fun c_782 => absurd (by decide) c_782)
                      refine lv_iconst (v := I 0) hx hb dX11_little_352 (by decide) ?_
                      exact th_zret hx hb hr hlocks hH hS (z := 0) (by omega) ⟨hO, hF, hM, ⟨by omega, by omega⟩, ⟨by omega, 0, ((jqq311 + 1) + 1), hR_777, ⟨(fun h9 => absurd rfl h9), fun _ => ⟨by omega, hG_781.ec rfl rfl (fun _ => by omega)⟩, fun _ => by omega⟩⟩⟩ dX11_little_353
                    · try simp only [h0_778, ne_eq, not_true_eq_false, not_false_eq_true, false_implies, true_implies, true_and, and_true, eq_self, false_or, or_false, false_and, and_false] at hVhR_777
                      try simp only [h0_778, ne_eq, not_true_eq_false, not_false_eq_true, false_implies, true_implies, true_and, and_true, eq_self, false_or, or_false, false_and, and_false] at hn_774
                      have hj_783 : jqq311 + 1 = jj_776 := by omega
                      subst hj_783
                      have hG_784 := hG_762.word (c2 := cc_775) (j2 := (jqq311 + 1)) (fun h9 => absurd rfl h9) (fun _ => by omega)
                      refine lv_goto (tgt := 277) hx hb dX11_little_270 (by decide) ?_
                      refine lv_istore (lv' := [(5, .int (I z_767)), (4, .int (I 1)), (3, .int (I z_717)), (2, .int (I 1)), (0, .ref a), (1, .int (I (-1)))]) hx hb dX11_little_277 hl (by decide) rfl (fun ls hl => ?_)
                      refine lv_iload_n hx hb dX11_little_279 rfl (lv_at hl 5 rfl) ?_
                      refine lv_iconst (v := I (-1)) hx hb dX11_little_280 (by decide) ?_
                      refine lv_icmp_eq (tgt := 352) hx hb dX11_little_281 (by decide) (fun _ => ?_) (fun c_785 => absurd (by decide) c_785)
                      refine lv_iconst (v := I 0) hx hb dX11_little_352 (by decide) ?_
                      exact th_zret hx hb hr hlocks hH hS (z := 0) (by omega) ⟨hO, hF, hM, ⟨by omega, by omega⟩, ⟨by omega, cc_775, (jqq311 + 1), hR_777, ⟨(fun h9 => absurd rfl h9), fun _ => ⟨by omega, hG_784.was h0_778⟩, fun h9 => absurd h9 h0_778⟩⟩⟩ dX11_little_353
                · replace hs_709 := hs_709.resolve_left (fun h9 => h9 rfl)
                  subst hw_706
                  refine lv_if_eq (tgt := 216) hx hb dX11_little_209 (by decide) (fun _ => ?_) (fun c_786 => absurd (by decide) c_786)
                  refine lv_iconst (v := I 0) hx hb dX11_little_216 (by decide) ?_
                  refine lv_istore_n (lv' := [(2, .int (I 0)), (0, .ref a), (1, .int (I (-1)))]) hx hb dX11_little_217 rfl hl (by decide) rfl (fun ls hl => ?_)
                  refine lv_iload_n hx hb dX11_little_218 rfl (lv_at hl 0 rfl) ?_
                  refine lv_if_ne (tgt := 233) hx hb dX11_little_219 (by decide) (fun c_787 => absurd (by decide) c_787) (fun _ => ?_)
                  refine lv_iload_n hx hb dX11_little_222 rfl (lv_at hl 2 rfl) ?_
                  refine lv_iconst (v := I (-1)) hx hb dX11_little_223 (by decide) ?_
                  refine lv_icmp_eq (tgt := 231) hx hb dX11_little_224 (by decide) (fun _ => ?_) (fun c_788 => absurd (by decide) c_788)
                  refine lv_iconst (v := I 0) hx hb dX11_little_231 (by decide) ?_
                  have hG_789 := J_313_8.lend (fun _ => ⟨hs_319, hs_400, hs_545, hs_627, hs_709⟩)
                  exact th_zret hx hb hr hlocks hH hS (z := 0) (by omega) ⟨hO, hF, hM, ⟨by omega, by omega⟩, ⟨by omega, 0, jqq311, J_313_7, ⟨(fun h9 => absurd rfl h9), fun _ => ⟨by omega, hG_789.ec rfl rfl (fun _ => by omega)⟩, fun _ => by omega⟩⟩⟩ dX11_little_232
      · replace c_13 := (I_eq (a := a270) (b := 12) ra270 (show rng 12 from ⟨by decide, by decide⟩)).mp c_13
        refine lv_aload_n hx hb dX11_little_30 rfl (lv_at hl 0 rfl) ?_
        refine ok.getIc hO h_a (by decide) k13_25 e_4 (fun _ _ he hv kk => th_get (ci := 11) (C := RX11) (T := TX11) (N := 66) hx hb hts inX11 hown hK hH he rfl 25 (by decide) fl5 hv dX11_little_31 kk) ?_
        refine lv_if_ne (tgt := 42) hx hb dX11_little_34 (by decide) (fun c_790 => absurd (by decide) c_790) (fun _ => ?_)
        refine lv_aload_n hx hb dX11_little_37 rfl (lv_at hl 0 rfl) ?_
        refine lv_iconst (v := I 2) hx hb dX11_little_38 (by decide) ?_
        obtain ⟨_, hc_791⟩ := hO.cell h_a (by decide) (ci := 11) rfl
        refine th_callv (va_runV (As := [.int (I 2)]) (rest := []) ⟨hx, hb, hml, hown, hts⟩ (n_wrong l G y b0 σ E hO a h_a 2 (show rng 2 from (show rng 2 from ⟨by decide, by decide⟩)) (by omega) (by omega) Bf hsr T hSt 0 jt hR0) (cwV 1 hts gX11_little_X11_wrong rfl rfl rfl (by decide +kernel) ⟨Nat.le_of_ble_eq_true rfl, Nat.le_of_ble_eq_true rfl⟩) (th_PV hK hH rfl hc_791) rfl rfl hl.1 rfl (lv_room (Nat.le_of_ble_eq_true rfl)) dX11_little_39 ⟨Nat.le_of_ble_eq_true rfl, Nat.le_of_ble_eq_true rfl⟩) hS (fun σ_s_793 H locs hw_792 hH hS => ?_)
        obtain ⟨hO9, hF9, hM9, hw_792⟩ := hw_792
        replace hM := hM.tu hM9 (by decide)
        replace hF := hF.tu hF9 (by decide)
        have e_794 : aF σ_s_793 (ad E a 1) = f1 := (hM9.a (by decide) (by decide)).trans ef1
        have e_795 : gI σ_s_793 a 11 = a110 := (hM9.i (by decide)).trans ea110
        have e_796 : gI σ_s_793 a 13 = a130 := (hM9.i (by decide)).trans ea130
        have e_797 : gI σ_s_793 a 14 = a140 := (hM9.i (by decide)).trans ea140
        have e_798 : gI σ_s_793 a 17 = a170 := (hM9.i (by decide)).trans ea170
        have e_799 : gI σ_s_793 a 27 = a270 := (hM9.i (by decide)).trans ea270
        have e_800 : gI σ_s_793 a 30 = (-1) := (hM9.i (by decide)).trans e_5
        have e_801 : gI σ_s_793 a 25 = 0 := (hM9.i (by decide)).trans e_4
        replace hsr := hsr.mv hM9 (by decide) (by decide) (by decide) (by decide) (by decide)
        replace hO := hO9
        replace hw_792 : (¬ gI σ_s_793 a 19 = 0 ∧ (gI σ a 19 = 0 ∨ gI σ_s_793 a 19 = gI σ a 19)) ∧ ∃ c1 j1, RSt σ_s_793 a T c1 j1 ∧ (j1 = jt ∧ ((0 : Int) = 0 → c1 = 2) ∧ ((0 : Int) ≠ 0 → c1 = 0)) := hw_792
        replace hV0 := hid.mk hV0
        have hn_802 := hw_792.2
        replace hw_792 := hw_792.1
        obtain ⟨cc_803, jj_804, hR_805, hn_802⟩ := hn_802
        have hVhR_805 := hR_805.1
        have hj9 := hn_802.1.symm
        subst hj9
        have h0_806 : ¬ cc_803 = 0 := by omega
        try simp only [h0_806, ne_eq, not_true_eq_false, not_false_eq_true, false_implies, true_implies, true_and, and_true, eq_self, false_or, or_false, false_and, and_false] at hVhR_805
        try simp only [h0_806, ne_eq, not_true_eq_false, not_false_eq_true, false_implies, true_implies, true_and, and_true, eq_self, false_or, or_false, false_and, and_false] at hn_802
        have hG_807 := hG_3.tests (c2 := cc_803) (j2 := jt) (l2 := []) (t2 := 0) hs_10 (by omega) (by omega) rfl
        refine lv_aload_n hx hb dX11_little_42 rfl (lv_at hl 0 rfl) ?_
        refine lv_dup hx hb dX11_little_43 rfl ?_
        refine ok.getIc hO h_a (by decide) k13_27 e_799 (fun _ _ he hv kk => th_get (ci := 11) (C := RX11) (T := TX11) (N := 66) hx hb hts inX11 hown hK hH he rfl 27 (by decide) fl1 hv dX11_little_44 kk) ?_
        refine lv_iconst (v := I 1) hx hb dX11_little_47 (by decide) ?_
        refine lv_iadd hx hb dX11_little_48 ?_
        refine th_addo (fun z_808 rz_808 hz_808 => ?_)
        refine ok.putJ hO h_a k13_27 rz_808 (by omega) (by omega) (fun _ he hl9 kk => th_put (ci := 11) (v := .int (I z_808)) (ty := .int) (C := RX11) (T := TX11) (N := 66) hx hb hts inX11 tyX11 tyX11_ok nmX11 hown hK hH hS h00 he rfl 27 (by decide) fl1 rfl (by decide +kernel) rfl rfl hl9 dX11_little_49 kk) (fun σ_s_809 H locs hO hF9 hM9 hg9 ha9 hH hS => ?_)
        replace hM := hM.tu hM9 (by decide)
        replace hF := hF.tu hF9 (by decide)
        have e_810 : aF σ_s_809 (ad E a 1) = f1 := (hM9.a (by decide) (by decide)).trans e_794
        have e_811 : gI σ_s_809 a 11 = a110 := (hM9.i (by decide)).trans e_795
        have e_812 : gI σ_s_809 a 13 = a130 := (hM9.i (by decide)).trans e_796
        have e_813 : gI σ_s_809 a 14 = a140 := (hM9.i (by decide)).trans e_797
        have e_814 : gI σ_s_809 a 17 = a170 := (hM9.i (by decide)).trans e_798
        have e_815 : gI σ_s_809 a 30 = (-1) := (hM9.i (by decide)).trans e_800
        have e_816 : gI σ_s_809 a 25 = 0 := (hM9.i (by decide)).trans e_801
        replace hsr := hsr.mv hM9 (by decide) (by decide) (by decide) (by decide) (by decide)
        replace hVhR_805 := hid.mk hVhR_805
        have hR_817 : RSt σ_s_809 a T cc_803 jt := RSt.mv hM9 (by decide) (by decide) (by decide) (by decide) (by decide) (by decide) (by decide) hR_805
        have hVhR_817 := hR_817.1
        have e_818 := hg9
        refine lv_aload_n hx hb dX11_little_52 rfl (lv_at hl 0 rfl) ?_
        obtain ⟨_, hc_819⟩ := hO.cell h_a (by decide) (ci := 11) rfl
        refine th_callv (va_runV (As := []) (rest := []) ⟨hx, hb, hml, hown, hts⟩ (n_pass l G y b0 σ_s_809 E hO a h_a Bf hsr T hSt cc_803 jt hR_817 (by omega) (by omega)) (cwV 0 hts gX11_little_X11_pass rfl rfl rfl (by decide +kernel) ⟨Nat.le_of_ble_eq_true rfl, Nat.le_of_ble_eq_true rfl⟩) (th_PV hK hH rfl hc_819) rfl rfl hl.1 rfl (lv_room (Nat.le_of_ble_eq_true rfl)) dX11_little_53 ⟨Nat.le_of_ble_eq_true rfl, Nat.le_of_ble_eq_true rfl⟩) hS (fun σ_s_821 H locs hw_820 hH hS => ?_)
        obtain ⟨hO9, hF9, hM9, hw_820⟩ := hw_820
        replace hM := hM.tu hM9 (by decide)
        replace hF := hF.tu hF9 (by decide)
        have e_822 : aF σ_s_821 (ad E a 1) = f1 := (hM9.a (by decide) (by decide)).trans e_810
        have e_823 : gI σ_s_821 a 11 = a110 := (hM9.i (by decide)).trans e_811
        have e_824 : gI σ_s_821 a 30 = (-1) := (hM9.i (by decide)).trans e_815
        have e_825 : gI σ_s_821 a 25 = 0 := (hM9.i (by decide)).trans e_816
        have e_826 : gI σ_s_821 a 27 = z_808 := (hM9.i (by decide)).trans e_818
        replace hsr := hsr.mv hM9 (by decide) (by decide) (by decide) (by decide) (by decide)
        replace hO := hO9
        replace hw_820 : ((gI σ_s_809 a 13 ≤ gI σ_s_821 a 13 ∧ gI σ_s_821 a 13 ≤ gI σ_s_809 a 11 ∧ 0 ≤ gI σ_s_821 a 17 ∧ gI σ_s_821 a 17 ≤ gI σ_s_821 a 13) ∧ pgo (gI σ_s_821 a 19) (gI σ_s_821 a 14) (gI σ_s_809 a 13) (gI σ_s_821 a 13) ∧ gI σ_s_821 a 19 = gI σ_s_809 a 19) ∧ ∃ c1 j1, RSt σ_s_821 a T c1 j1 ∧ (c1 = cc_803 ∧ (cc_803 ≠ 0 → j1 = jt) ∧ (cc_803 = 0 → j1 = jt + 1)) := hw_820
        replace hw_792 := hid.mk hw_792
        replace hn_802 := hid.mk hn_802
        replace hVhR_817 := hid.mk hVhR_817
        have hn_827 := hw_820.2
        replace hw_820 := hw_820.1
        obtain ⟨cc_828, jj_829, hR_830, hn_827⟩ := hn_827
        have hVhR_830 := hR_830.1
        try simp only [h0_806, ne_eq, not_true_eq_false, not_false_eq_true, false_implies, true_implies, true_and, and_true, eq_self, false_or, or_false, false_and, and_false] at hn_827
        have h0_831 : ¬ cc_828 = 0 := by omega
        try simp only [h0_831, ne_eq, not_true_eq_false, not_false_eq_true, false_implies, true_implies, true_and, and_true, eq_self, false_or, or_false, false_and, and_false] at hVhR_830
        try simp only [h0_806, h0_831, ne_eq, not_true_eq_false, not_false_eq_true, false_implies, true_implies, true_and, and_true, eq_self, false_or, or_false, false_and, and_false] at hn_827
        have hc_832 : cc_803 = cc_828 := by omega
        subst hc_832
        have hj_833 : jt = jj_829 := by omega
        subst hj_833
        refine lv_aload_n hx hb dX11_little_56 rfl (lv_at hl 0 rfl) ?_
        refine ok.getIc hO h_a (by decide) k13_30 e_824 (fun _ _ he hv kk => th_get (ci := 11) (C := RX11) (T := TX11) (N := 66) hx hb hts inX11 hown hK hH he rfl 30 (by decide) fl2 hv dX11_little_57 kk) ?_
        refine lv_istore_n (lv' := [(1, .int (I (-1))), (0, .ref a)]) hx hb dX11_little_60 rfl hl (by decide) rfl (fun ls hl => ?_)
        refine lv_aload_n hx hb dX11_little_61 rfl (lv_at hl 1 rfl) ?_
        refine lv_bipush (v := I 46) hx hb dX11_little_62 (by decide) ?_
        obtain ⟨_, hc_834⟩ := hO.cell h_a (by decide) (ci := 11) rfl
        refine th_calli (va_runV (As := [.int (I 46)]) (rest := []) ⟨hx, hb, hml, hown, hts⟩ (n_isMarked l G y b0 σ_s_821 E hO a h_a 46 (show rng 46 from (show rng 46 from ⟨by decide, by decide⟩)) (by omega) (by omega) Bf hsr T hSt cc_803 jt hR_830 (by omega)) (cwV 1 hts gX11_little_X11_isMarked rfl rfl rfl (by decide +kernel) ⟨Nat.le_of_ble_eq_true rfl, Nat.le_of_ble_eq_true rfl⟩) (th_PV hK hH rfl hc_834) rfl rfl hl.1 rfl (lv_room (Nat.le_of_ble_eq_true rfl)) dX11_little_64 ⟨Nat.le_of_ble_eq_true rfl, Nat.le_of_ble_eq_true rfl⟩) hS (fun z_837 σ_s_836 H locs rz_837 hw_835 hH hS => ?_)
        obtain ⟨e9, bhw_835, hw_835⟩ := hw_835
        replace e9 := e9.symm
        subst e9
        replace hw_835 : (z_837 = 1 ∧ cc_803 = 0 ∧ tK T jt = 46) ∨ (z_837 = 0 ∧ (cc_803 ≠ 0 ∨ tK T jt ≠ 46)) := hw_835
        have hb_838 := hw_820.1
        replace hw_820 := hid.mk hw_820
        replace hn_827 := hid.mk hn_827
        try simp only [h0_831, ne_eq, not_true_eq_false, not_false_eq_true, false_implies, true_implies, true_and, and_true, eq_self, false_or, or_false, false_and, and_false] at hw_835
        replace hw_835 : z_837 = 0 := by omega
        subst hw_835
        refine lv_if_ne (tgt := 79) hx hb dX11_little_67 (by decide) (fun c_839 => absurd (by decide) c_839) (fun _ => ?_)
        refine lv_aload_n hx hb dX11_little_70 rfl (lv_at hl 1 rfl) ?_
        refine lv_bipush (v := I 91) hx hb dX11_little_71 (by decide) ?_
        obtain ⟨_, hc_840⟩ := hO.cell h_a (by decide) (ci := 11) rfl
        refine th_calli (va_runV (As := [.int (I 91)]) (rest := []) ⟨hx, hb, hml, hown, hts⟩ (n_isMarked l G y b0 σ_s_821 E hO a h_a 91 (show rng 91 from (show rng 91 from ⟨by decide, by decide⟩)) (by omega) (by omega) Bf hsr T hSt cc_803 jt hR_830 (by omega)) (cwV 1 hts gX11_little_X11_isMarked rfl rfl rfl (by decide +kernel) ⟨Nat.le_of_ble_eq_true rfl, Nat.le_of_ble_eq_true rfl⟩) (th_PV hK hH rfl hc_840) rfl rfl hl.1 rfl (lv_room (Nat.le_of_ble_eq_true rfl)) dX11_little_73 ⟨Nat.le_of_ble_eq_true rfl, Nat.le_of_ble_eq_true rfl⟩) hS (fun z_843 σ_s_842 H locs rz_843 hw_841 hH hS => ?_)
        obtain ⟨e9, bhw_841, hw_841⟩ := hw_841
        replace e9 := e9.symm
        subst e9
        replace hw_841 : (z_843 = 1 ∧ cc_803 = 0 ∧ tK T jt = 91) ∨ (z_843 = 0 ∧ (cc_803 ≠ 0 ∨ tK T jt ≠ 91)) := hw_841
        try simp only [h0_831, ne_eq, not_true_eq_false, not_false_eq_true, false_implies, true_implies, true_and, and_true, eq_self, false_or, or_false, false_and, and_false] at hw_841
        replace hw_841 : z_843 = 0 := by omega
        subst hw_841
        refine lv_if_eq (tgt := 185) hx hb dX11_little_76 (by decide) (fun _ => ?_) (fun c_844 => absurd (by decide) c_844)
        refine lv_aload_n hx hb dX11_little_185 rfl (lv_at hl 1 rfl) ?_
        refine lv_bipush (v := I 61) hx hb dX11_little_186 (by decide) ?_
        obtain ⟨_, hc_845⟩ := hO.cell h_a (by decide) (ci := 11) rfl
        refine th_calli (va_runV (As := [.int (I 61)]) (rest := []) ⟨hx, hb, hml, hown, hts⟩ (n_isMarked l G y b0 σ_s_821 E hO a h_a 61 (show rng 61 from (show rng 61 from ⟨by decide, by decide⟩)) (by omega) (by omega) Bf hsr T hSt cc_803 jt hR_830 (by omega)) (cwV 1 hts gX11_little_X11_isMarked rfl rfl rfl (by decide +kernel) ⟨Nat.le_of_ble_eq_true rfl, Nat.le_of_ble_eq_true rfl⟩) (th_PV hK hH rfl hc_845) rfl rfl hl.1 rfl (lv_room (Nat.le_of_ble_eq_true rfl)) dX11_little_188 ⟨Nat.le_of_ble_eq_true rfl, Nat.le_of_ble_eq_true rfl⟩) hS (fun z_848 σ_s_847 H locs rz_848 hw_846 hH hS => ?_)
        obtain ⟨e9, bhw_846, hw_846⟩ := hw_846
        replace e9 := e9.symm
        subst e9
        replace hw_846 : (z_848 = 1 ∧ cc_803 = 0 ∧ tK T jt = 61) ∨ (z_848 = 0 ∧ (cc_803 ≠ 0 ∨ tK T jt ≠ 61)) := hw_846
        try simp only [h0_831, ne_eq, not_true_eq_false, not_false_eq_true, false_implies, true_implies, true_and, and_true, eq_self, false_or, or_false, false_and, and_false] at hw_846
        replace hw_846 : z_848 = 0 := by omega
        subst hw_846
        refine lv_if_ne (tgt := 212) hx hb dX11_little_191 (by decide) (fun c_849 => absurd (by decide) c_849) (fun _ => ?_)
        refine lv_aload_n hx hb dX11_little_194 rfl (lv_at hl 1 rfl) ?_
        refine lv_bipush (v := I 60) hx hb dX11_little_195 (by decide) ?_
        obtain ⟨_, hc_850⟩ := hO.cell h_a (by decide) (ci := 11) rfl
        refine th_calli (va_runV (As := [.int (I 60)]) (rest := []) ⟨hx, hb, hml, hown, hts⟩ (n_isMarked l G y b0 σ_s_821 E hO a h_a 60 (show rng 60 from (show rng 60 from ⟨by decide, by decide⟩)) (by omega) (by omega) Bf hsr T hSt cc_803 jt hR_830 (by omega)) (cwV 1 hts gX11_little_X11_isMarked rfl rfl rfl (by decide +kernel) ⟨Nat.le_of_ble_eq_true rfl, Nat.le_of_ble_eq_true rfl⟩) (th_PV hK hH rfl hc_850) rfl rfl hl.1 rfl (lv_room (Nat.le_of_ble_eq_true rfl)) dX11_little_197 ⟨Nat.le_of_ble_eq_true rfl, Nat.le_of_ble_eq_true rfl⟩) hS (fun z_853 σ_s_852 H locs rz_853 hw_851 hH hS => ?_)
        obtain ⟨e9, bhw_851, hw_851⟩ := hw_851
        replace e9 := e9.symm
        subst e9
        replace hw_851 : (z_853 = 1 ∧ cc_803 = 0 ∧ tK T jt = 60) ∨ (z_853 = 0 ∧ (cc_803 ≠ 0 ∨ tK T jt ≠ 60)) := hw_851
        try simp only [h0_831, ne_eq, not_true_eq_false, not_false_eq_true, false_implies, true_implies, true_and, and_true, eq_self, false_or, or_false, false_and, and_false] at hw_851
        replace hw_851 : z_853 = 0 := by omega
        subst hw_851
        refine lv_if_ne (tgt := 212) hx hb dX11_little_200 (by decide) (fun c_854 => absurd (by decide) c_854) (fun _ => ?_)
        refine lv_aload_n hx hb dX11_little_203 rfl (lv_at hl 1 rfl) ?_
        refine lv_bipush (v := I 62) hx hb dX11_little_204 (by decide) ?_
        obtain ⟨_, hc_855⟩ := hO.cell h_a (by decide) (ci := 11) rfl
        refine th_calli (va_runV (As := [.int (I 62)]) (rest := []) ⟨hx, hb, hml, hown, hts⟩ (n_isMarked l G y b0 σ_s_821 E hO a h_a 62 (show rng 62 from (show rng 62 from ⟨by decide, by decide⟩)) (by omega) (by omega) Bf hsr T hSt cc_803 jt hR_830 (by omega)) (cwV 1 hts gX11_little_X11_isMarked rfl rfl rfl (by decide +kernel) ⟨Nat.le_of_ble_eq_true rfl, Nat.le_of_ble_eq_true rfl⟩) (th_PV hK hH rfl hc_855) rfl rfl hl.1 rfl (lv_room (Nat.le_of_ble_eq_true rfl)) dX11_little_206 ⟨Nat.le_of_ble_eq_true rfl, Nat.le_of_ble_eq_true rfl⟩) hS (fun z_858 σ_s_857 H locs rz_858 hw_856 hH hS => ?_)
        obtain ⟨e9, bhw_856, hw_856⟩ := hw_856
        replace e9 := e9.symm
        subst e9
        replace hw_856 : (z_858 = 1 ∧ cc_803 = 0 ∧ tK T jt = 62) ∨ (z_858 = 0 ∧ (cc_803 ≠ 0 ∨ tK T jt ≠ 62)) := hw_856
        try simp only [h0_831, ne_eq, not_true_eq_false, not_false_eq_true, false_implies, true_implies, true_and, and_true, eq_self, false_or, or_false, false_and, and_false] at hw_856
        replace hw_856 : z_858 = 0 := by omega
        subst hw_856
        refine lv_if_eq (tgt := 216) hx hb dX11_little_209 (by decide) (fun _ => ?_) (fun c_859 => absurd (by decide) c_859)
        refine lv_iconst (v := I 0) hx hb dX11_little_216 (by decide) ?_
        refine lv_istore_n (lv' := [(2, .int (I 0)), (1, .int (I (-1))), (0, .ref a)]) hx hb dX11_little_217 rfl hl (by decide) rfl (fun ls hl => ?_)
        refine lv_iload_n hx hb dX11_little_218 rfl (lv_at hl 0 rfl) ?_
        refine lv_if_ne (tgt := 233) hx hb dX11_little_219 (by decide) (fun c_860 => absurd (by decide) c_860) (fun _ => ?_)
        refine lv_iload_n hx hb dX11_little_222 rfl (lv_at hl 1 rfl) ?_
        refine lv_iconst (v := I (-1)) hx hb dX11_little_223 (by decide) ?_
        refine lv_icmp_eq (tgt := 231) hx hb dX11_little_224 (by decide) (fun _ => ?_) (fun c_861 => absurd (by decide) c_861)
        refine lv_iconst (v := I 0) hx hb dX11_little_231 (by decide) ?_
        exact th_zret hx hb hr hlocks hH hS (z := 0) (by omega) ⟨hO, hF, hM, ⟨by omega, by omega⟩, ⟨by omega, cc_803, jt, hR_830, ⟨(fun h9 => absurd rfl h9), fun _ => ⟨by omega, hG_807.was h0_831⟩, fun h9 => absurd h9 h0_831⟩⟩⟩ dX11_little_232
    · replace hs_10 := hs_10.resolve_left (fun h9 => h9 rfl)
      subst hw_7
      refine lv_if_ne (tgt := 14) hx hb dX11_little_6 (by decide) (fun c_862 => absurd (by decide) c_862) (fun _ => ?_)
      refine lv_aload_n hx hb dX11_little_9 rfl (lv_at hl 0 rfl) ?_
      refine lv_iconst (v := I 1) hx hb dX11_little_10 (by decide) ?_
      obtain ⟨_, hc_863⟩ := hO.cell h_a (by decide) (ci := 11) rfl
      refine th_callv (va_runV (As := [.int (I 1)]) (rest := []) ⟨hx, hb, hml, hown, hts⟩ (n_wrong l G y b0 σ E hO a h_a 1 (show rng 1 from (show rng 1 from ⟨by decide, by decide⟩)) (by omega) (by omega) Bf hsr T hSt 0 jt hR0) (cwV 1 hts gX11_little_X11_wrong rfl rfl rfl (by decide +kernel) ⟨Nat.le_of_ble_eq_true rfl, Nat.le_of_ble_eq_true rfl⟩) (th_PV hK hH rfl hc_863) rfl rfl hl.1 rfl (lv_room (Nat.le_of_ble_eq_true rfl)) dX11_little_11 ⟨Nat.le_of_ble_eq_true rfl, Nat.le_of_ble_eq_true rfl⟩) hS (fun σ_s_865 H locs hw_864 hH hS => ?_)
      obtain ⟨hO9, hF9, hM9, hw_864⟩ := hw_864
      replace hM := hM.tu hM9 (by decide)
      replace hF := hF.tu hF9 (by decide)
      have e_866 : aF σ_s_865 (ad E a 1) = f1 := (hM9.a (by decide) (by decide)).trans ef1
      have e_867 : gI σ_s_865 a 11 = a110 := (hM9.i (by decide)).trans ea110
      have e_868 : gI σ_s_865 a 13 = a130 := (hM9.i (by decide)).trans ea130
      have e_869 : gI σ_s_865 a 14 = a140 := (hM9.i (by decide)).trans ea140
      have e_870 : gI σ_s_865 a 17 = a170 := (hM9.i (by decide)).trans ea170
      have e_871 : gI σ_s_865 a 27 = a270 := (hM9.i (by decide)).trans ea270
      have e_872 : gI σ_s_865 a 30 = (-1) := (hM9.i (by decide)).trans e_5
      have e_873 : gI σ_s_865 a 25 = 0 := (hM9.i (by decide)).trans e_4
      replace hsr := hsr.mv hM9 (by decide) (by decide) (by decide) (by decide) (by decide)
      replace hO := hO9
      replace hw_864 : (¬ gI σ_s_865 a 19 = 0 ∧ (gI σ a 19 = 0 ∨ gI σ_s_865 a 19 = gI σ a 19)) ∧ ∃ c1 j1, RSt σ_s_865 a T c1 j1 ∧ (j1 = jt ∧ ((0 : Int) = 0 → c1 = 1) ∧ ((0 : Int) ≠ 0 → c1 = 0)) := hw_864
      replace hV0 := hid.mk hV0
      have hn_874 := hw_864.2
      replace hw_864 := hw_864.1
      obtain ⟨cc_875, jj_876, hR_877, hn_874⟩ := hn_874
      have hVhR_877 := hR_877.1
      have hj9 := hn_874.1.symm
      subst hj9
      have h0_878 : ¬ cc_875 = 0 := by omega
      try simp only [h0_878, ne_eq, not_true_eq_false, not_false_eq_true, false_implies, true_implies, true_and, and_true, eq_self, false_or, or_false, false_and, and_false] at hVhR_877
      try simp only [h0_878, ne_eq, not_true_eq_false, not_false_eq_true, false_implies, true_implies, true_and, and_true, eq_self, false_or, or_false, false_and, and_false] at hn_874
      have hG_879 := hG_3.no (c2 := cc_875) (j2 := jt) (l2 := []) (t2 := 0) (hy4 rfl).1 (hy4 rfl).2 hs_10 (by omega) rfl
      refine lv_aload_n hx hb dX11_little_14 rfl (lv_at hl 0 rfl) ?_
      refine ok.getI hO h_a (by decide) k13_19 (fun _ _ he hv kk => th_get (ci := 11) (C := RX11) (T := TX11) (N := 66) hx hb hts inX11 hown hK hH he rfl 19 (by decide) fl0 hv dX11_little_15 kk) (fun z_880 e_881 rz_880 lz_880 uz_880 => ?_)
      refine lv_if_ne (tgt := 42) hx hb dX11_little_18 (by decide) (fun _ => ?_) (fun c_882 => absurd ((I_eq (a := z_880) (b := 0) rz_880 (show rng 0 from ⟨by decide, by decide⟩)).mp c_882) (by omega))
      refine lv_aload_n hx hb dX11_little_42 rfl (lv_at hl 0 rfl) ?_
      refine lv_dup hx hb dX11_little_43 rfl ?_
      refine ok.getIc hO h_a (by decide) k13_27 e_871 (fun _ _ he hv kk => th_get (ci := 11) (C := RX11) (T := TX11) (N := 66) hx hb hts inX11 hown hK hH he rfl 27 (by decide) fl1 hv dX11_little_44 kk) ?_
      refine lv_iconst (v := I 1) hx hb dX11_little_47 (by decide) ?_
      refine lv_iadd hx hb dX11_little_48 ?_
      refine th_addo (fun z_883 rz_883 hz_883 => ?_)
      refine ok.putJ hO h_a k13_27 rz_883 (by omega) (by omega) (fun _ he hl9 kk => th_put (ci := 11) (v := .int (I z_883)) (ty := .int) (C := RX11) (T := TX11) (N := 66) hx hb hts inX11 tyX11 tyX11_ok nmX11 hown hK hH hS h00 he rfl 27 (by decide) fl1 rfl (by decide +kernel) rfl rfl hl9 dX11_little_49 kk) (fun σ_s_884 H locs hO hF9 hM9 hg9 ha9 hH hS => ?_)
      replace hM := hM.tu hM9 (by decide)
      replace hF := hF.tu hF9 (by decide)
      have e_885 : aF σ_s_884 (ad E a 1) = f1 := (hM9.a (by decide) (by decide)).trans e_866
      have e_886 : gI σ_s_884 a 11 = a110 := (hM9.i (by decide)).trans e_867
      have e_887 : gI σ_s_884 a 13 = a130 := (hM9.i (by decide)).trans e_868
      have e_888 : gI σ_s_884 a 14 = a140 := (hM9.i (by decide)).trans e_869
      have e_889 : gI σ_s_884 a 17 = a170 := (hM9.i (by decide)).trans e_870
      have e_890 : gI σ_s_884 a 30 = (-1) := (hM9.i (by decide)).trans e_872
      have e_891 : gI σ_s_884 a 25 = 0 := (hM9.i (by decide)).trans e_873
      have e_892 : gI σ_s_884 a 19 = z_880 := (hM9.i (by decide)).trans e_881
      replace hsr := hsr.mv hM9 (by decide) (by decide) (by decide) (by decide) (by decide)
      replace hVhR_877 := hid.mk hVhR_877
      have hR_893 : RSt σ_s_884 a T cc_875 jt := RSt.mv hM9 (by decide) (by decide) (by decide) (by decide) (by decide) (by decide) (by decide) hR_877
      have hVhR_893 := hR_893.1
      have e_894 := hg9
      refine lv_aload_n hx hb dX11_little_52 rfl (lv_at hl 0 rfl) ?_
      obtain ⟨_, hc_895⟩ := hO.cell h_a (by decide) (ci := 11) rfl
      refine th_callv (va_runV (As := []) (rest := []) ⟨hx, hb, hml, hown, hts⟩ (n_pass l G y b0 σ_s_884 E hO a h_a Bf hsr T hSt cc_875 jt hR_893 (by omega) (by omega)) (cwV 0 hts gX11_little_X11_pass rfl rfl rfl (by decide +kernel) ⟨Nat.le_of_ble_eq_true rfl, Nat.le_of_ble_eq_true rfl⟩) (th_PV hK hH rfl hc_895) rfl rfl hl.1 rfl (lv_room (Nat.le_of_ble_eq_true rfl)) dX11_little_53 ⟨Nat.le_of_ble_eq_true rfl, Nat.le_of_ble_eq_true rfl⟩) hS (fun σ_s_897 H locs hw_896 hH hS => ?_)
      obtain ⟨hO9, hF9, hM9, hw_896⟩ := hw_896
      replace hM := hM.tu hM9 (by decide)
      replace hF := hF.tu hF9 (by decide)
      have e_898 : aF σ_s_897 (ad E a 1) = f1 := (hM9.a (by decide) (by decide)).trans e_885
      have e_899 : gI σ_s_897 a 11 = a110 := (hM9.i (by decide)).trans e_886
      have e_900 : gI σ_s_897 a 30 = (-1) := (hM9.i (by decide)).trans e_890
      have e_901 : gI σ_s_897 a 25 = 0 := (hM9.i (by decide)).trans e_891
      have e_902 : gI σ_s_897 a 19 = z_880 := (hM9.i (by decide)).trans e_892
      have e_903 : gI σ_s_897 a 27 = z_883 := (hM9.i (by decide)).trans e_894
      replace hsr := hsr.mv hM9 (by decide) (by decide) (by decide) (by decide) (by decide)
      replace hO := hO9
      replace hw_896 : ((gI σ_s_884 a 13 ≤ gI σ_s_897 a 13 ∧ gI σ_s_897 a 13 ≤ gI σ_s_884 a 11 ∧ 0 ≤ gI σ_s_897 a 17 ∧ gI σ_s_897 a 17 ≤ gI σ_s_897 a 13) ∧ pgo (gI σ_s_897 a 19) (gI σ_s_897 a 14) (gI σ_s_884 a 13) (gI σ_s_897 a 13) ∧ gI σ_s_897 a 19 = gI σ_s_884 a 19) ∧ ∃ c1 j1, RSt σ_s_897 a T c1 j1 ∧ (c1 = cc_875 ∧ (cc_875 ≠ 0 → j1 = jt) ∧ (cc_875 = 0 → j1 = jt + 1)) := hw_896
      replace hw_864 := hid.mk hw_864
      replace hn_874 := hid.mk hn_874
      replace hVhR_893 := hid.mk hVhR_893
      have hn_904 := hw_896.2
      replace hw_896 := hw_896.1
      obtain ⟨cc_905, jj_906, hR_907, hn_904⟩ := hn_904
      have hVhR_907 := hR_907.1
      try simp only [h0_878, ne_eq, not_true_eq_false, not_false_eq_true, false_implies, true_implies, true_and, and_true, eq_self, false_or, or_false, false_and, and_false] at hn_904
      have h0_908 : ¬ cc_905 = 0 := by omega
      try simp only [h0_908, ne_eq, not_true_eq_false, not_false_eq_true, false_implies, true_implies, true_and, and_true, eq_self, false_or, or_false, false_and, and_false] at hVhR_907
      try simp only [h0_878, h0_908, ne_eq, not_true_eq_false, not_false_eq_true, false_implies, true_implies, true_and, and_true, eq_self, false_or, or_false, false_and, and_false] at hn_904
      have hc_909 : cc_875 = cc_905 := by omega
      subst hc_909
      have hj_910 : jt = jj_906 := by omega
      subst hj_910
      refine lv_aload_n hx hb dX11_little_56 rfl (lv_at hl 0 rfl) ?_
      refine ok.getIc hO h_a (by decide) k13_30 e_900 (fun _ _ he hv kk => th_get (ci := 11) (C := RX11) (T := TX11) (N := 66) hx hb hts inX11 hown hK hH he rfl 30 (by decide) fl2 hv dX11_little_57 kk) ?_
      refine lv_istore_n (lv' := [(1, .int (I (-1))), (0, .ref a)]) hx hb dX11_little_60 rfl hl (by decide) rfl (fun ls hl => ?_)
      refine lv_aload_n hx hb dX11_little_61 rfl (lv_at hl 1 rfl) ?_
      refine lv_bipush (v := I 46) hx hb dX11_little_62 (by decide) ?_
      obtain ⟨_, hc_911⟩ := hO.cell h_a (by decide) (ci := 11) rfl
      refine th_calli (va_runV (As := [.int (I 46)]) (rest := []) ⟨hx, hb, hml, hown, hts⟩ (n_isMarked l G y b0 σ_s_897 E hO a h_a 46 (show rng 46 from (show rng 46 from ⟨by decide, by decide⟩)) (by omega) (by omega) Bf hsr T hSt cc_875 jt hR_907 (by omega)) (cwV 1 hts gX11_little_X11_isMarked rfl rfl rfl (by decide +kernel) ⟨Nat.le_of_ble_eq_true rfl, Nat.le_of_ble_eq_true rfl⟩) (th_PV hK hH rfl hc_911) rfl rfl hl.1 rfl (lv_room (Nat.le_of_ble_eq_true rfl)) dX11_little_64 ⟨Nat.le_of_ble_eq_true rfl, Nat.le_of_ble_eq_true rfl⟩) hS (fun z_914 σ_s_913 H locs rz_914 hw_912 hH hS => ?_)
      obtain ⟨e9, bhw_912, hw_912⟩ := hw_912
      replace e9 := e9.symm
      subst e9
      replace hw_912 : (z_914 = 1 ∧ cc_875 = 0 ∧ tK T jt = 46) ∨ (z_914 = 0 ∧ (cc_875 ≠ 0 ∨ tK T jt ≠ 46)) := hw_912
      have hb_915 := hw_896.1
      replace hw_896 := hid.mk hw_896
      replace hn_904 := hid.mk hn_904
      try simp only [h0_908, ne_eq, not_true_eq_false, not_false_eq_true, false_implies, true_implies, true_and, and_true, eq_self, false_or, or_false, false_and, and_false] at hw_912
      replace hw_912 : z_914 = 0 := by omega
      subst hw_912
      refine lv_if_ne (tgt := 79) hx hb dX11_little_67 (by decide) (fun c_916 => absurd (by decide) c_916) (fun _ => ?_)
      refine lv_aload_n hx hb dX11_little_70 rfl (lv_at hl 1 rfl) ?_
      refine lv_bipush (v := I 91) hx hb dX11_little_71 (by decide) ?_
      obtain ⟨_, hc_917⟩ := hO.cell h_a (by decide) (ci := 11) rfl
      refine th_calli (va_runV (As := [.int (I 91)]) (rest := []) ⟨hx, hb, hml, hown, hts⟩ (n_isMarked l G y b0 σ_s_897 E hO a h_a 91 (show rng 91 from (show rng 91 from ⟨by decide, by decide⟩)) (by omega) (by omega) Bf hsr T hSt cc_875 jt hR_907 (by omega)) (cwV 1 hts gX11_little_X11_isMarked rfl rfl rfl (by decide +kernel) ⟨Nat.le_of_ble_eq_true rfl, Nat.le_of_ble_eq_true rfl⟩) (th_PV hK hH rfl hc_917) rfl rfl hl.1 rfl (lv_room (Nat.le_of_ble_eq_true rfl)) dX11_little_73 ⟨Nat.le_of_ble_eq_true rfl, Nat.le_of_ble_eq_true rfl⟩) hS (fun z_920 σ_s_919 H locs rz_920 hw_918 hH hS => ?_)
      obtain ⟨e9, bhw_918, hw_918⟩ := hw_918
      replace e9 := e9.symm
      subst e9
      replace hw_918 : (z_920 = 1 ∧ cc_875 = 0 ∧ tK T jt = 91) ∨ (z_920 = 0 ∧ (cc_875 ≠ 0 ∨ tK T jt ≠ 91)) := hw_918
      try simp only [h0_908, ne_eq, not_true_eq_false, not_false_eq_true, false_implies, true_implies, true_and, and_true, eq_self, false_or, or_false, false_and, and_false] at hw_918
      replace hw_918 : z_920 = 0 := by omega
      subst hw_918
      refine lv_if_eq (tgt := 185) hx hb dX11_little_76 (by decide) (fun _ => ?_) (fun c_921 => absurd (by decide) c_921)
      refine lv_aload_n hx hb dX11_little_185 rfl (lv_at hl 1 rfl) ?_
      refine lv_bipush (v := I 61) hx hb dX11_little_186 (by decide) ?_
      obtain ⟨_, hc_922⟩ := hO.cell h_a (by decide) (ci := 11) rfl
      refine th_calli (va_runV (As := [.int (I 61)]) (rest := []) ⟨hx, hb, hml, hown, hts⟩ (n_isMarked l G y b0 σ_s_897 E hO a h_a 61 (show rng 61 from (show rng 61 from ⟨by decide, by decide⟩)) (by omega) (by omega) Bf hsr T hSt cc_875 jt hR_907 (by omega)) (cwV 1 hts gX11_little_X11_isMarked rfl rfl rfl (by decide +kernel) ⟨Nat.le_of_ble_eq_true rfl, Nat.le_of_ble_eq_true rfl⟩) (th_PV hK hH rfl hc_922) rfl rfl hl.1 rfl (lv_room (Nat.le_of_ble_eq_true rfl)) dX11_little_188 ⟨Nat.le_of_ble_eq_true rfl, Nat.le_of_ble_eq_true rfl⟩) hS (fun z_925 σ_s_924 H locs rz_925 hw_923 hH hS => ?_)
      obtain ⟨e9, bhw_923, hw_923⟩ := hw_923
      replace e9 := e9.symm
      subst e9
      replace hw_923 : (z_925 = 1 ∧ cc_875 = 0 ∧ tK T jt = 61) ∨ (z_925 = 0 ∧ (cc_875 ≠ 0 ∨ tK T jt ≠ 61)) := hw_923
      try simp only [h0_908, ne_eq, not_true_eq_false, not_false_eq_true, false_implies, true_implies, true_and, and_true, eq_self, false_or, or_false, false_and, and_false] at hw_923
      replace hw_923 : z_925 = 0 := by omega
      subst hw_923
      refine lv_if_ne (tgt := 212) hx hb dX11_little_191 (by decide) (fun c_926 => absurd (by decide) c_926) (fun _ => ?_)
      refine lv_aload_n hx hb dX11_little_194 rfl (lv_at hl 1 rfl) ?_
      refine lv_bipush (v := I 60) hx hb dX11_little_195 (by decide) ?_
      obtain ⟨_, hc_927⟩ := hO.cell h_a (by decide) (ci := 11) rfl
      refine th_calli (va_runV (As := [.int (I 60)]) (rest := []) ⟨hx, hb, hml, hown, hts⟩ (n_isMarked l G y b0 σ_s_897 E hO a h_a 60 (show rng 60 from (show rng 60 from ⟨by decide, by decide⟩)) (by omega) (by omega) Bf hsr T hSt cc_875 jt hR_907 (by omega)) (cwV 1 hts gX11_little_X11_isMarked rfl rfl rfl (by decide +kernel) ⟨Nat.le_of_ble_eq_true rfl, Nat.le_of_ble_eq_true rfl⟩) (th_PV hK hH rfl hc_927) rfl rfl hl.1 rfl (lv_room (Nat.le_of_ble_eq_true rfl)) dX11_little_197 ⟨Nat.le_of_ble_eq_true rfl, Nat.le_of_ble_eq_true rfl⟩) hS (fun z_930 σ_s_929 H locs rz_930 hw_928 hH hS => ?_)
      obtain ⟨e9, bhw_928, hw_928⟩ := hw_928
      replace e9 := e9.symm
      subst e9
      replace hw_928 : (z_930 = 1 ∧ cc_875 = 0 ∧ tK T jt = 60) ∨ (z_930 = 0 ∧ (cc_875 ≠ 0 ∨ tK T jt ≠ 60)) := hw_928
      try simp only [h0_908, ne_eq, not_true_eq_false, not_false_eq_true, false_implies, true_implies, true_and, and_true, eq_self, false_or, or_false, false_and, and_false] at hw_928
      replace hw_928 : z_930 = 0 := by omega
      subst hw_928
      refine lv_if_ne (tgt := 212) hx hb dX11_little_200 (by decide) (fun c_931 => absurd (by decide) c_931) (fun _ => ?_)
      refine lv_aload_n hx hb dX11_little_203 rfl (lv_at hl 1 rfl) ?_
      refine lv_bipush (v := I 62) hx hb dX11_little_204 (by decide) ?_
      obtain ⟨_, hc_932⟩ := hO.cell h_a (by decide) (ci := 11) rfl
      refine th_calli (va_runV (As := [.int (I 62)]) (rest := []) ⟨hx, hb, hml, hown, hts⟩ (n_isMarked l G y b0 σ_s_897 E hO a h_a 62 (show rng 62 from (show rng 62 from ⟨by decide, by decide⟩)) (by omega) (by omega) Bf hsr T hSt cc_875 jt hR_907 (by omega)) (cwV 1 hts gX11_little_X11_isMarked rfl rfl rfl (by decide +kernel) ⟨Nat.le_of_ble_eq_true rfl, Nat.le_of_ble_eq_true rfl⟩) (th_PV hK hH rfl hc_932) rfl rfl hl.1 rfl (lv_room (Nat.le_of_ble_eq_true rfl)) dX11_little_206 ⟨Nat.le_of_ble_eq_true rfl, Nat.le_of_ble_eq_true rfl⟩) hS (fun z_935 σ_s_934 H locs rz_935 hw_933 hH hS => ?_)
      obtain ⟨e9, bhw_933, hw_933⟩ := hw_933
      replace e9 := e9.symm
      subst e9
      replace hw_933 : (z_935 = 1 ∧ cc_875 = 0 ∧ tK T jt = 62) ∨ (z_935 = 0 ∧ (cc_875 ≠ 0 ∨ tK T jt ≠ 62)) := hw_933
      try simp only [h0_908, ne_eq, not_true_eq_false, not_false_eq_true, false_implies, true_implies, true_and, and_true, eq_self, false_or, or_false, false_and, and_false] at hw_933
      replace hw_933 : z_935 = 0 := by omega
      subst hw_933
      refine lv_if_eq (tgt := 216) hx hb dX11_little_209 (by decide) (fun _ => ?_) (fun c_936 => absurd (by decide) c_936)
      refine lv_iconst (v := I 0) hx hb dX11_little_216 (by decide) ?_
      refine lv_istore_n (lv' := [(2, .int (I 0)), (1, .int (I (-1))), (0, .ref a)]) hx hb dX11_little_217 rfl hl (by decide) rfl (fun ls hl => ?_)
      refine lv_iload_n hx hb dX11_little_218 rfl (lv_at hl 0 rfl) ?_
      refine lv_if_ne (tgt := 233) hx hb dX11_little_219 (by decide) (fun c_937 => absurd (by decide) c_937) (fun _ => ?_)
      refine lv_iload_n hx hb dX11_little_222 rfl (lv_at hl 1 rfl) ?_
      refine lv_iconst (v := I (-1)) hx hb dX11_little_223 (by decide) ?_
      refine lv_icmp_eq (tgt := 231) hx hb dX11_little_224 (by decide) (fun _ => ?_) (fun c_938 => absurd (by decide) c_938)
      refine lv_iconst (v := I 0) hx hb dX11_little_231 (by decide) ?_
      exact th_zret hx hb hr hlocks hH hS (z := 0) (by omega) ⟨hO, hF, hM, ⟨by omega, by omega⟩, ⟨by omega, cc_875, jt, hR_907, ⟨(fun h9 => absurd rfl h9), fun _ => ⟨by omega, hG_879.was h0_908⟩, fun h9 => absurd h9 h0_908⟩⟩⟩ dX11_little_232
  · try simp only [h0_1, ne_eq, not_true_eq_false, not_false_eq_true, false_implies, true_implies, true_and, and_true, eq_self, false_or, or_false, false_and, and_false] at hV0
    have e_939 : gI σ a 25 = 0 := by omega
    have e_940 : gI σ a 30 = -1 := by omega
    refine lv_aload_n hx hb dX11_little_0 rfl (lv_at hl 0 rfl) ?_
    refine lv_bipush (v := I 64) hx hb dX11_little_1 (by decide) ?_
    obtain ⟨_, hc_941⟩ := hO.cell h_a (by decide) (ci := 11) rfl
    refine th_calli (va_runV (As := [.int (I 64)]) (rest := []) ⟨hx, hb, hml, hown, hts⟩ (n_isMarked l G y b0 σ E hO a h_a 64 (show rng 64 from (show rng 64 from ⟨by decide, by decide⟩)) (by omega) (by omega) Bf hsr T hSt fc jt hR0 (by omega)) (cwV 1 hts gX11_little_X11_isMarked rfl rfl rfl (by decide +kernel) ⟨Nat.le_of_ble_eq_true rfl, Nat.le_of_ble_eq_true rfl⟩) (th_PV hK hH rfl hc_941) rfl rfl hl.1 rfl (lv_room (Nat.le_of_ble_eq_true rfl)) dX11_little_3 ⟨Nat.le_of_ble_eq_true rfl, Nat.le_of_ble_eq_true rfl⟩) hS (fun z_944 σ_s_943 H locs rz_944 hw_942 hH hS => ?_)
    obtain ⟨e9, bhw_942, hw_942⟩ := hw_942
    replace e9 := e9.symm
    subst e9
    replace hw_942 : (z_944 = 1 ∧ fc = 0 ∧ tK T jt = 64) ∨ (z_944 = 0 ∧ (fc ≠ 0 ∨ tK T jt ≠ 64)) := hw_942
    try simp only [h0_1, ne_eq, not_true_eq_false, not_false_eq_true, false_implies, true_implies, true_and, and_true, eq_self, false_or, or_false, false_and, and_false] at hw_942
    replace hw_942 : z_944 = 0 := by omega
    subst hw_942
    refine lv_if_ne (tgt := 14) hx hb dX11_little_6 (by decide) (fun c_945 => absurd (by decide) c_945) (fun _ => ?_)
    refine lv_aload_n hx hb dX11_little_9 rfl (lv_at hl 0 rfl) ?_
    refine lv_iconst (v := I 1) hx hb dX11_little_10 (by decide) ?_
    obtain ⟨_, hc_946⟩ := hO.cell h_a (by decide) (ci := 11) rfl
    refine th_callv (va_runV (As := [.int (I 1)]) (rest := []) ⟨hx, hb, hml, hown, hts⟩ (n_wrong l G y b0 σ E hO a h_a 1 (show rng 1 from (show rng 1 from ⟨by decide, by decide⟩)) (by omega) (by omega) Bf hsr T hSt fc jt hR0) (cwV 1 hts gX11_little_X11_wrong rfl rfl rfl (by decide +kernel) ⟨Nat.le_of_ble_eq_true rfl, Nat.le_of_ble_eq_true rfl⟩) (th_PV hK hH rfl hc_946) rfl rfl hl.1 rfl (lv_room (Nat.le_of_ble_eq_true rfl)) dX11_little_11 ⟨Nat.le_of_ble_eq_true rfl, Nat.le_of_ble_eq_true rfl⟩) hS (fun σ_s_948 H locs hw_947 hH hS => ?_)
    obtain ⟨hO9, hF9, hM9, hw_947⟩ := hw_947
    replace hM := hM.tu hM9 (by decide)
    replace hF := hF.tu hF9 (by decide)
    have e_949 : aF σ_s_948 (ad E a 1) = f1 := (hM9.a (by decide) (by decide)).trans ef1
    have e_950 : gI σ_s_948 a 11 = a110 := (hM9.i (by decide)).trans ea110
    have e_951 : gI σ_s_948 a 13 = a130 := (hM9.i (by decide)).trans ea130
    have e_952 : gI σ_s_948 a 14 = a140 := (hM9.i (by decide)).trans ea140
    have e_953 : gI σ_s_948 a 17 = a170 := (hM9.i (by decide)).trans ea170
    have e_954 : gI σ_s_948 a 27 = a270 := (hM9.i (by decide)).trans ea270
    have e_955 : gI σ_s_948 a 30 = (-1) := (hM9.i (by decide)).trans e_940
    have e_956 : gI σ_s_948 a 25 = 0 := (hM9.i (by decide)).trans e_939
    replace hsr := hsr.mv hM9 (by decide) (by decide) (by decide) (by decide) (by decide)
    replace hO := hO9
    replace hw_947 : (¬ gI σ_s_948 a 19 = 0 ∧ (gI σ a 19 = 0 ∨ gI σ_s_948 a 19 = gI σ a 19)) ∧ ∃ c1 j1, RSt σ_s_948 a T c1 j1 ∧ (j1 = jt ∧ (fc = 0 → c1 = 1) ∧ (fc ≠ 0 → c1 = fc)) := hw_947
    replace hV0 := hid.mk hV0
    have hn_957 := hw_947.2
    replace hw_947 := hw_947.1
    obtain ⟨cc_958, jj_959, hR_960, hn_957⟩ := hn_957
    have hVhR_960 := hR_960.1
    have hj9 := hn_957.1.symm
    subst hj9
    try simp only [h0_1, ne_eq, not_true_eq_false, not_false_eq_true, false_implies, true_implies, true_and, and_true, eq_self, false_or, or_false, false_and, and_false] at hn_957
    have h0_961 : ¬ cc_958 = 0 := by omega
    try simp only [h0_961, ne_eq, not_true_eq_false, not_false_eq_true, false_implies, true_implies, true_and, and_true, eq_self, false_or, or_false, false_and, and_false] at hVhR_960
    try simp only [h0_1, h0_961, ne_eq, not_true_eq_false, not_false_eq_true, false_implies, true_implies, true_and, and_true, eq_self, false_or, or_false, false_and, and_false] at hn_957
    have hc_962 : fc = cc_958 := by omega
    subst hc_962
    refine lv_aload_n hx hb dX11_little_14 rfl (lv_at hl 0 rfl) ?_
    refine ok.getI hO h_a (by decide) k13_19 (fun _ _ he hv kk => th_get (ci := 11) (C := RX11) (T := TX11) (N := 66) hx hb hts inX11 hown hK hH he rfl 19 (by decide) fl0 hv dX11_little_15 kk) (fun z_963 e_964 rz_963 lz_963 uz_963 => ?_)
    refine lv_if_ne (tgt := 42) hx hb dX11_little_18 (by decide) (fun _ => ?_) (fun c_965 => absurd ((I_eq (a := z_963) (b := 0) rz_963 (show rng 0 from ⟨by decide, by decide⟩)).mp c_965) (by omega))
    refine lv_aload_n hx hb dX11_little_42 rfl (lv_at hl 0 rfl) ?_
    refine lv_dup hx hb dX11_little_43 rfl ?_
    refine ok.getIc hO h_a (by decide) k13_27 e_954 (fun _ _ he hv kk => th_get (ci := 11) (C := RX11) (T := TX11) (N := 66) hx hb hts inX11 hown hK hH he rfl 27 (by decide) fl1 hv dX11_little_44 kk) ?_
    refine lv_iconst (v := I 1) hx hb dX11_little_47 (by decide) ?_
    refine lv_iadd hx hb dX11_little_48 ?_
    refine th_addo (fun z_966 rz_966 hz_966 => ?_)
    refine ok.putJ hO h_a k13_27 rz_966 (by omega) (by omega) (fun _ he hl9 kk => th_put (ci := 11) (v := .int (I z_966)) (ty := .int) (C := RX11) (T := TX11) (N := 66) hx hb hts inX11 tyX11 tyX11_ok nmX11 hown hK hH hS h00 he rfl 27 (by decide) fl1 rfl (by decide +kernel) rfl rfl hl9 dX11_little_49 kk) (fun σ_s_967 H locs hO hF9 hM9 hg9 ha9 hH hS => ?_)
    replace hM := hM.tu hM9 (by decide)
    replace hF := hF.tu hF9 (by decide)
    have e_968 : aF σ_s_967 (ad E a 1) = f1 := (hM9.a (by decide) (by decide)).trans e_949
    have e_969 : gI σ_s_967 a 11 = a110 := (hM9.i (by decide)).trans e_950
    have e_970 : gI σ_s_967 a 13 = a130 := (hM9.i (by decide)).trans e_951
    have e_971 : gI σ_s_967 a 14 = a140 := (hM9.i (by decide)).trans e_952
    have e_972 : gI σ_s_967 a 17 = a170 := (hM9.i (by decide)).trans e_953
    have e_973 : gI σ_s_967 a 30 = (-1) := (hM9.i (by decide)).trans e_955
    have e_974 : gI σ_s_967 a 25 = 0 := (hM9.i (by decide)).trans e_956
    have e_975 : gI σ_s_967 a 19 = z_963 := (hM9.i (by decide)).trans e_964
    replace hsr := hsr.mv hM9 (by decide) (by decide) (by decide) (by decide) (by decide)
    replace hVhR_960 := hid.mk hVhR_960
    have hR_976 : RSt σ_s_967 a T fc jt := RSt.mv hM9 (by decide) (by decide) (by decide) (by decide) (by decide) (by decide) (by decide) hR_960
    have hVhR_976 := hR_976.1
    have e_977 := hg9
    refine lv_aload_n hx hb dX11_little_52 rfl (lv_at hl 0 rfl) ?_
    obtain ⟨_, hc_978⟩ := hO.cell h_a (by decide) (ci := 11) rfl
    refine th_callv (va_runV (As := []) (rest := []) ⟨hx, hb, hml, hown, hts⟩ (n_pass l G y b0 σ_s_967 E hO a h_a Bf hsr T hSt fc jt hR_976 (by omega) (by omega)) (cwV 0 hts gX11_little_X11_pass rfl rfl rfl (by decide +kernel) ⟨Nat.le_of_ble_eq_true rfl, Nat.le_of_ble_eq_true rfl⟩) (th_PV hK hH rfl hc_978) rfl rfl hl.1 rfl (lv_room (Nat.le_of_ble_eq_true rfl)) dX11_little_53 ⟨Nat.le_of_ble_eq_true rfl, Nat.le_of_ble_eq_true rfl⟩) hS (fun σ_s_980 H locs hw_979 hH hS => ?_)
    obtain ⟨hO9, hF9, hM9, hw_979⟩ := hw_979
    replace hM := hM.tu hM9 (by decide)
    replace hF := hF.tu hF9 (by decide)
    have e_981 : aF σ_s_980 (ad E a 1) = f1 := (hM9.a (by decide) (by decide)).trans e_968
    have e_982 : gI σ_s_980 a 11 = a110 := (hM9.i (by decide)).trans e_969
    have e_983 : gI σ_s_980 a 30 = (-1) := (hM9.i (by decide)).trans e_973
    have e_984 : gI σ_s_980 a 25 = 0 := (hM9.i (by decide)).trans e_974
    have e_985 : gI σ_s_980 a 19 = z_963 := (hM9.i (by decide)).trans e_975
    have e_986 : gI σ_s_980 a 27 = z_966 := (hM9.i (by decide)).trans e_977
    replace hsr := hsr.mv hM9 (by decide) (by decide) (by decide) (by decide) (by decide)
    replace hO := hO9
    replace hw_979 : ((gI σ_s_967 a 13 ≤ gI σ_s_980 a 13 ∧ gI σ_s_980 a 13 ≤ gI σ_s_967 a 11 ∧ 0 ≤ gI σ_s_980 a 17 ∧ gI σ_s_980 a 17 ≤ gI σ_s_980 a 13) ∧ pgo (gI σ_s_980 a 19) (gI σ_s_980 a 14) (gI σ_s_967 a 13) (gI σ_s_980 a 13) ∧ gI σ_s_980 a 19 = gI σ_s_967 a 19) ∧ ∃ c1 j1, RSt σ_s_980 a T c1 j1 ∧ (c1 = fc ∧ (fc ≠ 0 → j1 = jt) ∧ (fc = 0 → j1 = jt + 1)) := hw_979
    replace hw_947 := hid.mk hw_947
    replace hn_957 := hid.mk hn_957
    replace hVhR_976 := hid.mk hVhR_976
    have hn_987 := hw_979.2
    replace hw_979 := hw_979.1
    obtain ⟨cc_988, jj_989, hR_990, hn_987⟩ := hn_987
    have hVhR_990 := hR_990.1
    try simp only [h0_961, ne_eq, not_true_eq_false, not_false_eq_true, false_implies, true_implies, true_and, and_true, eq_self, false_or, or_false, false_and, and_false] at hn_987
    have h0_991 : ¬ cc_988 = 0 := by omega
    try simp only [h0_991, ne_eq, not_true_eq_false, not_false_eq_true, false_implies, true_implies, true_and, and_true, eq_self, false_or, or_false, false_and, and_false] at hVhR_990
    try simp only [h0_1, h0_961, h0_991, ne_eq, not_true_eq_false, not_false_eq_true, false_implies, true_implies, true_and, and_true, eq_self, false_or, or_false, false_and, and_false] at hn_987
    have hc_992 : fc = cc_988 := by omega
    subst hc_992
    have hj_993 : jt = jj_989 := by omega
    subst hj_993
    refine lv_aload_n hx hb dX11_little_56 rfl (lv_at hl 0 rfl) ?_
    refine ok.getIc hO h_a (by decide) k13_30 e_983 (fun _ _ he hv kk => th_get (ci := 11) (C := RX11) (T := TX11) (N := 66) hx hb hts inX11 hown hK hH he rfl 30 (by decide) fl2 hv dX11_little_57 kk) ?_
    refine lv_istore_n (lv' := [(1, .int (I (-1))), (0, .ref a)]) hx hb dX11_little_60 rfl hl (by decide) rfl (fun ls hl => ?_)
    refine lv_aload_n hx hb dX11_little_61 rfl (lv_at hl 1 rfl) ?_
    refine lv_bipush (v := I 46) hx hb dX11_little_62 (by decide) ?_
    obtain ⟨_, hc_994⟩ := hO.cell h_a (by decide) (ci := 11) rfl
    refine th_calli (va_runV (As := [.int (I 46)]) (rest := []) ⟨hx, hb, hml, hown, hts⟩ (n_isMarked l G y b0 σ_s_980 E hO a h_a 46 (show rng 46 from (show rng 46 from ⟨by decide, by decide⟩)) (by omega) (by omega) Bf hsr T hSt fc jt hR_990 (by omega)) (cwV 1 hts gX11_little_X11_isMarked rfl rfl rfl (by decide +kernel) ⟨Nat.le_of_ble_eq_true rfl, Nat.le_of_ble_eq_true rfl⟩) (th_PV hK hH rfl hc_994) rfl rfl hl.1 rfl (lv_room (Nat.le_of_ble_eq_true rfl)) dX11_little_64 ⟨Nat.le_of_ble_eq_true rfl, Nat.le_of_ble_eq_true rfl⟩) hS (fun z_997 σ_s_996 H locs rz_997 hw_995 hH hS => ?_)
    obtain ⟨e9, bhw_995, hw_995⟩ := hw_995
    replace e9 := e9.symm
    subst e9
    replace hw_995 : (z_997 = 1 ∧ fc = 0 ∧ tK T jt = 46) ∨ (z_997 = 0 ∧ (fc ≠ 0 ∨ tK T jt ≠ 46)) := hw_995
    have hb_998 := hw_979.1
    replace hw_979 := hid.mk hw_979
    replace hn_987 := hid.mk hn_987
    try simp only [h0_991, ne_eq, not_true_eq_false, not_false_eq_true, false_implies, true_implies, true_and, and_true, eq_self, false_or, or_false, false_and, and_false] at hw_995
    replace hw_995 : z_997 = 0 := by omega
    subst hw_995
    refine lv_if_ne (tgt := 79) hx hb dX11_little_67 (by decide) (fun c_999 => absurd (by decide) c_999) (fun _ => ?_)
    refine lv_aload_n hx hb dX11_little_70 rfl (lv_at hl 1 rfl) ?_
    refine lv_bipush (v := I 91) hx hb dX11_little_71 (by decide) ?_
    obtain ⟨_, hc_1000⟩ := hO.cell h_a (by decide) (ci := 11) rfl
    refine th_calli (va_runV (As := [.int (I 91)]) (rest := []) ⟨hx, hb, hml, hown, hts⟩ (n_isMarked l G y b0 σ_s_980 E hO a h_a 91 (show rng 91 from (show rng 91 from ⟨by decide, by decide⟩)) (by omega) (by omega) Bf hsr T hSt fc jt hR_990 (by omega)) (cwV 1 hts gX11_little_X11_isMarked rfl rfl rfl (by decide +kernel) ⟨Nat.le_of_ble_eq_true rfl, Nat.le_of_ble_eq_true rfl⟩) (th_PV hK hH rfl hc_1000) rfl rfl hl.1 rfl (lv_room (Nat.le_of_ble_eq_true rfl)) dX11_little_73 ⟨Nat.le_of_ble_eq_true rfl, Nat.le_of_ble_eq_true rfl⟩) hS (fun z_1003 σ_s_1002 H locs rz_1003 hw_1001 hH hS => ?_)
    obtain ⟨e9, bhw_1001, hw_1001⟩ := hw_1001
    replace e9 := e9.symm
    subst e9
    replace hw_1001 : (z_1003 = 1 ∧ fc = 0 ∧ tK T jt = 91) ∨ (z_1003 = 0 ∧ (fc ≠ 0 ∨ tK T jt ≠ 91)) := hw_1001
    try simp only [h0_991, ne_eq, not_true_eq_false, not_false_eq_true, false_implies, true_implies, true_and, and_true, eq_self, false_or, or_false, false_and, and_false] at hw_1001
    replace hw_1001 : z_1003 = 0 := by omega
    subst hw_1001
    refine lv_if_eq (tgt := 185) hx hb dX11_little_76 (by decide) (fun _ => ?_) (fun c_1004 => absurd (by decide) c_1004)
    refine lv_aload_n hx hb dX11_little_185 rfl (lv_at hl 1 rfl) ?_
    refine lv_bipush (v := I 61) hx hb dX11_little_186 (by decide) ?_
    obtain ⟨_, hc_1005⟩ := hO.cell h_a (by decide) (ci := 11) rfl
    refine th_calli (va_runV (As := [.int (I 61)]) (rest := []) ⟨hx, hb, hml, hown, hts⟩ (n_isMarked l G y b0 σ_s_980 E hO a h_a 61 (show rng 61 from (show rng 61 from ⟨by decide, by decide⟩)) (by omega) (by omega) Bf hsr T hSt fc jt hR_990 (by omega)) (cwV 1 hts gX11_little_X11_isMarked rfl rfl rfl (by decide +kernel) ⟨Nat.le_of_ble_eq_true rfl, Nat.le_of_ble_eq_true rfl⟩) (th_PV hK hH rfl hc_1005) rfl rfl hl.1 rfl (lv_room (Nat.le_of_ble_eq_true rfl)) dX11_little_188 ⟨Nat.le_of_ble_eq_true rfl, Nat.le_of_ble_eq_true rfl⟩) hS (fun z_1008 σ_s_1007 H locs rz_1008 hw_1006 hH hS => ?_)
    obtain ⟨e9, bhw_1006, hw_1006⟩ := hw_1006
    replace e9 := e9.symm
    subst e9
    replace hw_1006 : (z_1008 = 1 ∧ fc = 0 ∧ tK T jt = 61) ∨ (z_1008 = 0 ∧ (fc ≠ 0 ∨ tK T jt ≠ 61)) := hw_1006
    try simp only [h0_991, ne_eq, not_true_eq_false, not_false_eq_true, false_implies, true_implies, true_and, and_true, eq_self, false_or, or_false, false_and, and_false] at hw_1006
    replace hw_1006 : z_1008 = 0 := by omega
    subst hw_1006
    refine lv_if_ne (tgt := 212) hx hb dX11_little_191 (by decide) (fun c_1009 => absurd (by decide) c_1009) (fun _ => ?_)
    refine lv_aload_n hx hb dX11_little_194 rfl (lv_at hl 1 rfl) ?_
    refine lv_bipush (v := I 60) hx hb dX11_little_195 (by decide) ?_
    obtain ⟨_, hc_1010⟩ := hO.cell h_a (by decide) (ci := 11) rfl
    refine th_calli (va_runV (As := [.int (I 60)]) (rest := []) ⟨hx, hb, hml, hown, hts⟩ (n_isMarked l G y b0 σ_s_980 E hO a h_a 60 (show rng 60 from (show rng 60 from ⟨by decide, by decide⟩)) (by omega) (by omega) Bf hsr T hSt fc jt hR_990 (by omega)) (cwV 1 hts gX11_little_X11_isMarked rfl rfl rfl (by decide +kernel) ⟨Nat.le_of_ble_eq_true rfl, Nat.le_of_ble_eq_true rfl⟩) (th_PV hK hH rfl hc_1010) rfl rfl hl.1 rfl (lv_room (Nat.le_of_ble_eq_true rfl)) dX11_little_197 ⟨Nat.le_of_ble_eq_true rfl, Nat.le_of_ble_eq_true rfl⟩) hS (fun z_1013 σ_s_1012 H locs rz_1013 hw_1011 hH hS => ?_)
    obtain ⟨e9, bhw_1011, hw_1011⟩ := hw_1011
    replace e9 := e9.symm
    subst e9
    replace hw_1011 : (z_1013 = 1 ∧ fc = 0 ∧ tK T jt = 60) ∨ (z_1013 = 0 ∧ (fc ≠ 0 ∨ tK T jt ≠ 60)) := hw_1011
    try simp only [h0_991, ne_eq, not_true_eq_false, not_false_eq_true, false_implies, true_implies, true_and, and_true, eq_self, false_or, or_false, false_and, and_false] at hw_1011
    replace hw_1011 : z_1013 = 0 := by omega
    subst hw_1011
    refine lv_if_ne (tgt := 212) hx hb dX11_little_200 (by decide) (fun c_1014 => absurd (by decide) c_1014) (fun _ => ?_)
    refine lv_aload_n hx hb dX11_little_203 rfl (lv_at hl 1 rfl) ?_
    refine lv_bipush (v := I 62) hx hb dX11_little_204 (by decide) ?_
    obtain ⟨_, hc_1015⟩ := hO.cell h_a (by decide) (ci := 11) rfl
    refine th_calli (va_runV (As := [.int (I 62)]) (rest := []) ⟨hx, hb, hml, hown, hts⟩ (n_isMarked l G y b0 σ_s_980 E hO a h_a 62 (show rng 62 from (show rng 62 from ⟨by decide, by decide⟩)) (by omega) (by omega) Bf hsr T hSt fc jt hR_990 (by omega)) (cwV 1 hts gX11_little_X11_isMarked rfl rfl rfl (by decide +kernel) ⟨Nat.le_of_ble_eq_true rfl, Nat.le_of_ble_eq_true rfl⟩) (th_PV hK hH rfl hc_1015) rfl rfl hl.1 rfl (lv_room (Nat.le_of_ble_eq_true rfl)) dX11_little_206 ⟨Nat.le_of_ble_eq_true rfl, Nat.le_of_ble_eq_true rfl⟩) hS (fun z_1018 σ_s_1017 H locs rz_1018 hw_1016 hH hS => ?_)
    obtain ⟨e9, bhw_1016, hw_1016⟩ := hw_1016
    replace e9 := e9.symm
    subst e9
    replace hw_1016 : (z_1018 = 1 ∧ fc = 0 ∧ tK T jt = 62) ∨ (z_1018 = 0 ∧ (fc ≠ 0 ∨ tK T jt ≠ 62)) := hw_1016
    try simp only [h0_991, ne_eq, not_true_eq_false, not_false_eq_true, false_implies, true_implies, true_and, and_true, eq_self, false_or, or_false, false_and, and_false] at hw_1016
    replace hw_1016 : z_1018 = 0 := by omega
    subst hw_1016
    refine lv_if_eq (tgt := 216) hx hb dX11_little_209 (by decide) (fun _ => ?_) (fun c_1019 => absurd (by decide) c_1019)
    refine lv_iconst (v := I 0) hx hb dX11_little_216 (by decide) ?_
    refine lv_istore_n (lv' := [(2, .int (I 0)), (1, .int (I (-1))), (0, .ref a)]) hx hb dX11_little_217 rfl hl (by decide) rfl (fun ls hl => ?_)
    refine lv_iload_n hx hb dX11_little_218 rfl (lv_at hl 0 rfl) ?_
    refine lv_if_ne (tgt := 233) hx hb dX11_little_219 (by decide) (fun c_1020 => absurd (by decide) c_1020) (fun _ => ?_)
    refine lv_iload_n hx hb dX11_little_222 rfl (lv_at hl 1 rfl) ?_
    refine lv_iconst (v := I (-1)) hx hb dX11_little_223 (by decide) ?_
    refine lv_icmp_eq (tgt := 231) hx hb dX11_little_224 (by decide) (fun _ => ?_) (fun c_1021 => absurd (by decide) c_1021)
    refine lv_iconst (v := I 0) hx hb dX11_little_231 (by decide) ?_
    exact th_zret hx hb hr hlocks hH hS (z := 0) (by omega) ⟨hO, hF, hM, ⟨by omega, by omega⟩, ⟨by omega, fc, jt, hR_990, ⟨fun _ => ⟨rfl, rfl⟩, fun h9 => absurd h9 h0_991, fun h9 => absurd h9 h0_991⟩⟩⟩ dX11_little_232
