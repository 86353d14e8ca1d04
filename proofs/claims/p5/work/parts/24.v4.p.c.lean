set_option maxHeartbeats 20000000 in
set_option maxRecDepth 100000 in
theorem n_readStep (l : Launch) (G : va_G) (y : Nat → ClassId) (b0 : Nat) (σ : th_M) (E : th_E) (hO : ok y E σ) (a : Nat) (h_a : kd E a = 13) (f1 : Nat → Int32) (ef1 : aF σ (ad E a 1) = f1) (Bf : Int → Int) (hsr : sr E σ a Bf) (T : tkT) (hSt : tkSt Bf T) (fc jt : Int) (hR0 : RSt σ a T fc jt) (hy0 : 0 ≤ gI σ a 17 ∧ gI σ a 17 ≤ gI σ a 13 ∧ gI σ a 13 ≤ gI σ a 11 ∧ gI σ a 11 ≤ 400) (hy1 : gI σ a 25 = 0) (hy2 : gI σ a 28 = 0) (hy3 : fc = 0) (hy4 : tK T jt ≠ 259) (hy5 : 0 ≤ gI σ a 26 ∧ gI σ a 26 ≤ 8) (hy6 : 0 ≤ gI σ a 27 ∧ gI σ a 27 ≤ 12) (hy7 : GP T 0 jt (gI σ a 27) (gI σ a 26)) : Met l yX11_readStep wsX11_readStep ({ frames := 48, cells := 0, slots := 0, locals := 1635 }) (th_P G y b0 σ [.ref a]) (th_Qv G b0 (fun σ1 => ok y E σ1 ∧ fr [13] E σ σ1 ∧ fm [13, 14, 15, 16, 17, 18, 19, 20, 27, 28, 24, 26, 30] E σ σ1 a ∧ (((gI σ a 13 ≤ gI σ1 a 13 ∧ gI σ1 a 13 ≤ gI σ a 11 ∧ 0 ≤ gI σ1 a 17 ∧ gI σ1 a 17 ≤ gI σ1 a 13) ∧ gI σ1 a 28 = 0 ∧ (0 ≤ gI σ1 a 26 ∧ gI σ1 a 26 ≤ 8)) ∧ ∃ c1 j1, RSt σ1 a T c1 j1 ∧ jt ≤ j1 ∧ (c1 = 0 → jt < j1 ∧ 0 ≤ gI σ1 a 27 ∧ gI σ1 a 27 ≤ 12) ∧ GP T c1 j1 (gI σ1 a 27) (gI σ1 a 26)))) 0 0 (th_A b0) := by
  refine Met.ofW (cc := cX11_readStep) (maxL := 3) (ret := none) (by decide) rfl ?_
  intro p e s m args below meth c s₁ B hml hv
  obtain ⟨rfl, hH, hK⟩ := hv
  have hx := B.exec
  have hb := B.bytes
  have hr := B.returns
  have hts := atoms_spec (ws := wsX11_readStep) B.pre
  have hown : s.vm.findClass RX11 = some m.cls := findClass_of_methodNamed B.named
  have hlocks := B.notSynchronized
  have h00 : b0 ≤ s.heap.size := hH.1
  have hS : va_S (th_A b0) s.heap s.heap [] := va_S.rf
  have hF : fr [13] E σ σ := fr.rf
  have hM : fm [13, 14, 15, 16, 17, 18, 19, 20, 27, 28, 24, 26, 30] E σ σ a := fm.rf
  have inX11 : ∀ w ∈ wsX110, w ∈ wsX11_readStep := by decide +kernel
  have fl0 := hts (.fieldLink RX11 136 "NestQueryModel" "token" "I") (by decide +kernel)
  have fl1 := hts (.fieldLink RX11 162 "NestQueryModel" "bad" "I") (by decide +kernel)
  have fl2 := hts (.fieldLink RX11 273 "NestQueryModel" "stepsRead" "I") (by decide +kernel)
  have fl3 := hts (.fieldLink RX11 300 "NestQueryModel" "isGone" "Z") (by decide +kernel)
  have fl4 := hts (.fieldLink RX11 39 "NestQueryModel" "to" "[Z") (by decide +kernel)
  have hl := lv_entry ([.ref a]) (n := 3) (Nat.le_of_ble_eq_true rfl)
  rw [lg_entry_eq]
  generalize (lg_sl ([.ref a]) ++ List.replicate (3 - (lg_sl ([.ref a])).length) Slot.unset).toArray = ls at hl ⊢
  have hl : lv_has ls 3 [(0, .ref a)] := hl
  obtain ⟨a110, ea110, ra110, la110, ua110⟩ := hO.gi h_a (by decide) k13_11
  obtain ⟨a130, ea130, ra130, la130, ua130⟩ := hO.gi h_a (by decide) k13_13
  obtain ⟨a140, ea140, ra140, la140, ua140⟩ := hO.gi h_a (by decide) k13_14
  obtain ⟨a170, ea170, ra170, la170, ua170⟩ := hO.gi h_a (by decide) k13_17
  obtain ⟨a190, ea190, ra190, la190, ua190⟩ := hO.gi h_a (by decide) k13_19
  obtain ⟨a260, ea260, ra260, la260, ua260⟩ := hO.gi h_a (by decide) k13_26
  obtain ⟨a270, ea270, ra270, la270, ua270⟩ := hO.gi h_a (by decide) k13_27
  obtain ⟨a280, ea280, ra280, la280, ua280⟩ := hO.gi h_a (by decide) k13_28
  have hV0 := hR0.1
  have h0_1 : fc = 0 := by omega
  subst h0_1
  try simp only [ne_eq, not_true_eq_false, not_false_eq_true, false_implies, true_implies, true_and, and_true, eq_self, false_or, or_false, false_and, and_false] at hV0
  have e_2 : gI σ a 19 = 0 := by omega
  have e_3 : gI σ a 25 = 0 := by omega
  refine lv_aload_n hx hb dX11_readStep_0 rfl (lv_at hl 0 rfl) ?_
  refine ok.getIc hO h_a (by decide) k13_14 ea140 (fun _ _ he hv kk => th_get (ci := 11) (C := RX11) (T := TX11) (N := 66) hx hb hts inX11 hown hK hH he rfl 14 (by decide) fl0 hv dX11_readStep_1 kk) ?_
  have ht_4 := hR0.t4
  refine lv_iconst (v := I 4) hx hb dX11_readStep_4 (by decide) ?_
  refine lv_icmp_eq (tgt := 35) hx hb dX11_readStep_5 (by decide) (fun c_5 => ?_) (fun c_5 => ?_)
  · replace c_5 := (I_eq (a := a140) (b := 4) ra140 (show rng 4 from ⟨by decide, by decide⟩)).mp c_5
    have hs_6 : tK T jt = 258 := by omega
    refine lv_iconst (v := I 1) hx hb dX11_readStep_35 (by decide) ?_
    refine lv_goto (tgt := 40) hx hb dX11_readStep_36 (by decide) ?_
    refine lv_istore_n (lv' := [(1, .int (I 1)), (0, .ref a)]) hx hb dX11_readStep_40 rfl hl (by decide) rfl (fun ls hl => ?_)
    refine lv_iload_n hx hb dX11_readStep_41 rfl (lv_at hl 0 rfl) ?_
    refine lv_if_ne (tgt := 50) hx hb dX11_readStep_42 (by decide) (fun _ => ?_) (fun c_7 => absurd c_7 (by decide))
    refine lv_aload_n hx hb dX11_readStep_50 rfl (lv_at hl 1 rfl) ?_
    refine ok.getIc hO h_a (by decide) k13_19 e_2 (fun _ _ he hv kk => th_get (ci := 11) (C := RX11) (T := TX11) (N := 66) hx hb hts inX11 hown hK hH he rfl 19 (by decide) fl1 hv dX11_readStep_51 kk) ?_
    refine lv_if_ne (tgt := 71) hx hb dX11_readStep_54 (by decide) (fun c_8 => absurd (by decide) c_8) (fun _ => ?_)
    refine lv_aload_n hx hb dX11_readStep_57 rfl (lv_at hl 1 rfl) ?_
    refine ok.getIc hO h_a (by decide) k13_26 ea260 (fun _ _ he hv kk => th_get (ci := 11) (C := RX11) (T := TX11) (N := 66) hx hb hts inX11 hown hK hH he rfl 26 (by decide) fl2 hv dX11_readStep_58 kk) ?_
    refine lv_bipush (v := I 8) hx hb dX11_readStep_61 (by decide) ?_
    refine lv_icmp_ne (tgt := 71) hx hb dX11_readStep_63 (by decide) (fun c_9 => ?_) (fun c_9 => ?_)
    · replace c_9 := mt (I_eq (a := a260) (b := 8) ra260 (show rng 8 from ⟨by decide, by decide⟩)).mpr c_9
      refine lv_aload_n hx hb dX11_readStep_71 rfl (lv_at hl 1 rfl) ?_
      refine ok.getIc hO h_a (by decide) k13_19 e_2 (fun _ _ he hv kk => th_get (ci := 11) (C := RX11) (T := TX11) (N := 66) hx hb hts inX11 hown hK hH he rfl 19 (by decide) fl1 hv dX11_readStep_72 kk) ?_
      refine lv_if_eq (tgt := 79) hx hb dX11_readStep_75 (by decide) (fun _ => ?_) (fun c_10 => absurd (by decide) c_10)
      refine lv_iconst (v := I 0) hx hb dX11_readStep_79 (by decide) ?_
      refine lv_istore_n (lv' := [(2, .int (I 0)), (1, .int (I 1)), (0, .ref a)]) hx hb dX11_readStep_80 rfl hl (by decide) rfl (fun ls hl => ?_)
      replace hl : lv_has ls 3 [(2, .int (I 0)), (0, .ref a)] := lv_sub hl [0, 2] rfl
      refine th_loop (α := Int) (pc := 81) (fun x9 => (60 - x9).toNat) (fun x9 σ9 H9 l9 ls9 => ok y E σ9 ∧ fr [13] E σ σ9 ∧ fm [13, 14, 15, 16, 17, 18, 19, 20, 27, 28, 24, 26, 30] E σ σ9 a ∧ sr E σ9 a Bf ∧ th_H G b0 σ9 H9 ∧ va_S (th_A b0) s.heap H9 l9 ∧ lv_has ls9 3 [(0, .ref a), (2, .int (I x9))] ∧ rng x9 ∧ (0 ≤ x9) ∧ (x9 ≤ 60) ∧ (RSt σ9 a T 0 jt) ∧ (gI σ9 a 11 = a110) ∧ (gI σ9 a 13 = a130) ∧ (gI σ9 a 14 = a140) ∧ (gI σ9 a 17 = a170) ∧ (gI σ9 a 19 = 0) ∧ (gI σ9 a 26 = a260) ∧ (gI σ9 a 27 = a270) ∧ (gI σ9 a 28 = a280) ∧ (gI σ9 a 25 = 0) ∧ (aF σ9 (ad E a 1) = f1)) ?_ (0) σ _ _ _ ⟨hO, hF, hM, hsr, hH, hS, lv_sub hl [1, 0] rfl, (show rng 0 from ⟨by decide, by decide⟩), by first | (dsimp only; omega) | omega, by first | (dsimp only; omega) | omega, hR0, ea110, ea130, ea140, ea170, e_2, ea260, ea270, ea280, e_3, ef1⟩
      intro x9 σ_J_26 H locs ls hI9 ihJ_26
      obtain ⟨v2q25, ex9⟩ : ∃ z, z = x9 := ⟨_, rfl⟩
      subst ex9
      obtain ⟨hO, hF, hM, hsr, hH, hS, hl, rv2q25, J_26_0, J_26_1, J_26_2, J_26_3, J_26_4, J_26_5, J_26_6, J_26_7, J_26_8, J_26_9, J_26_10, J_26_11, J_26_12⟩ := hI9
      have hl : lv_has ls 3 [(0, .ref a), (2, .int (I v2q25))] := hl
      have rv2q25 : rng v2q25 := rv2q25
      replace J_26_0 : 0 ≤ v2q25 := J_26_0
      replace J_26_1 : v2q25 ≤ 60 := J_26_1
      replace J_26_2 : RSt σ_J_26 a T 0 jt := J_26_2
      replace J_26_3 : gI σ_J_26 a 11 = a110 := J_26_3
      replace J_26_4 : gI σ_J_26 a 13 = a130 := J_26_4
      replace J_26_5 : gI σ_J_26 a 14 = a140 := J_26_5
      replace J_26_6 : gI σ_J_26 a 17 = a170 := J_26_6
      replace J_26_7 : gI σ_J_26 a 19 = 0 := J_26_7
      replace J_26_8 : gI σ_J_26 a 26 = a260 := J_26_8
      replace J_26_9 : gI σ_J_26 a 27 = a270 := J_26_9
      replace J_26_10 : gI σ_J_26 a 28 = a280 := J_26_10
      replace J_26_11 : gI σ_J_26 a 25 = 0 := J_26_11
      replace J_26_12 : aF σ_J_26 (ad E a 1) = f1 := J_26_12
      replace hV0 := hid.mk hV0
      have hVJ_26_2 := J_26_2.1
      try simp only [ne_eq, not_true_eq_false, not_false_eq_true, false_implies, true_implies, true_and, and_true, eq_self, false_or, or_false, false_and, and_false] at hVJ_26_2
      have e_27 : gI σ_J_26 a 19 = 0 := by omega
      refine lv_iload_n hx hb dX11_readStep_81 rfl (lv_at hl 1 rfl) ?_
      refine lv_bipush (v := I 60) hx hb dX11_readStep_82 (by decide) ?_
      refine lv_icmp_ge (tgt := 100) hx hb dX11_readStep_84 (by decide) (fun c_28 => ?_) (fun c_28 => ?_)
      · replace c_28 := (I_le (a := 60) (b := v2q25) (show rng 60 from ⟨by decide, by decide⟩) rv2q25).mp c_28
        refine lv_aload_n hx hb dX11_readStep_100 rfl (lv_at hl 0 rfl) ?_
        refine ok.getIc hO h_a (by decide) k13_14 J_26_5 (fun _ _ he hv kk => th_get (ci := 11) (C := RX11) (T := TX11) (N := 66) hx hb hts inX11 hown hK hH he rfl 14 (by decide) fl0 hv dX11_readStep_101 kk) ?_
        have ht_29 := J_26_2.t4
        refine lv_iconst (v := I 4) hx hb dX11_readStep_104 (by decide) ?_
        refine lv_icmp_ne (tgt := 119) hx hb dX11_readStep_105 (by decide) (fun c_30 => ?_) (fun c_30 => ?_)
        · replace c_30 := mt (I_eq (a := a140) (b := 4) ra140 (show rng 4 from ⟨by decide, by decide⟩)).mpr c_30
          exfalso; omega
        · replace c_30 := (I_eq (a := a140) (b := 4) ra140 (show rng 4 from ⟨by decide, by decide⟩)).mp c_30
          refine lv_aload_n hx hb dX11_readStep_108 rfl (lv_at hl 0 rfl) ?_
          obtain ⟨_, hc_31⟩ := hO.cell h_a (by decide) (ci := 11) rfl
          refine th_callv (va_runV (As := []) (rest := []) ⟨hx, hb, hml, hown, hts⟩ (n_pass l G y b0 σ_J_26 E hO a h_a Bf hsr T hSt 0 jt J_26_2 (by omega) (by omega)) (cwV 0 hts gX11_readStep_X11_pass rfl rfl rfl (by decide +kernel) ⟨Nat.le_of_ble_eq_true rfl, Nat.le_of_ble_eq_true rfl⟩) (th_PV hK hH rfl hc_31) rfl rfl hl.1 rfl (lv_room (Nat.le_of_ble_eq_true rfl)) dX11_readStep_109 ⟨Nat.le_of_ble_eq_true rfl, Nat.le_of_ble_eq_true rfl⟩) hS (fun σ_s_33 H locs hw_32 hH hS => ?_)
          obtain ⟨hO9, hF9, hM9, hw_32⟩ := hw_32
          replace hM := hM.tu hM9 (by decide)
          replace hF := hF.tu hF9 (by decide)
          have e_34 : gI σ_s_33 a 11 = a110 := (hM9.i (by decide)).trans J_26_3
          have e_35 : gI σ_s_33 a 19 = 0 := (hM9.i (by decide)).trans e_27
          have e_36 : gI σ_s_33 a 26 = a260 := (hM9.i (by decide)).trans J_26_8
          have e_37 : gI σ_s_33 a 27 = a270 := (hM9.i (by decide)).trans J_26_9
          have e_38 : gI σ_s_33 a 28 = a280 := (hM9.i (by decide)).trans J_26_10
          have e_39 : gI σ_s_33 a 25 = 0 := (hM9.i (by decide)).trans J_26_11
          have e_40 : aF σ_s_33 (ad E a 1) = f1 := (hM9.a (by decide) (by decide)).trans J_26_12
          replace hsr := hsr.mv hM9 (by decide) (by decide) (by decide) (by decide) (by decide)
          replace hO := hO9
          replace hw_32 : ((gI σ_J_26 a 13 ≤ gI σ_s_33 a 13 ∧ gI σ_s_33 a 13 ≤ gI σ_J_26 a 11 ∧ 0 ≤ gI σ_s_33 a 17 ∧ gI σ_s_33 a 17 ≤ gI σ_s_33 a 13) ∧ pgo (gI σ_s_33 a 19) (gI σ_s_33 a 14) (gI σ_J_26 a 13) (gI σ_s_33 a 13) ∧ gI σ_s_33 a 19 = gI σ_J_26 a 19) ∧ ∃ c1 j1, RSt σ_s_33 a T c1 j1 ∧ (c1 = 0 ∧ ((0 : Int) ≠ 0 → j1 = jt) ∧ ((0 : Int) = 0 → j1 = jt + 1)) := hw_32
          replace hVJ_26_2 := hid.mk hVJ_26_2
          have hn_41 := hw_32.2
          replace hw_32 := hw_32.1
          obtain ⟨cc_42, jj_43, hR_44, hn_41⟩ := hn_41
          have hVhR_44 := hR_44.1
          have h0_45 : cc_42 = 0 := by omega
          subst h0_45
          try simp only [ne_eq, not_true_eq_false, not_false_eq_true, false_implies, true_implies, true_and, and_true, eq_self, false_or, or_false, false_and, and_false] at hVhR_44
          have e_46 : gI σ_s_33 a 19 = 0 := by omega
          have hj_47 : jt + 1 = jj_43 := by omega
          subst hj_47
          refine lv_aload_n hx hb dX11_readStep_112 rfl (lv_at hl 0 rfl) ?_
          obtain ⟨_, hc_48⟩ := hO.cell h_a (by decide) (ci := 11) rfl
          refine th_callv (va_runV (As := []) (rest := []) ⟨hx, hb, hml, hown, hts⟩ (n_allWithin l G y b0 σ_s_33 E hO a h_a f1 e_40 (by omega)) (cwV 0 hts gX11_readStep_X11_allWithin rfl rfl rfl (by decide +kernel) ⟨Nat.le_of_ble_eq_true rfl, Nat.le_of_ble_eq_true rfl⟩) (th_PV hK hH rfl hc_48) rfl rfl hl.1 rfl (lv_room (Nat.le_of_ble_eq_true rfl)) dX11_readStep_113 ⟨Nat.le_of_ble_eq_true rfl, Nat.le_of_ble_eq_true rfl⟩) hS (fun σ_s_50 H locs hw_49 hH hS => ?_)
          obtain ⟨e9, hw_49⟩ := hw_49
          replace e9 := e9.symm
          subst e9
          have hb_51 := hw_32.1
          replace hw_32 := hid.mk hw_32
          replace hn_41 := hid.mk hn_41
          refine lv_goto (tgt := 179) hx hb dX11_readStep_116 (by decide) ?_
          have hG_52 := hy7.dots hs_6 (by omega)
          refine lv_aload_n hx hb dX11_readStep_179 rfl (lv_at hl 0 rfl) ?_
          refine lv_dup hx hb dX11_readStep_180 rfl ?_
          refine ok.getIc hO h_a (by decide) k13_26 e_36 (fun _ _ he hv kk => th_get (ci := 11) (C := RX11) (T := TX11) (N := 66) hx hb hts inX11 hown hK hH he rfl 26 (by decide) fl2 hv dX11_readStep_181 kk) ?_
          refine lv_iconst (v := I 1) hx hb dX11_readStep_184 (by decide) ?_
          refine lv_iadd hx hb dX11_readStep_185 ?_
          refine nq_top (I_add _ _) ?_
          obtain ⟨z_53, e_54, rz_53, lz_53, uz_53⟩ := hO.gi h_a (by decide) k13_13
          obtain ⟨z_55, e_56, rz_55, lz_55, uz_55⟩ := hO.gi h_a (by decide) k13_17
          refine ok.putJ hO h_a k13_26 ⟨by omega, by omega⟩ (by omega) (by omega) (fun _ he hl9 kk => th_put (ci := 11) (v := .int (I (a260 + 1))) (ty := .int) (C := RX11) (T := TX11) (N := 66) hx hb hts inX11 tyX11 tyX11_ok nmX11 hown hK hH hS h00 he rfl 26 (by decide) fl2 rfl (by decide +kernel) rfl rfl hl9 dX11_readStep_186 kk) (fun σ_s_57 H locs hO hF9 hM9 hg9 ha9 hH hS => ?_)
          replace hM := hM.tu hM9 (by decide)
          replace hF := hF.tu hF9 (by decide)
          have e_58 : gI σ_s_57 a 11 = a110 := (hM9.i (by decide)).trans e_34
          have e_59 : gI σ_s_57 a 19 = 0 := (hM9.i (by decide)).trans e_46
          have e_60 : gI σ_s_57 a 27 = a270 := (hM9.i (by decide)).trans e_37
          have e_61 : gI σ_s_57 a 28 = a280 := (hM9.i (by decide)).trans e_38
          have e_62 : gI σ_s_57 a 25 = 0 := (hM9.i (by decide)).trans e_39
          have e_63 : aF σ_s_57 (ad E a 1) = f1 := (hM9.a (by decide) (by decide)).trans e_40
          have e_64 : gI σ_s_57 a 13 = z_53 := (hM9.i (by decide)).trans e_54
          have e_65 : gI σ_s_57 a 17 = z_55 := (hM9.i (by decide)).trans e_56
          replace hsr := hsr.mv hM9 (by decide) (by decide) (by decide) (by decide) (by decide)
          replace hVhR_44 := hid.mk hVhR_44
          have hR_66 : RSt σ_s_57 a T 0 (jt + 1) := RSt.mv hM9 (by decide) (by decide) (by decide) (by decide) (by decide) (by decide) (by decide) hR_44
          have hVhR_66 := hR_66.1
          have e_67 := hg9
          refine lv_aload_n hx hb dX11_readStep_189 rfl (lv_at hl 0 rfl) ?_
          refine ok.getIc hO h_a (by decide) k13_25 e_62 (fun _ _ he hv kk => th_get (ci := 11) (C := RX11) (T := TX11) (N := 66) hx hb hts inX11 hown hK hH he rfl 25 (by decide) fl3 hv dX11_readStep_190 kk) ?_
          refine lv_if_eq (tgt := 207) hx hb dX11_readStep_193 (by decide) (fun _ => ?_) (fun c_68 => absurd (by decide) c_68)
          exact th_vret hx hb hr hlocks hH hS ⟨hO, hF, hM, ⟨⟨by omega, by omega, by omega⟩, 0, (jt + 1), hR_66, ⟨by omega, by omega, hG_52.en (fun _ => by omega) (fun _ => by omega)⟩⟩⟩ dX11_readStep_207
      · replace c_28 := mt (I_le (a := 60) (b := v2q25) (show rng 60 from ⟨by decide, by decide⟩) rv2q25).mpr c_28
        refine lv_aload_n hx hb dX11_readStep_87 rfl (lv_at hl 0 rfl) ?_
        refine ok.getR hO h_a (by decide) k13_24 (by decide) (fun _ _ he hv kk => th_get (ci := 11) (C := RX11) (T := TX11) (N := 66) hx hb hts inX11 hown hK hH he rfl 24 (by decide) fl4 hv dX11_readStep_88 kk) ?_
        refine lv_iload_n hx hb dX11_readStep_91 rfl (lv_at hl 1 rfl) ?_
        refine lv_iconst (v := I 0) hx hb dX11_readStep_92 (by decide) ?_
        refine m_zast hx hb hK hH hS h00 hO h_a k13_24 (by decide) rv2q25 (by omega) (by omega) (by omega) dX11_readStep_93 (fun σ_s_69 H locs hO hF9 hM9 hH hS => ?_)
        replace hM := hM.tu hM9 (by decide)
        replace hF := hF.tu hF9 (by decide)
        have e_70 : gI σ_s_69 a 11 = a110 := (hM9.i (by decide)).trans J_26_3
        have e_71 : gI σ_s_69 a 13 = a130 := (hM9.i (by decide)).trans J_26_4
        have e_72 : gI σ_s_69 a 14 = a140 := (hM9.i (by decide)).trans J_26_5
        have e_73 : gI σ_s_69 a 17 = a170 := (hM9.i (by decide)).trans J_26_6
        have e_74 : gI σ_s_69 a 19 = 0 := (hM9.i (by decide)).trans e_27
        have e_75 : gI σ_s_69 a 26 = a260 := (hM9.i (by decide)).trans J_26_8
        have e_76 : gI σ_s_69 a 27 = a270 := (hM9.i (by decide)).trans J_26_9
        have e_77 : gI σ_s_69 a 28 = a280 := (hM9.i (by decide)).trans J_26_10
        have e_78 : gI σ_s_69 a 25 = 0 := (hM9.i (by decide)).trans J_26_11
        have e_79 : aF σ_s_69 (ad E a 1) = f1 := (hM9.a (by decide) (by decide)).trans J_26_12
        replace hsr := hsr.mv hM9 (by decide) (by decide) (by decide) (by decide) (by decide)
        replace hVJ_26_2 := hid.mk hVJ_26_2
        have hR_80 : RSt σ_s_69 a T 0 jt := RSt.mv hM9 (by decide) (by decide) (by decide) (by decide) (by decide) (by decide) (by decide) J_26_2
        have hVhR_80 := hR_80.1
        refine lv_iinc (v := I (v2q25 + 1)) (lv' := [(2, .int (I (v2q25 + 1))), (0, .ref a)]) hx hb dX11_readStep_94 hl (k := 1) rfl (I_add _ _) (by decide) rfl (fun ls hl => ?_)
        refine lv_goto (tgt := 81) hx hb dX11_readStep_97 (by decide) ?_
        exact ihJ_26 (v2q25 + 1) σ_s_69 _ _ _ (by first | (dsimp only; omega) | omega) ⟨hO, hF, hM, hsr, hH, hS, lv_sub hl [1, 0] rfl, ⟨by first | (dsimp only; omega) | omega, by first | (dsimp only; omega) | omega⟩, by first | (dsimp only; omega) | omega, by first | (dsimp only; omega) | omega, hR_80, e_70, e_71, e_72, e_73, e_74, e_75, e_76, e_77, e_78, e_79⟩
    · replace c_9 := (I_eq (a := a260) (b := 8) ra260 (show rng 8 from ⟨by decide, by decide⟩)).mp c_9
      refine lv_aload_n hx hb dX11_readStep_66 rfl (lv_at hl 1 rfl) ?_
      refine lv_iconst (v := I 2) hx hb dX11_readStep_67 (by decide) ?_
      obtain ⟨_, hc_81⟩ := hO.cell h_a (by decide) (ci := 11) rfl
      refine th_callv (va_runV (As := [.int (I 2)]) (rest := []) ⟨hx, hb, hml, hown, hts⟩ (n_wrong l G y b0 σ E hO a h_a 2 (show rng 2 from (show rng 2 from ⟨by decide, by decide⟩)) (by omega) (by omega) Bf hsr T hSt 0 jt hR0) (cwV 1 hts gX11_readStep_X11_wrong rfl rfl rfl (by decide +kernel) ⟨Nat.le_of_ble_eq_true rfl, Nat.le_of_ble_eq_true rfl⟩) (th_PV hK hH rfl hc_81) rfl rfl hl.1 rfl (lv_room (Nat.le_of_ble_eq_true rfl)) dX11_readStep_68 ⟨Nat.le_of_ble_eq_true rfl, Nat.le_of_ble_eq_true rfl⟩) hS (fun σ_s_83 H locs hw_82 hH hS => ?_)
      obtain ⟨hO9, hF9, hM9, hw_82⟩ := hw_82
      replace hM := hM.tu hM9 (by decide)
      replace hF := hF.tu hF9 (by decide)
      have e_84 : aF σ_s_83 (ad E a 1) = f1 := (hM9.a (by decide) (by decide)).trans ef1
      have e_85 : gI σ_s_83 a 11 = a110 := (hM9.i (by decide)).trans ea110
      have e_86 : gI σ_s_83 a 13 = a130 := (hM9.i (by decide)).trans ea130
      have e_87 : gI σ_s_83 a 14 = a140 := (hM9.i (by decide)).trans ea140
      have e_88 : gI σ_s_83 a 17 = a170 := (hM9.i (by decide)).trans ea170
      have e_89 : gI σ_s_83 a 26 = a260 := (hM9.i (by decide)).trans ea260
      have e_90 : gI σ_s_83 a 27 = a270 := (hM9.i (by decide)).trans ea270
      have e_91 : gI σ_s_83 a 28 = a280 := (hM9.i (by decide)).trans ea280
      have e_92 : gI σ_s_83 a 25 = 0 := (hM9.i (by decide)).trans e_3
      replace hsr := hsr.mv hM9 (by decide) (by decide) (by decide) (by decide) (by decide)
      replace hO := hO9
      replace hw_82 : (¬ gI σ_s_83 a 19 = 0 ∧ (gI σ a 19 = 0 ∨ gI σ_s_83 a 19 = gI σ a 19)) ∧ ∃ c1 j1, RSt σ_s_83 a T c1 j1 ∧ (j1 = jt ∧ ((0 : Int) = 0 → c1 = 2) ∧ ((0 : Int) ≠ 0 → c1 = 0)) := hw_82
      replace hV0 := hid.mk hV0
      have hn_93 := hw_82.2
      replace hw_82 := hw_82.1
      obtain ⟨cc_94, jj_95, hR_96, hn_93⟩ := hn_93
      have hVhR_96 := hR_96.1
      have hj9 := hn_93.1.symm
      subst hj9
      have h0_97 : ¬ cc_94 = 0 := by omega
      try simp only [h0_97, ne_eq, not_true_eq_false, not_false_eq_true, false_implies, true_implies, true_and, and_true, eq_self, false_or, or_false, false_and, and_false] at hVhR_96
      try simp only [h0_97, ne_eq, not_true_eq_false, not_false_eq_true, false_implies, true_implies, true_and, and_true, eq_self, false_or, or_false, false_and, and_false] at hn_93
      have hG_98 := hy7.much (c2 := cc_94) (j2 := jt) (t2 := 0) (x := 0) (by omega) (by omega) (by omega) rfl
      refine lv_aload_n hx hb dX11_readStep_71 rfl (lv_at hl 1 rfl) ?_
      refine ok.getI hO h_a (by decide) k13_19 (fun _ _ he hv kk => th_get (ci := 11) (C := RX11) (T := TX11) (N := 66) hx hb hts inX11 hown hK hH he rfl 19 (by decide) fl1 hv dX11_readStep_72 kk) (fun z_99 e_100 rz_99 lz_99 uz_99 => ?_)
      refine lv_if_eq (tgt := 79) hx hb dX11_readStep_75 (by decide) (fun c_101 => absurd ((I_eq (a := z_99) (b := 0) rz_99 (show rng 0 from ⟨by decide, by decide⟩)).mp c_101) (by omega)) (fun _ => ?_)
      exact th_vret hx hb hr hlocks hH hS ⟨hO, hF, hM, ⟨⟨by omega, by omega, by omega⟩, cc_94, jt, hR_96, ⟨by omega, by omega, hG_98.en (fun _ => by omega) (fun _ => by omega)⟩⟩⟩ dX11_readStep_78
  · replace c_5 := mt (I_eq (a := a140) (b := 4) ra140 (show rng 4 from ⟨by decide, by decide⟩)).mpr c_5
    have hs_102 : tK T jt ≠ 258 := by omega
    refine lv_aload_n hx hb dX11_readStep_8 rfl (lv_at hl 0 rfl) ?_
    refine lv_bipush (v := I 46) hx hb dX11_readStep_9 (by decide) ?_
    obtain ⟨_, hc_103⟩ := hO.cell h_a (by decide) (ci := 11) rfl
    refine th_calli (va_runV (As := [.int (I 46)]) (rest := []) ⟨hx, hb, hml, hown, hts⟩ (n_isMarked l G y b0 σ E hO a h_a 46 (show rng 46 from (show rng 46 from ⟨by decide, by decide⟩)) (by omega) (by omega) Bf hsr T hSt 0 jt hR0 (by omega)) (cwV 1 hts gX11_readStep_X11_isMarked rfl rfl rfl (by decide +kernel) ⟨Nat.le_of_ble_eq_true rfl, Nat.le_of_ble_eq_true rfl⟩) (th_PV hK hH rfl hc_103) rfl rfl hl.1 rfl (lv_room (Nat.le_of_ble_eq_true rfl)) dX11_readStep_11 ⟨Nat.le_of_ble_eq_true rfl, Nat.le_of_ble_eq_true rfl⟩) hS (fun z_106 σ_s_105 H locs rz_106 hw_104 hH hS => ?_)
    obtain ⟨e9, bhw_104, hw_104⟩ := hw_104
    replace e9 := e9.symm
    subst e9
    replace hw_104 : (z_106 = 1 ∧ (0 : Int) = 0 ∧ tK T jt = 46) ∨ (z_106 = 0 ∧ ((0 : Int) ≠ 0 ∨ tK T jt ≠ 46)) := hw_104
    obtain ⟨hw_104, -, hs_107⟩ | ⟨hw_104, hs_107⟩ := hw_104
    · subst hw_104
      refine lv_if_ne (tgt := 35) hx hb dX11_readStep_14 (by decide) (fun _ => ?_) (fun c_108 => absurd c_108 (by decide))
      refine lv_iconst (v := I 1) hx hb dX11_readStep_35 (by decide) ?_
      refine lv_goto (tgt := 40) hx hb dX11_readStep_36 (by decide) ?_
      refine lv_istore_n (lv' := [(1, .int (I 1)), (0, .ref a)]) hx hb dX11_readStep_40 rfl hl (by decide) rfl (fun ls hl => ?_)
      refine lv_iload_n hx hb dX11_readStep_41 rfl (lv_at hl 0 rfl) ?_
      refine lv_if_ne (tgt := 50) hx hb dX11_readStep_42 (by decide) (fun _ => ?_) (fun c_109 => absurd c_109 (by decide))
      refine lv_aload_n hx hb dX11_readStep_50 rfl (lv_at hl 1 rfl) ?_
      refine ok.getIc hO h_a (by decide) k13_19 e_2 (fun _ _ he hv kk => th_get (ci := 11) (C := RX11) (T := TX11) (N := 66) hx hb hts inX11 hown hK hH he rfl 19 (by decide) fl1 hv dX11_readStep_51 kk) ?_
      refine lv_if_ne (tgt := 71) hx hb dX11_readStep_54 (by decide) (fun c_110 => absurd (by decide) c_110) (fun _ => ?_)
      refine lv_aload_n hx hb dX11_readStep_57 rfl (lv_at hl 1 rfl) ?_
      refine ok.getIc hO h_a (by decide) k13_26 ea260 (fun _ _ he hv kk => th_get (ci := 11) (C := RX11) (T := TX11) (N := 66) hx hb hts inX11 hown hK hH he rfl 26 (by decide) fl2 hv dX11_readStep_58 kk) ?_
      refine lv_bipush (v := I 8) hx hb dX11_readStep_61 (by decide) ?_
      refine lv_icmp_ne (tgt := 71) hx hb dX11_readStep_63 (by decide) (fun c_111 => ?_) (fun c_111 => ?_)
      · replace c_111 := mt (I_eq (a := a260) (b := 8) ra260 (show rng 8 from ⟨by decide, by decide⟩)).mpr c_111
        refine lv_aload_n hx hb dX11_readStep_71 rfl (lv_at hl 1 rfl) ?_
        refine ok.getIc hO h_a (by decide) k13_19 e_2 (fun _ _ he hv kk => th_get (ci := 11) (C := RX11) (T := TX11) (N := 66) hx hb hts inX11 hown hK hH he rfl 19 (by decide) fl1 hv dX11_readStep_72 kk) ?_
        refine lv_if_eq (tgt := 79) hx hb dX11_readStep_75 (by decide) (fun _ => ?_) (fun c_112 => absurd (by decide) c_112)
        refine lv_iconst (v := I 0) hx hb dX11_readStep_79 (by decide) ?_
        refine lv_istore_n (lv' := [(2, .int (I 0)), (1, .int (I 1)), (0, .ref a)]) hx hb dX11_readStep_80 rfl hl (by decide) rfl (fun ls hl => ?_)
        replace hl : lv_has ls 3 [(2, .int (I 0)), (0, .ref a)] := lv_sub hl [0, 2] rfl
        refine th_loop (α := Int) (pc := 81) (fun x9 => (60 - x9).toNat) (fun x9 σ9 H9 l9 ls9 => ok y E σ9 ∧ fr [13] E σ σ9 ∧ fm [13, 14, 15, 16, 17, 18, 19, 20, 27, 28, 24, 26, 30] E σ σ9 a ∧ sr E σ9 a Bf ∧ th_H G b0 σ9 H9 ∧ va_S (th_A b0) s.heap H9 l9 ∧ lv_has ls9 3 [(0, .ref a), (2, .int (I x9))] ∧ rng x9 ∧ (0 ≤ x9) ∧ (x9 ≤ 60) ∧ (RSt σ9 a T 0 jt) ∧ (gI σ9 a 11 = a110) ∧ (gI σ9 a 13 = a130) ∧ (gI σ9 a 14 = a140) ∧ (gI σ9 a 17 = a170) ∧ (gI σ9 a 19 = 0) ∧ (gI σ9 a 26 = a260) ∧ (gI σ9 a 27 = a270) ∧ (gI σ9 a 28 = a280) ∧ (gI σ9 a 25 = 0) ∧ (aF σ9 (ad E a 1) = f1)) ?_ (0) σ _ _ _ ⟨hO, hF, hM, hsr, hH, hS, lv_sub hl [1, 0] rfl, (show rng 0 from ⟨by decide, by decide⟩), by first | (dsimp only; omega) | omega, by first | (dsimp only; omega) | omega, hR0, ea110, ea130, ea140, ea170, e_2, ea260, ea270, ea280, e_3, ef1⟩
        intro x9 σ_J_114 H locs ls hI9 ihJ_114
        obtain ⟨v2q113, ex9⟩ : ∃ z, z = x9 := ⟨_, rfl⟩
        subst ex9
        obtain ⟨hO, hF, hM, hsr, hH, hS, hl, rv2q113, J_114_0, J_114_1, J_114_2, J_114_3, J_114_4, J_114_5, J_114_6, J_114_7, J_114_8, J_114_9, J_114_10, J_114_11, J_114_12⟩ := hI9
        have hl : lv_has ls 3 [(0, .ref a), (2, .int (I v2q113))] := hl
        have rv2q113 : rng v2q113 := rv2q113
        replace J_114_0 : 0 ≤ v2q113 := J_114_0
        replace J_114_1 : v2q113 ≤ 60 := J_114_1
        replace J_114_2 : RSt σ_J_114 a T 0 jt := J_114_2
        replace J_114_3 : gI σ_J_114 a 11 = a110 := J_114_3
        replace J_114_4 : gI σ_J_114 a 13 = a130 := J_114_4
        replace J_114_5 : gI σ_J_114 a 14 = a140 := J_114_5
        replace J_114_6 : gI σ_J_114 a 17 = a170 := J_114_6
        replace J_114_7 : gI σ_J_114 a 19 = 0 := J_114_7
        replace J_114_8 : gI σ_J_114 a 26 = a260 := J_114_8
        replace J_114_9 : gI σ_J_114 a 27 = a270 := J_114_9
        replace J_114_10 : gI σ_J_114 a 28 = a280 := J_114_10
        replace J_114_11 : gI σ_J_114 a 25 = 0 := J_114_11
        replace J_114_12 : aF σ_J_114 (ad E a 1) = f1 := J_114_12
        replace hV0 := hid.mk hV0
        have hVJ_114_2 := J_114_2.1
        try simp only [ne_eq, not_true_eq_false, not_false_eq_true, false_implies, true_implies, true_and, and_true, eq_self, false_or, or_false, false_and, and_false] at hVJ_114_2
        have e_115 : gI σ_J_114 a 19 = 0 := by omega
        refine lv_iload_n hx hb dX11_readStep_81 rfl (lv_at hl 1 rfl) ?_
        refine lv_bipush (v := I 60) hx hb dX11_readStep_82 (by decide) ?_
        refine lv_icmp_ge (tgt := 100) hx hb dX11_readStep_84 (by decide) (fun c_116 => ?_) (fun c_116 => ?_)
        · replace c_116 := (I_le (a := 60) (b := v2q113) (show rng 60 from ⟨by decide, by decide⟩) rv2q113).mp c_116
          refine lv_aload_n hx hb dX11_readStep_100 rfl (lv_at hl 0 rfl) ?_
          refine ok.getIc hO h_a (by decide) k13_14 J_114_5 (fun _ _ he hv kk => th_get (ci := 11) (C := RX11) (T := TX11) (N := 66) hx hb hts inX11 hown hK hH he rfl 14 (by decide) fl0 hv dX11_readStep_101 kk) ?_
          have ht_117 := J_114_2.t4
          refine lv_iconst (v := I 4) hx hb dX11_readStep_104 (by decide) ?_
          refine lv_icmp_ne (tgt := 119) hx hb dX11_readStep_105 (by decide) (fun c_118 => ?_) (fun c_118 => ?_)
          · replace c_118 := mt (I_eq (a := a140) (b := 4) ra140 (show rng 4 from ⟨by decide, by decide⟩)).mpr c_118
            refine lv_aload_n hx hb dX11_readStep_119 rfl (lv_at hl 0 rfl) ?_
            refine lv_bipush (v := I 46) hx hb dX11_readStep_120 (by decide) ?_
            obtain ⟨_, hc_119⟩ := hO.cell h_a (by decide) (ci := 11) rfl
            refine th_calli (va_runV (As := [.int (I 46)]) (rest := []) ⟨hx, hb, hml, hown, hts⟩ (n_isMarked l G y b0 σ_J_114 E hO a h_a 46 (show rng 46 from (show rng 46 from ⟨by decide, by decide⟩)) (by omega) (by omega) Bf hsr T hSt 0 jt J_114_2 (by omega)) (cwV 1 hts gX11_readStep_X11_isMarked rfl rfl rfl (by decide +kernel) ⟨Nat.le_of_ble_eq_true rfl, Nat.le_of_ble_eq_true rfl⟩) (th_PV hK hH rfl hc_119) rfl rfl hl.1 rfl (lv_room (Nat.le_of_ble_eq_true rfl)) dX11_readStep_122 ⟨Nat.le_of_ble_eq_true rfl, Nat.le_of_ble_eq_true rfl⟩) hS (fun z_122 σ_s_121 H locs rz_122 hw_120 hH hS => ?_)
            obtain ⟨e9, bhw_120, hw_120⟩ := hw_120
            replace e9 := e9.symm
            subst e9
            replace hw_120 : (z_122 = 1 ∧ (0 : Int) = 0 ∧ tK T jt = 46) ∨ (z_122 = 0 ∧ ((0 : Int) ≠ 0 ∨ tK T jt ≠ 46)) := hw_120
            replace hw_120 : z_122 = 1 := by omega
            subst hw_120
            refine lv_if_eq (tgt := 139) hx hb dX11_readStep_125 (by decide) (fun c_123 => absurd c_123 (by decide)) (fun _ => ?_)
            refine lv_aload_n hx hb dX11_readStep_128 rfl (lv_at hl 0 rfl) ?_
            obtain ⟨_, hc_124⟩ := hO.cell h_a (by decide) (ci := 11) rfl
            refine th_callv (va_runV (As := []) (rest := []) ⟨hx, hb, hml, hown, hts⟩ (n_pass l G y b0 σ_J_114 E hO a h_a Bf hsr T hSt 0 jt J_114_2 (by omega) (by omega)) (cwV 0 hts gX11_readStep_X11_pass rfl rfl rfl (by decide +kernel) ⟨Nat.le_of_ble_eq_true rfl, Nat.le_of_ble_eq_true rfl⟩) (th_PV hK hH rfl hc_124) rfl rfl hl.1 rfl (lv_room (Nat.le_of_ble_eq_true rfl)) dX11_readStep_129 ⟨Nat.le_of_ble_eq_true rfl, Nat.le_of_ble_eq_true rfl⟩) hS (fun σ_s_126 H locs hw_125 hH hS => ?_)
            obtain ⟨hO9, hF9, hM9, hw_125⟩ := hw_125
            replace hM := hM.tu hM9 (by decide)
            replace hF := hF.tu hF9 (by decide)
            have e_127 : gI σ_s_126 a 11 = a110 := (hM9.i (by decide)).trans J_114_3
            have e_128 : gI σ_s_126 a 19 = 0 := (hM9.i (by decide)).trans e_115
            have e_129 : gI σ_s_126 a 26 = a260 := (hM9.i (by decide)).trans J_114_8
            have e_130 : gI σ_s_126 a 27 = a270 := (hM9.i (by decide)).trans J_114_9
            have e_131 : gI σ_s_126 a 28 = a280 := (hM9.i (by decide)).trans J_114_10
            have e_132 : gI σ_s_126 a 25 = 0 := (hM9.i (by decide)).trans J_114_11
            have e_133 : aF σ_s_126 (ad E a 1) = f1 := (hM9.a (by decide) (by decide)).trans J_114_12
            replace hsr := hsr.mv hM9 (by decide) (by decide) (by decide) (by decide) (by decide)
            replace hO := hO9
            replace hw_125 : ((gI σ_J_114 a 13 ≤ gI σ_s_126 a 13 ∧ gI σ_s_126 a 13 ≤ gI σ_J_114 a 11 ∧ 0 ≤ gI σ_s_126 a 17 ∧ gI σ_s_126 a 17 ≤ gI σ_s_126 a 13) ∧ pgo (gI σ_s_126 a 19) (gI σ_s_126 a 14) (gI σ_J_114 a 13) (gI σ_s_126 a 13) ∧ gI σ_s_126 a 19 = gI σ_J_114 a 19) ∧ ∃ c1 j1, RSt σ_s_126 a T c1 j1 ∧ (c1 = 0 ∧ ((0 : Int) ≠ 0 → j1 = jt) ∧ ((0 : Int) = 0 → j1 = jt + 1)) := hw_125
            replace hVJ_114_2 := hid.mk hVJ_114_2
            have hn_134 := hw_125.2
            replace hw_125 := hw_125.1
            obtain ⟨cc_135, jj_136, hR_137, hn_134⟩ := hn_134
            have hVhR_137 := hR_137.1
            have h0_138 : cc_135 = 0 := by omega
            subst h0_138
            try simp only [ne_eq, not_true_eq_false, not_false_eq_true, false_implies, true_implies, true_and, and_true, eq_self, false_or, or_false, false_and, and_false] at hVhR_137
            have e_139 : gI σ_s_126 a 19 = 0 := by omega
            have hj_140 : jt + 1 = jj_136 := by omega
            subst hj_140
            refine lv_aload_n hx hb dX11_readStep_132 rfl (lv_at hl 0 rfl) ?_
            obtain ⟨_, hc_141⟩ := hO.cell h_a (by decide) (ci := 11) rfl
            refine th_callv (va_runV (As := []) (rest := []) ⟨hx, hb, hml, hown, hts⟩ (n_keyOrAll l G y b0 σ_s_126 E hO a h_a f1 e_133 Bf hsr T hSt 0 (jt + 1) hR_137 (by omega) (by omega) (by omega) (by omega)) (cwV 0 hts gX11_readStep_X11_keyOrAll rfl rfl rfl (by decide +kernel) ⟨Nat.le_of_ble_eq_true rfl, Nat.le_of_ble_eq_true rfl⟩) (th_PV hK hH rfl hc_141) rfl rfl hl.1 rfl (lv_room (Nat.le_of_ble_eq_true rfl)) dX11_readStep_133 ⟨Nat.le_of_ble_eq_true rfl, Nat.le_of_ble_eq_true rfl⟩) hS (fun σ_s_143 H locs hw_142 hH hS => ?_)
            obtain ⟨hO9, hF9, hM9, hw_142⟩ := hw_142
            replace hM := hM.tu hM9 (by decide)
            replace hF := hF.tu hF9 (by decide)
            have e_144 : gI σ_s_143 a 11 = a110 := (hM9.i (by decide)).trans e_127
            have e_145 : gI σ_s_143 a 26 = a260 := (hM9.i (by decide)).trans e_129
            have e_146 : gI σ_s_143 a 27 = a270 := (hM9.i (by decide)).trans e_130
            have e_147 : gI σ_s_143 a 28 = a280 := (hM9.i (by decide)).trans e_131
            have e_148 : gI σ_s_143 a 25 = 0 := (hM9.i (by decide)).trans e_132
            have e_149 : aF σ_s_143 (ad E a 1) = f1 := (hM9.a (by decide) (by decide)).trans e_133
            replace hsr := hsr.mv hM9 (by decide) (by decide) (by decide) (by decide) (by decide)
            replace hO := hO9
            replace hw_142 : ((gI σ_s_126 a 13 ≤ gI σ_s_143 a 13 ∧ gI σ_s_143 a 13 ≤ gI σ_s_126 a 11 ∧ 0 ≤ gI σ_s_143 a 17 ∧ gI σ_s_143 a 17 ≤ gI σ_s_143 a 13)) ∧ ∃ c1 j1, RSt σ_s_143 a T c1 j1 ∧ ((0 : Int) ≠ 0 → c1 = 0 ∧ j1 = (jt + 1)) ∧ ((0 : Int) = 0 → (jt + 1) ≤ j1 ∧ GS T [(13, 0)] (jt + 1) (gI σ_s_126 a 27) [] c1 j1 (gI σ_s_143 a 27)) ∧ (c1 = 0 → 0 ≤ gI σ_s_143 a 27 ∧ gI σ_s_143 a 27 ≤ 12) := hw_142
            have hb_150 := hw_125.1
            replace hw_125 := hid.mk hw_125
            replace hn_134 := hid.mk hn_134
            replace hVhR_137 := hid.mk hVhR_137
            have hn_151 := hw_142.2
            replace hw_142 := hw_142.1
            obtain ⟨cc_152, jj_153, hR_154, hn_151⟩ := hn_151
            have hVhR_154 := hR_154.1
            refine lv_goto (tgt := 179) hx hb dX11_readStep_136 (by decide) ?_
            have hle9 := (hn_151.2.1 rfl).1
            have h279 := hn_151.2.2
            have hG_155 := hy7.byName (c2 := cc_152) (j2 := jj_153) (t2 := gI σ_s_143 a 27) hs_107 (by omega) (GS.cg1 (hn_151.2.1 rfl).2 rfl rfl (by omega))
            refine lv_aload_n hx hb dX11_readStep_179 rfl (lv_at hl 0 rfl) ?_
            refine lv_dup hx hb dX11_readStep_180 rfl ?_
            refine ok.getIc hO h_a (by decide) k13_26 e_145 (fun _ _ he hv kk => th_get (ci := 11) (C := RX11) (T := TX11) (N := 66) hx hb hts inX11 hown hK hH he rfl 26 (by decide) fl2 hv dX11_readStep_181 kk) ?_
            refine lv_iconst (v := I 1) hx hb dX11_readStep_184 (by decide) ?_
            refine lv_iadd hx hb dX11_readStep_185 ?_
            refine nq_top (I_add _ _) ?_
            obtain ⟨z_156, e_157, rz_156, lz_156, uz_156⟩ := hO.gi h_a (by decide) k13_13
            obtain ⟨z_158, e_159, rz_158, lz_158, uz_158⟩ := hO.gi h_a (by decide) k13_17
            refine ok.putJ hO h_a k13_26 ⟨by omega, by omega⟩ (by omega) (by omega) (fun _ he hl9 kk => th_put (ci := 11) (v := .int (I (a260 + 1))) (ty := .int) (C := RX11) (T := TX11) (N := 66) hx hb hts inX11 tyX11 tyX11_ok nmX11 hown hK hH hS h00 he rfl 26 (by decide) fl2 rfl (by decide +kernel) rfl rfl hl9 dX11_readStep_186 kk) (fun σ_s_160 H locs hO hF9 hM9 hg9 ha9 hH hS => ?_)
            replace hM := hM.tu hM9 (by decide)
            replace hF := hF.tu hF9 (by decide)
            have e_161 : gI σ_s_160 a 11 = a110 := (hM9.i (by decide)).trans e_144
            have e_162 : gI σ_s_160 a 27 = a270 := (hM9.i (by decide)).trans e_146
            have e_163 : gI σ_s_160 a 28 = a280 := (hM9.i (by decide)).trans e_147
            have e_164 : gI σ_s_160 a 25 = 0 := (hM9.i (by decide)).trans e_148
            have e_165 : aF σ_s_160 (ad E a 1) = f1 := (hM9.a (by decide) (by decide)).trans e_149
            have e_166 : gI σ_s_160 a 13 = z_156 := (hM9.i (by decide)).trans e_157
            have e_167 : gI σ_s_160 a 17 = z_158 := (hM9.i (by decide)).trans e_159
            replace hsr := hsr.mv hM9 (by decide) (by decide) (by decide) (by decide) (by decide)
            replace hVhR_154 := hid.mk hVhR_154
            have hR_168 : RSt σ_s_160 a T cc_152 jj_153 := RSt.mv hM9 (by decide) (by decide) (by decide) (by decide) (by decide) (by decide) (by decide) hR_154
            have hVhR_168 := hR_168.1
            have e_169 := hg9
            refine lv_aload_n hx hb dX11_readStep_189 rfl (lv_at hl 0 rfl) ?_
            refine ok.getIc hO h_a (by decide) k13_25 e_164 (fun _ _ he hv kk => th_get (ci := 11) (C := RX11) (T := TX11) (N := 66) hx hb hts inX11 hown hK hH he rfl 25 (by decide) fl3 hv dX11_readStep_190 kk) ?_
            refine lv_if_eq (tgt := 207) hx hb dX11_readStep_193 (by decide) (fun _ => ?_) (fun c_170 => absurd (by decide) c_170)
            exact th_vret hx hb hr hlocks hH hS ⟨hO, hF, hM, ⟨⟨by omega, by omega, by omega⟩, cc_152, jj_153, hR_168, ⟨by omega, by omega, hG_155.en (fun _ => by omega) (fun _ => by omega)⟩⟩⟩ dX11_readStep_207
          · replace c_118 := (I_eq (a := a140) (b := 4) ra140 (show rng 4 from ⟨by decide, by decide⟩)).mp c_118
            exfalso; omega
        · replace c_116 := mt (I_le (a := 60) (b := v2q113) (show rng 60 from ⟨by decide, by decide⟩) rv2q113).mpr c_116
          refine lv_aload_n hx hb dX11_readStep_87 rfl (lv_at hl 0 rfl) ?_
          refine ok.getR hO h_a (by decide) k13_24 (by decide) (fun _ _ he hv kk => th_get (ci := 11) (C := RX11) (T := TX11) (N := 66) hx hb hts inX11 hown hK hH he rfl 24 (by decide) fl4 hv dX11_readStep_88 kk) ?_
          refine lv_iload_n hx hb dX11_readStep_91 rfl (lv_at hl 1 rfl) ?_
          refine lv_iconst (v := I 0) hx hb dX11_readStep_92 (by decide) ?_
          refine m_zast hx hb hK hH hS h00 hO h_a k13_24 (by decide) rv2q113 (by omega) (by omega) (by omega) dX11_readStep_93 (fun σ_s_171 H locs hO hF9 hM9 hH hS => ?_)
          replace hM := hM.tu hM9 (by decide)
          replace hF := hF.tu hF9 (by decide)
          have e_172 : gI σ_s_171 a 11 = a110 := (hM9.i (by decide)).trans J_114_3
          have e_173 : gI σ_s_171 a 13 = a130 := (hM9.i (by decide)).trans J_114_4
          have e_174 : gI σ_s_171 a 14 = a140 := (hM9.i (by decide)).trans J_114_5
          have e_175 : gI σ_s_171 a 17 = a170 := (hM9.i (by decide)).trans J_114_6
          have e_176 : gI σ_s_171 a 19 = 0 := (hM9.i (by decide)).trans e_115
          have e_177 : gI σ_s_171 a 26 = a260 := (hM9.i (by decide)).trans J_114_8
          have e_178 : gI σ_s_171 a 27 = a270 := (hM9.i (by decide)).trans J_114_9
          have e_179 : gI σ_s_171 a 28 = a280 := (hM9.i (by decide)).trans J_114_10
          have e_180 : gI σ_s_171 a 25 = 0 := (hM9.i (by decide)).trans J_114_11
          have e_181 : aF σ_s_171 (ad E a 1) = f1 := (hM9.a (by decide) (by decide)).trans J_114_12
          replace hsr := hsr.mv hM9 (by decide) (by decide) (by decide) (by decide) (by decide)
          replace hVJ_114_2 := hid.mk hVJ_114_2
          have hR_182 : RSt σ_s_171 a T 0 jt := RSt.mv hM9 (by decide) (by decide) (by decide) (by decide) (by decide) (by decide) (by decide) J_114_2
          have hVhR_182 := hR_182.1
          refine lv_iinc (v := I (v2q113 + 1)) (lv' := [(2, .int (I (v2q113 + 1))), (0, .ref a)]) hx hb dX11_readStep_94 hl (k := 1) rfl (I_add _ _) (by decide) rfl (fun ls hl => ?_)
          refine lv_goto (tgt := 81) hx hb dX11_readStep_97 (by decide) ?_
          exact ihJ_114 (v2q113 + 1) σ_s_171 _ _ _ (by first | (dsimp only; omega) | omega) ⟨hO, hF, hM, hsr, hH, hS, lv_sub hl [1, 0] rfl, ⟨by first | (dsimp only; omega) | omega, by first | (dsimp only; omega) | omega⟩, by first | (dsimp only; omega) | omega, by first | (dsimp only; omega) | omega, hR_182, e_172, e_173, e_174, e_175, e_176, e_177, e_178, e_179, e_180, e_181⟩
      · replace c_111 := (I_eq (a := a260) (b := 8) ra260 (show rng 8 from ⟨by decide, by decide⟩)).mp c_111
        refine lv_aload_n hx hb dX11_readStep_66 rfl (lv_at hl 1 rfl) ?_
        refine lv_iconst (v := I 2) hx hb dX11_readStep_67 (by decide) ?_
        obtain ⟨_, hc_183⟩ := hO.cell h_a (by decide) (ci := 11) rfl
        refine th_callv (va_runV (As := [.int (I 2)]) (rest := []) ⟨hx, hb, hml, hown, hts⟩ (n_wrong l G y b0 σ E hO a h_a 2 (show rng 2 from (show rng 2 from ⟨by decide, by decide⟩)) (by omega) (by omega) Bf hsr T hSt 0 jt hR0) (cwV 1 hts gX11_readStep_X11_wrong rfl rfl rfl (by decide +kernel) ⟨Nat.le_of_ble_eq_true rfl, Nat.le_of_ble_eq_true rfl⟩) (th_PV hK hH rfl hc_183) rfl rfl hl.1 rfl (lv_room (Nat.le_of_ble_eq_true rfl)) dX11_readStep_68 ⟨Nat.le_of_ble_eq_true rfl, Nat.le_of_ble_eq_true rfl⟩) hS (fun σ_s_185 H locs hw_184 hH hS => ?_)
        obtain ⟨hO9, hF9, hM9, hw_184⟩ := hw_184
        replace hM := hM.tu hM9 (by decide)
        replace hF := hF.tu hF9 (by decide)
        have e_186 : aF σ_s_185 (ad E a 1) = f1 := (hM9.a (by decide) (by decide)).trans ef1
        have e_187 : gI σ_s_185 a 11 = a110 := (hM9.i (by decide)).trans ea110
        have e_188 : gI σ_s_185 a 13 = a130 := (hM9.i (by decide)).trans ea130
        have e_189 : gI σ_s_185 a 14 = a140 := (hM9.i (by decide)).trans ea140
        have e_190 : gI σ_s_185 a 17 = a170 := (hM9.i (by decide)).trans ea170
        have e_191 : gI σ_s_185 a 26 = a260 := (hM9.i (by decide)).trans ea260
        have e_192 : gI σ_s_185 a 27 = a270 := (hM9.i (by decide)).trans ea270
        have e_193 : gI σ_s_185 a 28 = a280 := (hM9.i (by decide)).trans ea280
        have e_194 : gI σ_s_185 a 25 = 0 := (hM9.i (by decide)).trans e_3
        replace hsr := hsr.mv hM9 (by decide) (by decide) (by decide) (by decide) (by decide)
        replace hO := hO9
        replace hw_184 : (¬ gI σ_s_185 a 19 = 0 ∧ (gI σ a 19 = 0 ∨ gI σ_s_185 a 19 = gI σ a 19)) ∧ ∃ c1 j1, RSt σ_s_185 a T c1 j1 ∧ (j1 = jt ∧ ((0 : Int) = 0 → c1 = 2) ∧ ((0 : Int) ≠ 0 → c1 = 0)) := hw_184
        replace hV0 := hid.mk hV0
        have hn_195 := hw_184.2
        replace hw_184 := hw_184.1
        obtain ⟨cc_196, jj_197, hR_198, hn_195⟩ := hn_195
        have hVhR_198 := hR_198.1
        have hj9 := hn_195.1.symm
        subst hj9
        have h0_199 : ¬ cc_196 = 0 := by omega
        try simp only [h0_199, ne_eq, not_true_eq_false, not_false_eq_true, false_implies, true_implies, true_and, and_true, eq_self, false_or, or_false, false_and, and_false] at hVhR_198
        try simp only [h0_199, ne_eq, not_true_eq_false, not_false_eq_true, false_implies, true_implies, true_and, and_true, eq_self, false_or, or_false, false_and, and_false] at hn_195
        have hG_200 := hy7.much (c2 := cc_196) (j2 := jt) (t2 := 0) (x := 0) (by omega) (by omega) (by omega) rfl
        refine lv_aload_n hx hb dX11_readStep_71 rfl (lv_at hl 1 rfl) ?_
        refine ok.getI hO h_a (by decide) k13_19 (fun _ _ he hv kk => th_get (ci := 11) (C := RX11) (T := TX11) (N := 66) hx hb hts inX11 hown hK hH he rfl 19 (by decide) fl1 hv dX11_readStep_72 kk) (fun z_201 e_202 rz_201 lz_201 uz_201 => ?_)
        refine lv_if_eq (tgt := 79) hx hb dX11_readStep_75 (by decide) (fun c_203 => absurd ((I_eq (a := z_201) (b := 0) rz_201 (show rng 0 from ⟨by decide, by decide⟩)).mp c_203) (by omega)) (fun _ => ?_)
        exact th_vret hx hb hr hlocks hH hS ⟨hO, hF, hM, ⟨⟨by omega, by omega, by omega⟩, cc_196, jt, hR_198, ⟨by omega, by omega, hG_200.en (fun _ => by omega) (fun _ => by omega)⟩⟩⟩ dX11_readStep_78
    · replace hs_107 := hs_107.resolve_left (fun h9 => h9 rfl)
      subst hw_104
      refine lv_if_ne (tgt := 35) hx hb dX11_readStep_14 (by decide) (fun c_204 => absurd (by decide) c_204) (fun _ => ?_)
      refine lv_aload_n hx hb dX11_readStep_17 rfl (lv_at hl 0 rfl) ?_
      refine lv_bipush (v := I 91) hx hb dX11_readStep_18 (by decide) ?_
      obtain ⟨_, hc_205⟩ := hO.cell h_a (by decide) (ci := 11) rfl
      refine th_calli (va_runV (As := [.int (I 91)]) (rest := []) ⟨hx, hb, hml, hown, hts⟩ (n_isMarked l G y b0 σ E hO a h_a 91 (show rng 91 from (show rng 91 from ⟨by decide, by decide⟩)) (by omega) (by omega) Bf hsr T hSt 0 jt hR0 (by omega)) (cwV 1 hts gX11_readStep_X11_isMarked rfl rfl rfl (by decide +kernel) ⟨Nat.le_of_ble_eq_true rfl, Nat.le_of_ble_eq_true rfl⟩) (th_PV hK hH rfl hc_205) rfl rfl hl.1 rfl (lv_room (Nat.le_of_ble_eq_true rfl)) dX11_readStep_20 ⟨Nat.le_of_ble_eq_true rfl, Nat.le_of_ble_eq_true rfl⟩) hS (fun z_208 σ_s_207 H locs rz_208 hw_206 hH hS => ?_)
      obtain ⟨e9, bhw_206, hw_206⟩ := hw_206
      replace e9 := e9.symm
      subst e9
      replace hw_206 : (z_208 = 1 ∧ (0 : Int) = 0 ∧ tK T jt = 91) ∨ (z_208 = 0 ∧ ((0 : Int) ≠ 0 ∨ tK T jt ≠ 91)) := hw_206
      obtain ⟨hw_206, -, hs_209⟩ | ⟨hw_206, hs_209⟩ := hw_206
      · subst hw_206
        refine lv_if_ne (tgt := 35) hx hb dX11_readStep_23 (by decide) (fun _ => ?_) (fun c_210 => absurd c_210 (by decide))
        refine lv_iconst (v := I 1) hx hb dX11_readStep_35 (by decide) ?_
        refine lv_goto (tgt := 40) hx hb dX11_readStep_36 (by decide) ?_
        refine lv_istore_n (lv' := [(1, .int (I 1)), (0, .ref a)]) hx hb dX11_readStep_40 rfl hl (by decide) rfl (fun ls hl => ?_)
        refine lv_iload_n hx hb dX11_readStep_41 rfl (lv_at hl 0 rfl) ?_
        refine lv_if_ne (tgt := 50) hx hb dX11_readStep_42 (by decide) (fun _ => ?_) (fun c_211 => absurd c_211 (by decide))
        refine lv_aload_n hx hb dX11_readStep_50 rfl (lv_at hl 1 rfl) ?_
        refine ok.getIc hO h_a (by decide) k13_19 e_2 (fun _ _ he hv kk => th_get (ci := 11) (C := RX11) (T := TX11) (N := 66) hx hb hts inX11 hown hK hH he rfl 19 (by decide) fl1 hv dX11_readStep_51 kk) ?_
        refine lv_if_ne (tgt := 71) hx hb dX11_readStep_54 (by decide) (fun c_212 => absurd (by decide) c_212) (fun _ => ?_)
        refine lv_aload_n hx hb dX11_readStep_57 rfl (lv_at hl 1 rfl) ?_
        refine ok.getIc hO h_a (by decide) k13_26 ea260 (fun _ _ he hv kk => th_get (ci := 11) (C := RX11) (T := TX11) (N := 66) hx hb hts inX11 hown hK hH he rfl 26 (by decide) fl2 hv dX11_readStep_58 kk) ?_
        refine lv_bipush (v := I 8) hx hb dX11_readStep_61 (by decide) ?_
        refine lv_icmp_ne (tgt := 71) hx hb dX11_readStep_63 (by decide) (fun c_213 => ?_) (fun c_213 => ?_)
        · replace c_213 := mt (I_eq (a := a260) (b := 8) ra260 (show rng 8 from ⟨by decide, by decide⟩)).mpr c_213
          refine lv_aload_n hx hb dX11_readStep_71 rfl (lv_at hl 1 rfl) ?_
          refine ok.getIc hO h_a (by decide) k13_19 e_2 (fun _ _ he hv kk => th_get (ci := 11) (C := RX11) (T := TX11) (N := 66) hx hb hts inX11 hown hK hH he rfl 19 (by decide) fl1 hv dX11_readStep_72 kk) ?_
          refine lv_if_eq (tgt := 79) hx hb dX11_readStep_75 (by decide) (fun _ => ?_) (fun c_214 => absurd (by decide) c_214)
          refine lv_iconst (v := I 0) hx hb dX11_readStep_79 (by decide) ?_
          refine lv_istore_n (lv' := [(2, .int (I 0)), (1, .int (I 1)), (0, .ref a)]) hx hb dX11_readStep_80 rfl hl (by decide) rfl (fun ls hl => ?_)
          replace hl : lv_has ls 3 [(2, .int (I 0)), (0, .ref a)] := lv_sub hl [0, 2] rfl
          refine th_loop (α := Int) (pc := 81) (fun x9 => (60 - x9).toNat) (fun x9 σ9 H9 l9 ls9 => ok y E σ9 ∧ fr [13] E σ σ9 ∧ fm [13, 14, 15, 16, 17, 18, 19, 20, 27, 28, 24, 26, 30] E σ σ9 a ∧ sr E σ9 a Bf ∧ th_H G b0 σ9 H9 ∧ va_S (th_A b0) s.heap H9 l9 ∧ lv_has ls9 3 [(0, .ref a), (2, .int (I x9))] ∧ rng x9 ∧ (0 ≤ x9) ∧ (x9 ≤ 60) ∧ (RSt σ9 a T 0 jt) ∧ (gI σ9 a 11 = a110) ∧ (gI σ9 a 13 = a130) ∧ (gI σ9 a 14 = a140) ∧ (gI σ9 a 17 = a170) ∧ (gI σ9 a 19 = 0) ∧ (gI σ9 a 26 = a260) ∧ (gI σ9 a 27 = a270) ∧ (gI σ9 a 28 = a280) ∧ (gI σ9 a 25 = 0) ∧ (aF σ9 (ad E a 1) = f1)) ?_ (0) σ _ _ _ ⟨hO, hF, hM, hsr, hH, hS, lv_sub hl [1, 0] rfl, (show rng 0 from ⟨by decide, by decide⟩), by first | (dsimp only; omega) | omega, by first | (dsimp only; omega) | omega, hR0, ea110, ea130, ea140, ea170, e_2, ea260, ea270, ea280, e_3, ef1⟩
          intro x9 σ_J_216 H locs ls hI9 ihJ_216
          obtain ⟨v2q215, ex9⟩ : ∃ z, z = x9 := ⟨_, rfl⟩
          subst ex9
          obtain ⟨hO, hF, hM, hsr, hH, hS, hl, rv2q215, J_216_0, J_216_1, J_216_2, J_216_3, J_216_4, J_216_5, J_216_6, J_216_7, J_216_8, J_216_9, J_216_10, J_216_11, J_216_12⟩ := hI9
          have hl : lv_has ls 3 [(0, .ref a), (2, .int (I v2q215))] := hl
          have rv2q215 : rng v2q215 := rv2q215
          replace J_216_0 : 0 ≤ v2q215 := J_216_0
          replace J_216_1 : v2q215 ≤ 60 := J_216_1
          replace J_216_2 : RSt σ_J_216 a T 0 jt := J_216_2
          replace J_216_3 : gI σ_J_216 a 11 = a110 := J_216_3
          replace J_216_4 : gI σ_J_216 a 13 = a130 := J_216_4
          replace J_216_5 : gI σ_J_216 a 14 = a140 := J_216_5
          replace J_216_6 : gI σ_J_216 a 17 = a170 := J_216_6
          replace J_216_7 : gI σ_J_216 a 19 = 0 := J_216_7
          replace J_216_8 : gI σ_J_216 a 26 = a260 := J_216_8
          replace J_216_9 : gI σ_J_216 a 27 = a270 := J_216_9
          replace J_216_10 : gI σ_J_216 a 28 = a280 := J_216_10
          replace J_216_11 : gI σ_J_216 a 25 = 0 := J_216_11
          replace J_216_12 : aF σ_J_216 (ad E a 1) = f1 := J_216_12
          replace hV0 := hid.mk hV0
          have hVJ_216_2 := J_216_2.1
          try simp only [ne_eq, not_true_eq_false, not_false_eq_true, false_implies, true_implies, true_and, and_true, eq_self, false_or, or_false, false_and, and_false] at hVJ_216_2
          have e_217 : gI σ_J_216 a 19 = 0 := by omega
          refine lv_iload_n hx hb dX11_readStep_81 rfl (lv_at hl 1 rfl) ?_
          refine lv_bipush (v := I 60) hx hb dX11_readStep_82 (by decide) ?_
          refine lv_icmp_ge (tgt := 100) hx hb dX11_readStep_84 (by decide) (fun c_218 => ?_) (fun c_218 => ?_)
          · replace c_218 := (I_le (a := 60) (b := v2q215) (show rng 60 from ⟨by decide, by decide⟩) rv2q215).mp c_218
            refine lv_aload_n hx hb dX11_readStep_100 rfl (lv_at hl 0 rfl) ?_
            refine ok.getIc hO h_a (by decide) k13_14 J_216_5 (fun _ _ he hv kk => th_get (ci := 11) (C := RX11) (T := TX11) (N := 66) hx hb hts inX11 hown hK hH he rfl 14 (by decide) fl0 hv dX11_readStep_101 kk) ?_
            have ht_219 := J_216_2.t4
            refine lv_iconst (v := I 4) hx hb dX11_readStep_104 (by decide) ?_
            refine lv_icmp_ne (tgt := 119) hx hb dX11_readStep_105 (by decide) (fun c_220 => ?_) (fun c_220 => ?_)
            · replace c_220 := mt (I_eq (a := a140) (b := 4) ra140 (show rng 4 from ⟨by decide, by decide⟩)).mpr c_220
              refine lv_aload_n hx hb dX11_readStep_119 rfl (lv_at hl 0 rfl) ?_
              refine lv_bipush (v := I 46) hx hb dX11_readStep_120 (by decide) ?_
              obtain ⟨_, hc_221⟩ := hO.cell h_a (by decide) (ci := 11) rfl
              refine th_calli (va_runV (As := [.int (I 46)]) (rest := []) ⟨hx, hb, hml, hown, hts⟩ (n_isMarked l G y b0 σ_J_216 E hO a h_a 46 (show rng 46 from (show rng 46 from ⟨by decide, by decide⟩)) (by omega) (by omega) Bf hsr T hSt 0 jt J_216_2 (by omega)) (cwV 1 hts gX11_readStep_X11_isMarked rfl rfl rfl (by decide +kernel) ⟨Nat.le_of_ble_eq_true rfl, Nat.le_of_ble_eq_true rfl⟩) (th_PV hK hH rfl hc_221) rfl rfl hl.1 rfl (lv_room (Nat.le_of_ble_eq_true rfl)) dX11_readStep_122 ⟨Nat.le_of_ble_eq_true rfl, Nat.le_of_ble_eq_true rfl⟩) hS (fun z_224 σ_s_223 H locs rz_224 hw_222 hH hS => ?_)
              obtain ⟨e9, bhw_222, hw_222⟩ := hw_222
              replace e9 := e9.symm
              subst e9
              replace hw_222 : (z_224 = 1 ∧ (0 : Int) = 0 ∧ tK T jt = 46) ∨ (z_224 = 0 ∧ ((0 : Int) ≠ 0 ∨ tK T jt ≠ 46)) := hw_222
              replace hw_222 : z_224 = 0 := by omega
              subst hw_222
              refine lv_if_eq (tgt := 139) hx hb dX11_readStep_125 (by decide) (fun _ => ?_) (fun c_225 => absurd (by decide) c_225)
              refine lv_aload_n hx hb dX11_readStep_139 rfl (lv_at hl 0 rfl) ?_
              refine lv_bipush (v := I 91) hx hb dX11_readStep_140 (by decide) ?_
              obtain ⟨_, hc_226⟩ := hO.cell h_a (by decide) (ci := 11) rfl
              refine th_calli (va_runV (As := [.int (I 91)]) (rest := []) ⟨hx, hb, hml, hown, hts⟩ (n_isMarked l G y b0 σ_J_216 E hO a h_a 91 (show rng 91 from (show rng 91 from ⟨by decide, by decide⟩)) (by omega) (by omega) Bf hsr T hSt 0 jt J_216_2 (by omega)) (cwV 1 hts gX11_readStep_X11_isMarked rfl rfl rfl (by decide +kernel) ⟨Nat.le_of_ble_eq_true rfl, Nat.le_of_ble_eq_true rfl⟩) (th_PV hK hH rfl hc_226) rfl rfl hl.1 rfl (lv_room (Nat.le_of_ble_eq_true rfl)) dX11_readStep_142 ⟨Nat.le_of_ble_eq_true rfl, Nat.le_of_ble_eq_true rfl⟩) hS (fun z_229 σ_s_228 H locs rz_229 hw_227 hH hS => ?_)
              obtain ⟨e9, bhw_227, hw_227⟩ := hw_227
              replace e9 := e9.symm
              subst e9
              replace hw_227 : (z_229 = 1 ∧ (0 : Int) = 0 ∧ tK T jt = 91) ∨ (z_229 = 0 ∧ ((0 : Int) ≠ 0 ∨ tK T jt ≠ 91)) := hw_227
              replace hw_227 : z_229 = 1 := by omega
              subst hw_227
              refine lv_if_eq (tgt := 159) hx hb dX11_readStep_145 (by decide) (fun c_230 => absurd c_230 (by decide)) (fun _ => ?_)
              refine lv_aload_n hx hb dX11_readStep_148 rfl (lv_at hl 0 rfl) ?_
              obtain ⟨_, hc_231⟩ := hO.cell h_a (by decide) (ci := 11) rfl
              refine th_callv (va_runV (As := []) (rest := []) ⟨hx, hb, hml, hown, hts⟩ (n_pass l G y b0 σ_J_216 E hO a h_a Bf hsr T hSt 0 jt J_216_2 (by omega) (by omega)) (cwV 0 hts gX11_readStep_X11_pass rfl rfl rfl (by decide +kernel) ⟨Nat.le_of_ble_eq_true rfl, Nat.le_of_ble_eq_true rfl⟩) (th_PV hK hH rfl hc_231) rfl rfl hl.1 rfl (lv_room (Nat.le_of_ble_eq_true rfl)) dX11_readStep_149 ⟨Nat.le_of_ble_eq_true rfl, Nat.le_of_ble_eq_true rfl⟩) hS (fun σ_s_233 H locs hw_232 hH hS => ?_)
              obtain ⟨hO9, hF9, hM9, hw_232⟩ := hw_232
              replace hM := hM.tu hM9 (by decide)
              replace hF := hF.tu hF9 (by decide)
              have e_234 : gI σ_s_233 a 11 = a110 := (hM9.i (by decide)).trans J_216_3
              have e_235 : gI σ_s_233 a 19 = 0 := (hM9.i (by decide)).trans e_217
              have e_236 : gI σ_s_233 a 26 = a260 := (hM9.i (by decide)).trans J_216_8
              have e_237 : gI σ_s_233 a 27 = a270 := (hM9.i (by decide)).trans J_216_9
              have e_238 : gI σ_s_233 a 28 = a280 := (hM9.i (by decide)).trans J_216_10
              have e_239 : gI σ_s_233 a 25 = 0 := (hM9.i (by decide)).trans J_216_11
              have e_240 : aF σ_s_233 (ad E a 1) = f1 := (hM9.a (by decide) (by decide)).trans J_216_12
              replace hsr := hsr.mv hM9 (by decide) (by decide) (by decide) (by decide) (by decide)
              replace hO := hO9
              replace hw_232 : ((gI σ_J_216 a 13 ≤ gI σ_s_233 a 13 ∧ gI σ_s_233 a 13 ≤ gI σ_J_216 a 11 ∧ 0 ≤ gI σ_s_233 a 17 ∧ gI σ_s_233 a 17 ≤ gI σ_s_233 a 13) ∧ pgo (gI σ_s_233 a 19) (gI σ_s_233 a 14) (gI σ_J_216 a 13) (gI σ_s_233 a 13) ∧ gI σ_s_233 a 19 = gI σ_J_216 a 19) ∧ ∃ c1 j1, RSt σ_s_233 a T c1 j1 ∧ (c1 = 0 ∧ ((0 : Int) ≠ 0 → j1 = jt) ∧ ((0 : Int) = 0 → j1 = jt + 1)) := hw_232
              replace hVJ_216_2 := hid.mk hVJ_216_2
              have hn_241 := hw_232.2
              replace hw_232 := hw_232.1
              obtain ⟨cc_242, jj_243, hR_244, hn_241⟩ := hn_241
              have hVhR_244 := hR_244.1
              have h0_245 : cc_242 = 0 := by omega
              subst h0_245
              try simp only [ne_eq, not_true_eq_false, not_false_eq_true, false_implies, true_implies, true_and, and_true, eq_self, false_or, or_false, false_and, and_false] at hVhR_244
              have e_246 : gI σ_s_233 a 19 = 0 := by omega
              have hj_247 : jt + 1 = jj_243 := by omega
              subst hj_247
              refine lv_aload_n hx hb dX11_readStep_152 rfl (lv_at hl 0 rfl) ?_
              obtain ⟨_, hc_248⟩ := hO.cell h_a (by decide) (ci := 11) rfl
              refine th_callv (va_runV (As := []) (rest := []) ⟨hx, hb, hml, hown, hts⟩ (n_places l G y b0 σ_s_233 E hO a h_a f1 e_240 Bf hsr T hSt 0 (jt + 1) hR_244 (by omega) (by omega) (by omega) (by omega)) (cwV 0 hts gX11_readStep_X11_places rfl rfl rfl (by decide +kernel) ⟨Nat.le_of_ble_eq_true rfl, Nat.le_of_ble_eq_true rfl⟩) (th_PV hK hH rfl hc_248) rfl rfl hl.1 rfl (lv_room (Nat.le_of_ble_eq_true rfl)) dX11_readStep_153 ⟨Nat.le_of_ble_eq_true rfl, Nat.le_of_ble_eq_true rfl⟩) hS (fun σ_s_250 H locs hw_249 hH hS => ?_)
              obtain ⟨hO9, hF9, hM9, hw_249⟩ := hw_249
              replace hM := hM.tu hM9 (by decide)
              replace hF := hF.tu hF9 (by decide)
              have e_251 : gI σ_s_250 a 11 = a110 := (hM9.i (by decide)).trans e_234
              have e_252 : gI σ_s_250 a 26 = a260 := (hM9.i (by decide)).trans e_236
              have e_253 : gI σ_s_250 a 27 = a270 := (hM9.i (by decide)).trans e_237
              have e_254 : gI σ_s_250 a 28 = a280 := (hM9.i (by decide)).trans e_238
              have e_255 : gI σ_s_250 a 25 = 0 := (hM9.i (by decide)).trans e_239
              have e_256 : aF σ_s_250 (ad E a 1) = f1 := (hM9.a (by decide) (by decide)).trans e_240
              replace hsr := hsr.mv hM9 (by decide) (by decide) (by decide) (by decide) (by decide)
              replace hO := hO9
              replace hw_249 : ((gI σ_s_233 a 13 ≤ gI σ_s_250 a 13 ∧ gI σ_s_250 a 13 ≤ gI σ_s_233 a 11 ∧ 0 ≤ gI σ_s_250 a 17 ∧ gI σ_s_250 a 17 ≤ gI σ_s_250 a 13)) ∧ ∃ c1 j1, RSt σ_s_250 a T c1 j1 ∧ ((0 : Int) ≠ 0 → c1 = 0 ∧ j1 = (jt + 1)) ∧ ((0 : Int) = 0 → (jt + 1) ≤ j1 ∧ GS T [(10, 0)] (jt + 1) (gI σ_s_233 a 27) [] c1 j1 (gI σ_s_250 a 27)) ∧ (c1 = 0 → 0 ≤ gI σ_s_250 a 27 ∧ gI σ_s_250 a 27 ≤ 12) := hw_249
              have hb_257 := hw_232.1
              replace hw_232 := hid.mk hw_232
              replace hn_241 := hid.mk hn_241
              replace hVhR_244 := hid.mk hVhR_244
              have hn_258 := hw_249.2
              replace hw_249 := hw_249.1
              obtain ⟨cc_259, jj_260, hR_261, hn_258⟩ := hn_258
              have hVhR_261 := hR_261.1
              refine lv_goto (tgt := 179) hx hb dX11_readStep_156 (by decide) ?_
              have hle9 := (hn_258.2.1 rfl).1
              have h279 := hn_258.2.2
              have hG_262 := hy7.byPlace (c2 := cc_259) (j2 := jj_260) (t2 := gI σ_s_250 a 27) hs_209 (by omega) (GS.cg1 (hn_258.2.1 rfl).2 rfl rfl (by omega))
              refine lv_aload_n hx hb dX11_readStep_179 rfl (lv_at hl 0 rfl) ?_
              refine lv_dup hx hb dX11_readStep_180 rfl ?_
              refine ok.getIc hO h_a (by decide) k13_26 e_252 (fun _ _ he hv kk => th_get (ci := 11) (C := RX11) (T := TX11) (N := 66) hx hb hts inX11 hown hK hH he rfl 26 (by decide) fl2 hv dX11_readStep_181 kk) ?_
              refine lv_iconst (v := I 1) hx hb dX11_readStep_184 (by decide) ?_
              refine lv_iadd hx hb dX11_readStep_185 ?_
              refine nq_top (I_add _ _) ?_
              obtain ⟨z_263, e_264, rz_263, lz_263, uz_263⟩ := hO.gi h_a (by decide) k13_13
              obtain ⟨z_265, e_266, rz_265, lz_265, uz_265⟩ := hO.gi h_a (by decide) k13_17
              refine ok.putJ hO h_a k13_26 ⟨by omega, by omega⟩ (by omega) (by omega) (fun _ he hl9 kk => th_put (ci := 11) (v := .int (I (a260 + 1))) (ty := .int) (C := RX11) (T := TX11) (N := 66) hx hb hts inX11 tyX11 tyX11_ok nmX11 hown hK hH hS h00 he rfl 26 (by decide) fl2 rfl (by decide +kernel) rfl rfl hl9 dX11_readStep_186 kk) (fun σ_s_267 H locs hO hF9 hM9 hg9 ha9 hH hS => ?_)
              replace hM := hM.tu hM9 (by decide)
              replace hF := hF.tu hF9 (by decide)
              have e_268 : gI σ_s_267 a 11 = a110 := (hM9.i (by decide)).trans e_251
              have e_269 : gI σ_s_267 a 27 = a270 := (hM9.i (by decide)).trans e_253
              have e_270 : gI σ_s_267 a 28 = a280 := (hM9.i (by decide)).trans e_254
              have e_271 : gI σ_s_267 a 25 = 0 := (hM9.i (by decide)).trans e_255
              have e_272 : aF σ_s_267 (ad E a 1) = f1 := (hM9.a (by decide) (by decide)).trans e_256
              have e_273 : gI σ_s_267 a 13 = z_263 := (hM9.i (by decide)).trans e_264
              have e_274 : gI σ_s_267 a 17 = z_265 := (hM9.i (by decide)).trans e_266
              replace hsr := hsr.mv hM9 (by decide) (by decide) (by decide) (by decide) (by decide)
              replace hVhR_261 := hid.mk hVhR_261
              have hR_275 : RSt σ_s_267 a T cc_259 jj_260 := RSt.mv hM9 (by decide) (by decide) (by decide) (by decide) (by decide) (by decide) (by decide) hR_261
              have hVhR_275 := hR_275.1
              have e_276 := hg9
              refine lv_aload_n hx hb dX11_readStep_189 rfl (lv_at hl 0 rfl) ?_
              refine ok.getIc hO h_a (by decide) k13_25 e_271 (fun _ _ he hv kk => th_get (ci := 11) (C := RX11) (T := TX11) (N := 66) hx hb hts inX11 hown hK hH he rfl 25 (by decide) fl3 hv dX11_readStep_190 kk) ?_
              refine lv_if_eq (tgt := 207) hx hb dX11_readStep_193 (by decide) (fun _ => ?_) (fun c_277 => absurd (by decide) c_277)
              exact th_vret hx hb hr hlocks hH hS ⟨hO, hF, hM, ⟨⟨by omega, by omega, by omega⟩, cc_259, jj_260, hR_275, ⟨by omega, by omega, hG_262.en (fun _ => by omega) (fun _ => by omega)⟩⟩⟩ dX11_readStep_207
            · replace c_220 := (I_eq (a := a140) (b := 4) ra140 (show rng 4 from ⟨by decide, by decide⟩)).mp c_220
              exfalso; omega
          · replace c_218 := mt (I_le (a := 60) (b := v2q215) (show rng 60 from ⟨by decide, by decide⟩) rv2q215).mpr c_218
            refine lv_aload_n hx hb dX11_readStep_87 rfl (lv_at hl 0 rfl) ?_
            refine ok.getR hO h_a (by decide) k13_24 (by decide) (fun _ _ he hv kk => th_get (ci := 11) (C := RX11) (T := TX11) (N := 66) hx hb hts inX11 hown hK hH he rfl 24 (by decide) fl4 hv dX11_readStep_88 kk) ?_
            refine lv_iload_n hx hb dX11_readStep_91 rfl (lv_at hl 1 rfl) ?_
            refine lv_iconst (v := I 0) hx hb dX11_readStep_92 (by decide) ?_
            refine m_zast hx hb hK hH hS h00 hO h_a k13_24 (by decide) rv2q215 (by omega) (by omega) (by omega) dX11_readStep_93 (fun σ_s_278 H locs hO hF9 hM9 hH hS => ?_)
            replace hM := hM.tu hM9 (by decide)
            replace hF := hF.tu hF9 (by decide)
            have e_279 : gI σ_s_278 a 11 = a110 := (hM9.i (by decide)).trans J_216_3
            have e_280 : gI σ_s_278 a 13 = a130 := (hM9.i (by decide)).trans J_216_4
            have e_281 : gI σ_s_278 a 14 = a140 := (hM9.i (by decide)).trans J_216_5
            have e_282 : gI σ_s_278 a 17 = a170 := (hM9.i (by decide)).trans J_216_6
            have e_283 : gI σ_s_278 a 19 = 0 := (hM9.i (by decide)).trans e_217
            have e_284 : gI σ_s_278 a 26 = a260 := (hM9.i (by decide)).trans J_216_8
            have e_285 : gI σ_s_278 a 27 = a270 := (hM9.i (by decide)).trans J_216_9
            have e_286 : gI σ_s_278 a 28 = a280 := (hM9.i (by decide)).trans J_216_10
            have e_287 : gI σ_s_278 a 25 = 0 := (hM9.i (by decide)).trans J_216_11
            have e_288 : aF σ_s_278 (ad E a 1) = f1 := (hM9.a (by decide) (by decide)).trans J_216_12
            replace hsr := hsr.mv hM9 (by decide) (by decide) (by decide) (by decide) (by decide)
            replace hVJ_216_2 := hid.mk hVJ_216_2
            have hR_289 : RSt σ_s_278 a T 0 jt := RSt.mv hM9 (by decide) (by decide) (by decide) (by decide) (by decide) (by decide) (by decide) J_216_2
            have hVhR_289 := hR_289.1
            refine lv_iinc (v := I (v2q215 + 1)) (lv' := [(2, .int (I (v2q215 + 1))), (0, .ref a)]) hx hb dX11_readStep_94 hl (k := 1) rfl (I_add _ _) (by decide) rfl (fun ls hl => ?_)
            refine lv_goto (tgt := 81) hx hb dX11_readStep_97 (by decide) ?_
            exact ihJ_216 (v2q215 + 1) σ_s_278 _ _ _ (by first | (dsimp only; omega) | omega) ⟨hO, hF, hM, hsr, hH, hS, lv_sub hl [1, 0] rfl, ⟨by first | (dsimp only; omega) | omega, by first | (dsimp only; omega) | omega⟩, by first | (dsimp only; omega) | omega, by first | (dsimp only; omega) | omega, hR_289, e_279, e_280, e_281, e_282, e_283, e_284, e_285, e_286, e_287, e_288⟩
        · replace c_213 := (I_eq (a := a260) (b := 8) ra260 (show rng 8 from ⟨by decide, by decide⟩)).mp c_213
          refine lv_aload_n hx hb dX11_readStep_66 rfl (lv_at hl 1 rfl) ?_
          refine lv_iconst (v := I 2) hx hb dX11_readStep_67 (by decide) ?_
          obtain ⟨_, hc_290⟩ := hO.cell h_a (by decide) (ci := 11) rfl
          refine th_callv (va_runV (As := [.int (I 2)]) (rest := []) ⟨hx, hb, hml, hown, hts⟩ (n_wrong l G y b0 σ E hO a h_a 2 (show rng 2 from (show rng 2 from ⟨by decide, by decide⟩)) (by omega) (by omega) Bf hsr T hSt 0 jt hR0) (cwV 1 hts gX11_readStep_X11_wrong rfl rfl rfl (by decide +kernel) ⟨Nat.le_of_ble_eq_true rfl, Nat.le_of_ble_eq_true rfl⟩) (th_PV hK hH rfl hc_290) rfl rfl hl.1 rfl (lv_room (Nat.le_of_ble_eq_true rfl)) dX11_readStep_68 ⟨Nat.le_of_ble_eq_true rfl, Nat.le_of_ble_eq_true rfl⟩) hS (fun σ_s_292 H locs hw_291 hH hS => ?_)
          obtain ⟨hO9, hF9, hM9, hw_291⟩ := hw_291
          replace hM := hM.tu hM9 (by decide)
          replace hF := hF.tu hF9 (by decide)
          have e_293 : aF σ_s_292 (ad E a 1) = f1 := (hM9.a (by decide) (by decide)).trans ef1
          have e_294 : gI σ_s_292 a 11 = a110 := (hM9.i (by decide)).trans ea110
          have e_295 : gI σ_s_292 a 13 = a130 := (hM9.i (by decide)).trans ea130
          have e_296 : gI σ_s_292 a 14 = a140 := (hM9.i (by decide)).trans ea140
          have e_297 : gI σ_s_292 a 17 = a170 := (hM9.i (by decide)).trans ea170
          have e_298 : gI σ_s_292 a 26 = a260 := (hM9.i (by decide)).trans ea260
          have e_299 : gI σ_s_292 a 27 = a270 := (hM9.i (by decide)).trans ea270
          have e_300 : gI σ_s_292 a 28 = a280 := (hM9.i (by decide)).trans ea280
          have e_301 : gI σ_s_292 a 25 = 0 := (hM9.i (by decide)).trans e_3
          replace hsr := hsr.mv hM9 (by decide) (by decide) (by decide) (by decide) (by decide)
          replace hO := hO9
          replace hw_291 : (¬ gI σ_s_292 a 19 = 0 ∧ (gI σ a 19 = 0 ∨ gI σ_s_292 a 19 = gI σ a 19)) ∧ ∃ c1 j1, RSt σ_s_292 a T c1 j1 ∧ (j1 = jt ∧ ((0 : Int) = 0 → c1 = 2) ∧ ((0 : Int) ≠ 0 → c1 = 0)) := hw_291
          replace hV0 := hid.mk hV0
          have hn_302 := hw_291.2
          replace hw_291 := hw_291.1
          obtain ⟨cc_303, jj_304, hR_305, hn_302⟩ := hn_302
          have hVhR_305 := hR_305.1
          have hj9 := hn_302.1.symm
          subst hj9
          have h0_306 : ¬ cc_303 = 0 := by omega
          try simp only [h0_306, ne_eq, not_true_eq_false, not_false_eq_true, false_implies, true_implies, true_and, and_true, eq_self, false_or, or_false, false_and, and_false] at hVhR_305
          try simp only [h0_306, ne_eq, not_true_eq_false, not_false_eq_true, false_implies, true_implies, true_and, and_true, eq_self, false_or, or_false, false_and, and_false] at hn_302
          have hG_307 := hy7.much (c2 := cc_303) (j2 := jt) (t2 := 0) (x := 0) (by omega) (by omega) (by omega) rfl
          refine lv_aload_n hx hb dX11_readStep_71 rfl (lv_at hl 1 rfl) ?_
          refine ok.getI hO h_a (by decide) k13_19 (fun _ _ he hv kk => th_get (ci := 11) (C := RX11) (T := TX11) (N := 66) hx hb hts inX11 hown hK hH he rfl 19 (by decide) fl1 hv dX11_readStep_72 kk) (fun z_308 e_309 rz_308 lz_308 uz_308 => ?_)
          refine lv_if_eq (tgt := 79) hx hb dX11_readStep_75 (by decide) (fun c_310 => absurd ((I_eq (a := z_308) (b := 0) rz_308 (show rng 0 from ⟨by decide, by decide⟩)).mp c_310) (by omega)) (fun _ => ?_)
          exact th_vret hx hb hr hlocks hH hS ⟨hO, hF, hM, ⟨⟨by omega, by omega, by omega⟩, cc_303, jt, hR_305, ⟨by omega, by omega, hG_307.en (fun _ => by omega) (fun _ => by omega)⟩⟩⟩ dX11_readStep_78
      · replace hs_209 := hs_209.resolve_left (fun h9 => h9 rfl)
        subst hw_206
        refine lv_if_ne (tgt := 35) hx hb dX11_readStep_23 (by decide) (fun c_311 => absurd (by decide) c_311) (fun _ => ?_)
        refine lv_aload_n hx hb dX11_readStep_26 rfl (lv_at hl 0 rfl) ?_
        refine lv_bipush (v := I 63) hx hb dX11_readStep_27 (by decide) ?_
        obtain ⟨_, hc_312⟩ := hO.cell h_a (by decide) (ci := 11) rfl
        refine th_calli (va_runV (As := [.int (I 63)]) (rest := []) ⟨hx, hb, hml, hown, hts⟩ (n_isMarked l G y b0 σ E hO a h_a 63 (show rng 63 from (show rng 63 from ⟨by decide, by decide⟩)) (by omega) (by omega) Bf hsr T hSt 0 jt hR0 (by omega)) (cwV 1 hts gX11_readStep_X11_isMarked rfl rfl rfl (by decide +kernel) ⟨Nat.le_of_ble_eq_true rfl, Nat.le_of_ble_eq_true rfl⟩) (th_PV hK hH rfl hc_312) rfl rfl hl.1 rfl (lv_room (Nat.le_of_ble_eq_true rfl)) dX11_readStep_29 ⟨Nat.le_of_ble_eq_true rfl, Nat.le_of_ble_eq_true rfl⟩) hS (fun z_315 σ_s_314 H locs rz_315 hw_313 hH hS => ?_)
        obtain ⟨e9, bhw_313, hw_313⟩ := hw_313
        replace e9 := e9.symm
        subst e9
        replace hw_313 : (z_315 = 1 ∧ (0 : Int) = 0 ∧ tK T jt = 63) ∨ (z_315 = 0 ∧ ((0 : Int) ≠ 0 ∨ tK T jt ≠ 63)) := hw_313
        obtain ⟨hw_313, -, hs_316⟩ | ⟨hw_313, hs_316⟩ := hw_313
        · subst hw_313
          refine lv_if_eq (tgt := 39) hx hb dX11_readStep_32 (by decide) (fun c_317 => absurd c_317 (by decide)) (fun _ => ?_)
          refine lv_iconst (v := I 1) hx hb dX11_readStep_35 (by decide) ?_
          refine lv_goto (tgt := 40) hx hb dX11_readStep_36 (by decide) ?_
          refine lv_istore_n (lv' := [(1, .int (I 1)), (0, .ref a)]) hx hb dX11_readStep_40 rfl hl (by decide) rfl (fun ls hl => ?_)
          refine lv_iload_n hx hb dX11_readStep_41 rfl (lv_at hl 0 rfl) ?_
          refine lv_if_ne (tgt := 50) hx hb dX11_readStep_42 (by decide) (fun _ => ?_) (fun c_318 => absurd c_318 (by decide))
          refine lv_aload_n hx hb dX11_readStep_50 rfl (lv_at hl 1 rfl) ?_
          refine ok.getIc hO h_a (by decide) k13_19 e_2 (fun _ _ he hv kk => th_get (ci := 11) (C := RX11) (T := TX11) (N := 66) hx hb hts inX11 hown hK hH he rfl 19 (by decide) fl1 hv dX11_readStep_51 kk) ?_
          refine lv_if_ne (tgt := 71) hx hb dX11_readStep_54 (by decide) (fun c_319 => absurd (by decide) c_319) (fun _ => ?_)
          refine lv_aload_n hx hb dX11_readStep_57 rfl (lv_at hl 1 rfl) ?_
          refine ok.getIc hO h_a (by decide) k13_26 ea260 (fun _ _ he hv kk => th_get (ci := 11) (C := RX11) (T := TX11) (N := 66) hx hb hts inX11 hown hK hH he rfl 26 (by decide) fl2 hv dX11_readStep_58 kk) ?_
          refine lv_bipush (v := I 8) hx hb dX11_readStep_61 (by decide) ?_
          refine lv_icmp_ne (tgt := 71) hx hb dX11_readStep_63 (by decide) (fun c_320 => ?_) (fun c_320 => ?_)
          · replace c_320 := mt (I_eq (a := a260) (b := 8) ra260 (show rng 8 from ⟨by decide, by decide⟩)).mpr c_320
            refine lv_aload_n hx hb dX11_readStep_71 rfl (lv_at hl 1 rfl) ?_
            refine ok.getIc hO h_a (by decide) k13_19 e_2 (fun _ _ he hv kk => th_get (ci := 11) (C := RX11) (T := TX11) (N := 66) hx hb hts inX11 hown hK hH he rfl 19 (by decide) fl1 hv dX11_readStep_72 kk) ?_
            refine lv_if_eq (tgt := 79) hx hb dX11_readStep_75 (by decide) (fun _ => ?_) (fun c_321 => absurd (by decide) c_321)
            refine lv_iconst (v := I 0) hx hb dX11_readStep_79 (by decide) ?_
            refine lv_istore_n (lv' := [(2, .int (I 0)), (1, .int (I 1)), (0, .ref a)]) hx hb dX11_readStep_80 rfl hl (by decide) rfl (fun ls hl => ?_)
            replace hl : lv_has ls 3 [(2, .int (I 0)), (0, .ref a)] := lv_sub hl [0, 2] rfl
            refine th_loop (α := Int) (pc := 81) (fun x9 => (60 - x9).toNat) (fun x9 σ9 H9 l9 ls9 => ok y E σ9 ∧ fr [13] E σ σ9 ∧ fm [13, 14, 15, 16, 17, 18, 19, 20, 27, 28, 24, 26, 30] E σ σ9 a ∧ sr E σ9 a Bf ∧ th_H G b0 σ9 H9 ∧ va_S (th_A b0) s.heap H9 l9 ∧ lv_has ls9 3 [(0, .ref a), (2, .int (I x9))] ∧ rng x9 ∧ (0 ≤ x9) ∧ (x9 ≤ 60) ∧ (RSt σ9 a T 0 jt) ∧ (gI σ9 a 11 = a110) ∧ (gI σ9 a 13 = a130) ∧ (gI σ9 a 14 = a140) ∧ (gI σ9 a 17 = a170) ∧ (gI σ9 a 19 = 0) ∧ (gI σ9 a 26 = a260) ∧ (gI σ9 a 27 = a270) ∧ (gI σ9 a 28 = a280) ∧ (gI σ9 a 25 = 0) ∧ (aF σ9 (ad E a 1) = f1)) ?_ (0) σ _ _ _ ⟨hO, hF, hM, hsr, hH, hS, lv_sub hl [1, 0] rfl, (show rng 0 from ⟨by decide, by decide⟩), by first | (dsimp only; omega) | omega, by first | (dsimp only; omega) | omega, hR0, ea110, ea130, ea140, ea170, e_2, ea260, ea270, ea280, e_3, ef1⟩
            intro x9 σ_J_323 H locs ls hI9 ihJ_323
            obtain ⟨v2q322, ex9⟩ : ∃ z, z = x9 := ⟨_, rfl⟩
            subst ex9
            obtain ⟨hO, hF, hM, hsr, hH, hS, hl, rv2q322, J_323_0, J_323_1, J_323_2, J_323_3, J_323_4, J_323_5, J_323_6, J_323_7, J_323_8, J_323_9, J_323_10, J_323_11, J_323_12⟩ := hI9
            have hl : lv_has ls 3 [(0, .ref a), (2, .int (I v2q322))] := hl
            have rv2q322 : rng v2q322 := rv2q322
            replace J_323_0 : 0 ≤ v2q322 := J_323_0
            replace J_323_1 : v2q322 ≤ 60 := J_323_1
            replace J_323_2 : RSt σ_J_323 a T 0 jt := J_323_2
            replace J_323_3 : gI σ_J_323 a 11 = a110 := J_323_3
            replace J_323_4 : gI σ_J_323 a 13 = a130 := J_323_4
            replace J_323_5 : gI σ_J_323 a 14 = a140 := J_323_5
            replace J_323_6 : gI σ_J_323 a 17 = a170 := J_323_6
            replace J_323_7 : gI σ_J_323 a 19 = 0 := J_323_7
            replace J_323_8 : gI σ_J_323 a 26 = a260 := J_323_8
            replace J_323_9 : gI σ_J_323 a 27 = a270 := J_323_9
            replace J_323_10 : gI σ_J_323 a 28 = a280 := J_323_10
            replace J_323_11 : gI σ_J_323 a 25 = 0 := J_323_11
            replace J_323_12 : aF σ_J_323 (ad E a 1) = f1 := J_323_12
            replace hV0 := hid.mk hV0
            have hVJ_323_2 := J_323_2.1
            try simp only [ne_eq, not_true_eq_false, not_false_eq_true, false_implies, true_implies, true_and, and_true, eq_self, false_or, or_false, false_and, and_false] at hVJ_323_2
            have e_324 : gI σ_J_323 a 19 = 0 := by omega
            refine lv_iload_n hx hb dX11_readStep_81 rfl (lv_at hl 1 rfl) ?_
            refine lv_bipush (v := I 60) hx hb dX11_readStep_82 (by decide) ?_
            refine lv_icmp_ge (tgt := 100) hx hb dX11_readStep_84 (by decide) (fun c_325 => ?_) (fun c_325 => ?_)
            · replace c_325 := (I_le (a := 60) (b := v2q322) (show rng 60 from ⟨by decide, by decide⟩) rv2q322).mp c_325
              refine lv_aload_n hx hb dX11_readStep_100 rfl (lv_at hl 0 rfl) ?_
              refine ok.getIc hO h_a (by decide) k13_14 J_323_5 (fun _ _ he hv kk => th_get (ci := 11) (C := RX11) (T := TX11) (N := 66) hx hb hts inX11 hown hK hH he rfl 14 (by decide) fl0 hv dX11_readStep_101 kk) ?_
              have ht_326 := J_323_2.t4
              refine lv_iconst (v := I 4) hx hb dX11_readStep_104 (by decide) ?_
              refine lv_icmp_ne (tgt := 119) hx hb dX11_readStep_105 (by decide) (fun c_327 => ?_) (fun c_327 => ?_)
              · replace c_327 := mt (I_eq (a := a140) (b := 4) ra140 (show rng 4 from ⟨by decide, by decide⟩)).mpr c_327
                refine lv_aload_n hx hb dX11_readStep_119 rfl (lv_at hl 0 rfl) ?_
                refine lv_bipush (v := I 46) hx hb dX11_readStep_120 (by decide) ?_
                obtain ⟨_, hc_328⟩ := hO.cell h_a (by decide) (ci := 11) rfl
                refine th_calli (va_runV (As := [.int (I 46)]) (rest := []) ⟨hx, hb, hml, hown, hts⟩ (n_isMarked l G y b0 σ_J_323 E hO a h_a 46 (show rng 46 from (show rng 46 from ⟨by decide, by decide⟩)) (by omega) (by omega) Bf hsr T hSt 0 jt J_323_2 (by omega)) (cwV 1 hts gX11_readStep_X11_isMarked rfl rfl rfl (by decide +kernel) ⟨Nat.le_of_ble_eq_true rfl, Nat.le_of_ble_eq_true rfl⟩) (th_PV hK hH rfl hc_328) rfl rfl hl.1 rfl (lv_room (Nat.le_of_ble_eq_true rfl)) dX11_readStep_122 ⟨Nat.le_of_ble_eq_true rfl, Nat.le_of_ble_eq_true rfl⟩) hS (fun z_331 σ_s_330 H locs rz_331 hw_329 hH hS => ?_)
                obtain ⟨e9, bhw_329, hw_329⟩ := hw_329
                replace e9 := e9.symm
                subst e9
                replace hw_329 : (z_331 = 1 ∧ (0 : Int) = 0 ∧ tK T jt = 46) ∨ (z_331 = 0 ∧ ((0 : Int) ≠ 0 ∨ tK T jt ≠ 46)) := hw_329
                replace hw_329 : z_331 = 0 := by omega
                subst hw_329
                refine lv_if_eq (tgt := 139) hx hb dX11_readStep_125 (by decide) (fun _ => ?_) (fun c_332 => absurd (by decide) c_332)
                refine lv_aload_n hx hb dX11_readStep_139 rfl (lv_at hl 0 rfl) ?_
                refine lv_bipush (v := I 91) hx hb dX11_readStep_140 (by decide) ?_
                obtain ⟨_, hc_333⟩ := hO.cell h_a (by decide) (ci := 11) rfl
                refine th_calli (va_runV (As := [.int (I 91)]) (rest := []) ⟨hx, hb, hml, hown, hts⟩ (n_isMarked l G y b0 σ_J_323 E hO a h_a 91 (show rng 91 from (show rng 91 from ⟨by decide, by decide⟩)) (by omega) (by omega) Bf hsr T hSt 0 jt J_323_2 (by omega)) (cwV 1 hts gX11_readStep_X11_isMarked rfl rfl rfl (by decide +kernel) ⟨Nat.le_of_ble_eq_true rfl, Nat.le_of_ble_eq_true rfl⟩) (th_PV hK hH rfl hc_333) rfl rfl hl.1 rfl (lv_room (Nat.le_of_ble_eq_true rfl)) dX11_readStep_142 ⟨Nat.le_of_ble_eq_true rfl, Nat.le_of_ble_eq_true rfl⟩) hS (fun z_336 σ_s_335 H locs rz_336 hw_334 hH hS => ?_)
                obtain ⟨e9, bhw_334, hw_334⟩ := hw_334
                replace e9 := e9.symm
                subst e9
                replace hw_334 : (z_336 = 1 ∧ (0 : Int) = 0 ∧ tK T jt = 91) ∨ (z_336 = 0 ∧ ((0 : Int) ≠ 0 ∨ tK T jt ≠ 91)) := hw_334
                replace hw_334 : z_336 = 0 := by omega
                subst hw_334
                refine lv_if_eq (tgt := 159) hx hb dX11_readStep_145 (by decide) (fun _ => ?_) (fun c_337 => absurd (by decide) c_337)
                refine lv_aload_n hx hb dX11_readStep_159 rfl (lv_at hl 0 rfl) ?_
                obtain ⟨_, hc_338⟩ := hO.cell h_a (by decide) (ci := 11) rfl
                refine th_callv (va_runV (As := []) (rest := []) ⟨hx, hb, hml, hown, hts⟩ (n_pass l G y b0 σ_J_323 E hO a h_a Bf hsr T hSt 0 jt J_323_2 (by omega) (by omega)) (cwV 0 hts gX11_readStep_X11_pass rfl rfl rfl (by decide +kernel) ⟨Nat.le_of_ble_eq_true rfl, Nat.le_of_ble_eq_true rfl⟩) (th_PV hK hH rfl hc_338) rfl rfl hl.1 rfl (lv_room (Nat.le_of_ble_eq_true rfl)) dX11_readStep_160 ⟨Nat.le_of_ble_eq_true rfl, Nat.le_of_ble_eq_true rfl⟩) hS (fun σ_s_340 H locs hw_339 hH hS => ?_)
                obtain ⟨hO9, hF9, hM9, hw_339⟩ := hw_339
                replace hM := hM.tu hM9 (by decide)
                replace hF := hF.tu hF9 (by decide)
                have e_341 : gI σ_s_340 a 11 = a110 := (hM9.i (by decide)).trans J_323_3
                have e_342 : gI σ_s_340 a 19 = 0 := (hM9.i (by decide)).trans e_324
                have e_343 : gI σ_s_340 a 26 = a260 := (hM9.i (by decide)).trans J_323_8
                have e_344 : gI σ_s_340 a 27 = a270 := (hM9.i (by decide)).trans J_323_9
                have e_345 : gI σ_s_340 a 28 = a280 := (hM9.i (by decide)).trans J_323_10
                have e_346 : gI σ_s_340 a 25 = 0 := (hM9.i (by decide)).trans J_323_11
                have e_347 : aF σ_s_340 (ad E a 1) = f1 := (hM9.a (by decide) (by decide)).trans J_323_12
                replace hsr := hsr.mv hM9 (by decide) (by decide) (by decide) (by decide) (by decide)
                replace hO := hO9
                replace hw_339 : ((gI σ_J_323 a 13 ≤ gI σ_s_340 a 13 ∧ gI σ_s_340 a 13 ≤ gI σ_J_323 a 11 ∧ 0 ≤ gI σ_s_340 a 17 ∧ gI σ_s_340 a 17 ≤ gI σ_s_340 a 13) ∧ pgo (gI σ_s_340 a 19) (gI σ_s_340 a 14) (gI σ_J_323 a 13) (gI σ_s_340 a 13) ∧ gI σ_s_340 a 19 = gI σ_J_323 a 19) ∧ ∃ c1 j1, RSt σ_s_340 a T c1 j1 ∧ (c1 = 0 ∧ ((0 : Int) ≠ 0 → j1 = jt) ∧ ((0 : Int) = 0 → j1 = jt + 1)) := hw_339
                replace hVJ_323_2 := hid.mk hVJ_323_2
                have hn_348 := hw_339.2
                replace hw_339 := hw_339.1
                obtain ⟨cc_349, jj_350, hR_351, hn_348⟩ := hn_348
                have hVhR_351 := hR_351.1
                have h0_352 : cc_349 = 0 := by omega
                subst h0_352
                try simp only [ne_eq, not_true_eq_false, not_false_eq_true, false_implies, true_implies, true_and, and_true, eq_self, false_or, or_false, false_and, and_false] at hVhR_351
                have e_353 : gI σ_s_340 a 19 = 0 := by omega
                have hj_354 : jt + 1 = jj_350 := by omega
                subst hj_354
                refine lv_aload_n hx hb dX11_readStep_163 rfl (lv_at hl 0 rfl) ?_
                refine lv_bipush (v := I 40) hx hb dX11_readStep_164 (by decide) ?_
                obtain ⟨_, hc_355⟩ := hO.cell h_a (by decide) (ci := 11) rfl
                refine th_callv (va_runV (As := [.int (I 40)]) (rest := []) ⟨hx, hb, hml, hown, hts⟩ (n_need l G y b0 σ_s_340 E hO a h_a 40 (show rng 40 from (show rng 40 from ⟨by decide, by decide⟩)) (by omega) (by omega) Bf hsr T hSt 0 (jt + 1) hR_351 (by omega)) (cwV 1 hts gX11_readStep_X11_need rfl rfl rfl (by decide +kernel) ⟨Nat.le_of_ble_eq_true rfl, Nat.le_of_ble_eq_true rfl⟩) (th_PV hK hH rfl hc_355) rfl rfl hl.1 rfl (lv_room (Nat.le_of_ble_eq_true rfl)) dX11_readStep_166 ⟨Nat.le_of_ble_eq_true rfl, Nat.le_of_ble_eq_true rfl⟩) hS (fun σ_s_357 H locs hw_356 hH hS => ?_)
                obtain ⟨hO9, hF9, hM9, hw_356⟩ := hw_356
                replace hM := hM.tu hM9 (by decide)
                replace hF := hF.tu hF9 (by decide)
                have e_358 : gI σ_s_357 a 11 = a110 := (hM9.i (by decide)).trans e_341
                have e_359 : gI σ_s_357 a 26 = a260 := (hM9.i (by decide)).trans e_343
                have e_360 : gI σ_s_357 a 27 = a270 := (hM9.i (by decide)).trans e_344
                have e_361 : gI σ_s_357 a 28 = a280 := (hM9.i (by decide)).trans e_345
                have e_362 : gI σ_s_357 a 25 = 0 := (hM9.i (by decide)).trans e_346
                have e_363 : aF σ_s_357 (ad E a 1) = f1 := (hM9.a (by decide) (by decide)).trans e_347
                replace hsr := hsr.mv hM9 (by decide) (by decide) (by decide) (by decide) (by decide)
                replace hO := hO9
                replace hw_356 : ((gI σ_s_340 a 13 ≤ gI σ_s_357 a 13 ∧ gI σ_s_357 a 13 ≤ gI σ_s_340 a 11 ∧ 0 ≤ gI σ_s_357 a 17 ∧ gI σ_s_357 a 17 ≤ gI σ_s_357 a 13) ∧ pgo (gI σ_s_357 a 19) (gI σ_s_357 a 14) (gI σ_s_340 a 13) (gI σ_s_357 a 13) ∧ bdo (gI σ_s_340 a 19) (gI σ_s_357 a 19)) ∧ ∃ c1 j1, RSt σ_s_357 a T c1 j1 ∧ (((0 : Int) ≠ 0 → c1 = 0 ∧ j1 = (jt + 1)) ∧ ((0 : Int) = 0 → (tK T (jt + 1) = 40 ∧ c1 = 0 ∧ j1 = (jt + 1) + 1) ∨ (tK T (jt + 1) ≠ 40 ∧ c1 = 1 ∧ j1 = (jt + 1)))) := hw_356
                have hb_364 := hw_339.1
                replace hw_339 := hid.mk hw_339
                replace hn_348 := hid.mk hn_348
                replace hVhR_351 := hid.mk hVhR_351
                have hn_365 := hw_356.2
                replace hw_356 := hw_356.1
                obtain ⟨cc_366, jj_367, hR_368, hn_365⟩ := hn_365
                have hVhR_368 := hR_368.1
                have hf_369 := (GS.start (T := T) (e := [(5, 40), (2, 0), (5, 41)]) (j := jt + 1) (t := gI σ a 27)).need (c2 := cc_366) (j2 := jj_367) (fun h9 => absurd rfl h9) (fun _ => by omega)
                have hl169 : jt + 1 ≤ jj_367 := by omega
                refine lv_aload_n hx hb dX11_readStep_169 rfl (lv_at hl 0 rfl) ?_
                obtain ⟨_, hc_370⟩ := hO.cell h_a (by decide) (ci := 11) rfl
                refine th_callv (va_runV (As := []) (rest := []) ⟨hx, hb, hml, hown, hts⟩ (n_filter l G y b0 σ_s_357 E hO a h_a f1 e_363 Bf hsr T hSt cc_366 jj_367 hR_368 (by omega) (by omega) (by omega) (by omega)) (cwV 0 hts gX11_readStep_X11_filter rfl rfl rfl (by decide +kernel) ⟨Nat.le_of_ble_eq_true rfl, Nat.le_of_ble_eq_true rfl⟩) (th_PV hK hH rfl hc_370) rfl rfl hl.1 rfl (lv_room (Nat.le_of_ble_eq_true rfl)) dX11_readStep_170 ⟨Nat.le_of_ble_eq_true rfl, Nat.le_of_ble_eq_true rfl⟩) hS (fun σ_s_372 H locs hw_371 hH hS => ?_)
                obtain ⟨hO9, hF9, hM9, hw_371⟩ := hw_371
                replace hM := hM.tu hM9 (by decide)
                replace hF := hF.tu hF9 (by decide)
                have e_373 : gI σ_s_372 a 11 = a110 := (hM9.i (by decide)).trans e_358
                have e_374 : gI σ_s_372 a 26 = a260 := (hM9.i (by decide)).trans e_359
                have e_375 : gI σ_s_372 a 25 = 0 := (hM9.i (by decide)).trans e_362
                have e_376 : aF σ_s_372 (ad E a 1) = f1 := (hM9.a (by decide) (by decide)).trans e_363
                replace hsr := hsr.mv hM9 (by decide) (by decide) (by decide) (by decide) (by decide)
                replace hO := hO9
                replace hw_371 : ((gI σ_s_357 a 13 ≤ gI σ_s_372 a 13 ∧ gI σ_s_372 a 13 ≤ gI σ_s_357 a 11 ∧ 0 ≤ gI σ_s_372 a 17 ∧ gI σ_s_372 a 17 ≤ gI σ_s_372 a 13) ∧ gI σ_s_372 a 28 = 0) ∧ ∃ c1 j1, RSt σ_s_372 a T c1 j1 ∧ (cc_366 ≠ 0 → c1 = cc_366 ∧ j1 = jj_367) ∧ (cc_366 = 0 → jj_367 ≤ j1 ∧ GS T [(2, 0)] jj_367 (gI σ_s_357 a 27) [] c1 j1 (gI σ_s_372 a 27)) ∧ (c1 = 0 → 0 ≤ gI σ_s_372 a 27 ∧ gI σ_s_372 a 27 ≤ 12) := hw_371
                have hb_377 := hw_356.1
                replace hw_356 := hid.mk hw_356
                replace hn_365 := hid.mk hn_365
                replace hVhR_368 := hid.mk hVhR_368
                have hn_378 := hw_371.2
                replace hw_371 := hw_371.1
                obtain ⟨cc_379, jj_380, hR_381, hn_378⟩ := hn_378
                have hVhR_381 := hR_381.1
                have hf_382 := hf_369.call (c2 := cc_379) (j2 := jj_380) (t2 := gI σ_s_372 a 27) (fun h9 => GS.cg1 (hn_378.2.1 h9).2 rfl rfl (by omega)) (fun h9 => hn_378.1 h9)
                have hl173 : jt + 1 ≤ jj_380 := by rcases Classical.em (cc_366 = 0) with h9 | h9; have h8 := (hn_378.2.1 h9).1; omega; have h8 := hn_378.1 h9; omega
                have h279 := hn_378.2.2
                refine lv_aload_n hx hb dX11_readStep_173 rfl (lv_at hl 0 rfl) ?_
                refine lv_bipush (v := I 41) hx hb dX11_readStep_174 (by decide) ?_
                obtain ⟨z_383, e_384, rz_383, lz_383, uz_383⟩ := hO.gi h_a (by decide) k13_27
                obtain ⟨z_385, e_386, rz_385, lz_385, uz_385⟩ := hO.gi h_a (by decide) k13_28
                obtain ⟨_, hc_387⟩ := hO.cell h_a (by decide) (ci := 11) rfl
                refine th_callv (va_runV (As := [.int (I 41)]) (rest := []) ⟨hx, hb, hml, hown, hts⟩ (n_need l G y b0 σ_s_372 E hO a h_a 41 (show rng 41 from (show rng 41 from ⟨by decide, by decide⟩)) (by omega) (by omega) Bf hsr T hSt cc_379 jj_380 hR_381 (by omega)) (cwV 1 hts gX11_readStep_X11_need rfl rfl rfl (by decide +kernel) ⟨Nat.le_of_ble_eq_true rfl, Nat.le_of_ble_eq_true rfl⟩) (th_PV hK hH rfl hc_387) rfl rfl hl.1 rfl (lv_room (Nat.le_of_ble_eq_true rfl)) dX11_readStep_176 ⟨Nat.le_of_ble_eq_true rfl, Nat.le_of_ble_eq_true rfl⟩) hS (fun σ_s_389 H locs hw_388 hH hS => ?_)
                obtain ⟨hO9, hF9, hM9, hw_388⟩ := hw_388
                replace hM := hM.tu hM9 (by decide)
                replace hF := hF.tu hF9 (by decide)
                have e_390 : gI σ_s_389 a 11 = a110 := (hM9.i (by decide)).trans e_373
                have e_391 : gI σ_s_389 a 26 = a260 := (hM9.i (by decide)).trans e_374
                have e_392 : gI σ_s_389 a 25 = 0 := (hM9.i (by decide)).trans e_375
                have e_393 : aF σ_s_389 (ad E a 1) = f1 := (hM9.a (by decide) (by decide)).trans e_376
                have e_394 : gI σ_s_389 a 27 = z_383 := (hM9.i (by decide)).trans e_384
                have e_395 : gI σ_s_389 a 28 = z_385 := (hM9.i (by decide)).trans e_386
                replace hsr := hsr.mv hM9 (by decide) (by decide) (by decide) (by decide) (by decide)
                replace hO := hO9
                replace hw_388 : ((gI σ_s_372 a 13 ≤ gI σ_s_389 a 13 ∧ gI σ_s_389 a 13 ≤ gI σ_s_372 a 11 ∧ 0 ≤ gI σ_s_389 a 17 ∧ gI σ_s_389 a 17 ≤ gI σ_s_389 a 13) ∧ pgo (gI σ_s_389 a 19) (gI σ_s_389 a 14) (gI σ_s_372 a 13) (gI σ_s_389 a 13) ∧ bdo (gI σ_s_372 a 19) (gI σ_s_389 a 19)) ∧ ∃ c1 j1, RSt σ_s_389 a T c1 j1 ∧ ((cc_379 ≠ 0 → c1 = cc_379 ∧ j1 = jj_380) ∧ (cc_379 = 0 → (tK T jj_380 = 41 ∧ c1 = 0 ∧ j1 = jj_380 + 1) ∨ (tK T jj_380 ≠ 41 ∧ c1 = 1 ∧ j1 = jj_380))) := hw_388
                have hb_396 := hw_371.1
                have hb_397 := hw_371.2
                replace hw_371 := hid.mk hw_371
                replace hn_378 := hid.mk hn_378
                replace hVhR_381 := hid.mk hVhR_381
                have hn_398 := hw_388.2
                replace hw_388 := hw_388.1
                obtain ⟨cc_399, jj_400, hR_401, hn_398⟩ := hn_398
                have hVhR_401 := hR_401.1
                have hf9 := hf_382.need (c2 := cc_399) (j2 := jj_400) (fun h9 => by omega) (fun h9 => by omega)
                have hle9 : jt ≤ jj_400 := by omega
                have hG_402 := hy7.byFilter hs_316 (by omega) hf9
                refine lv_aload_n hx hb dX11_readStep_179 rfl (lv_at hl 0 rfl) ?_
                refine lv_dup hx hb dX11_readStep_180 rfl ?_
                refine ok.getIc hO h_a (by decide) k13_26 e_391 (fun _ _ he hv kk => th_get (ci := 11) (C := RX11) (T := TX11) (N := 66) hx hb hts inX11 hown hK hH he rfl 26 (by decide) fl2 hv dX11_readStep_181 kk) ?_
                refine lv_iconst (v := I 1) hx hb dX11_readStep_184 (by decide) ?_
                refine lv_iadd hx hb dX11_readStep_185 ?_
                refine nq_top (I_add _ _) ?_
                obtain ⟨z_403, e_404, rz_403, lz_403, uz_403⟩ := hO.gi h_a (by decide) k13_13
                obtain ⟨z_405, e_406, rz_405, lz_405, uz_405⟩ := hO.gi h_a (by decide) k13_17
                refine ok.putJ hO h_a k13_26 ⟨by omega, by omega⟩ (by omega) (by omega) (fun _ he hl9 kk => th_put (ci := 11) (v := .int (I (a260 + 1))) (ty := .int) (C := RX11) (T := TX11) (N := 66) hx hb hts inX11 tyX11 tyX11_ok nmX11 hown hK hH hS h00 he rfl 26 (by decide) fl2 rfl (by decide +kernel) rfl rfl hl9 dX11_readStep_186 kk) (fun σ_s_407 H locs hO hF9 hM9 hg9 ha9 hH hS => ?_)
                replace hM := hM.tu hM9 (by decide)
                replace hF := hF.tu hF9 (by decide)
                have e_408 : gI σ_s_407 a 11 = a110 := (hM9.i (by decide)).trans e_390
                have e_409 : gI σ_s_407 a 25 = 0 := (hM9.i (by decide)).trans e_392
                have e_410 : aF σ_s_407 (ad E a 1) = f1 := (hM9.a (by decide) (by decide)).trans e_393
                have e_411 : gI σ_s_407 a 27 = z_383 := (hM9.i (by decide)).trans e_394
                have e_412 : gI σ_s_407 a 28 = z_385 := (hM9.i (by decide)).trans e_395
                have e_413 : gI σ_s_407 a 13 = z_403 := (hM9.i (by decide)).trans e_404
                have e_414 : gI σ_s_407 a 17 = z_405 := (hM9.i (by decide)).trans e_406
                replace hsr := hsr.mv hM9 (by decide) (by decide) (by decide) (by decide) (by decide)
                replace hVhR_401 := hid.mk hVhR_401
                have hR_415 : RSt σ_s_407 a T cc_399 jj_400 := RSt.mv hM9 (by decide) (by decide) (by decide) (by decide) (by decide) (by decide) (by decide) hR_401
                have hVhR_415 := hR_415.1
                have e_416 := hg9
                refine lv_aload_n hx hb dX11_readStep_189 rfl (lv_at hl 0 rfl) ?_
                refine ok.getIc hO h_a (by decide) k13_25 e_409 (fun _ _ he hv kk => th_get (ci := 11) (C := RX11) (T := TX11) (N := 66) hx hb hts inX11 hown hK hH he rfl 25 (by decide) fl3 hv dX11_readStep_190 kk) ?_
                refine lv_if_eq (tgt := 207) hx hb dX11_readStep_193 (by decide) (fun _ => ?_) (fun c_417 => absurd (by decide) c_417)
                exact th_vret hx hb hr hlocks hH hS ⟨hO, hF, hM, ⟨⟨by omega, by omega, by omega⟩, cc_399, jj_400, hR_415, ⟨by omega, by omega, hG_402.en (fun _ => by omega) (fun _ => by omega)⟩⟩⟩ dX11_readStep_207
              · replace c_327 := (I_eq (a := a140) (b := 4) ra140 (show rng 4 from ⟨by decide, by decide⟩)).mp c_327
                exfalso; omega
            · replace c_325 := mt (I_le (a := 60) (b := v2q322) (show rng 60 from ⟨by decide, by decide⟩) rv2q322).mpr c_325
              refine lv_aload_n hx hb dX11_readStep_87 rfl (lv_at hl 0 rfl) ?_
              refine ok.getR hO h_a (by decide) k13_24 (by decide) (fun _ _ he hv kk => th_get (ci := 11) (C := RX11) (T := TX11) (N := 66) hx hb hts inX11 hown hK hH he rfl 24 (by decide) fl4 hv dX11_readStep_88 kk) ?_
              refine lv_iload_n hx hb dX11_readStep_91 rfl (lv_at hl 1 rfl) ?_
              refine lv_iconst (v := I 0) hx hb dX11_readStep_92 (by decide) ?_
              refine m_zast hx hb hK hH hS h00 hO h_a k13_24 (by decide) rv2q322 (by omega) (by omega) (by omega) dX11_readStep_93 (fun σ_s_418 H locs hO hF9 hM9 hH hS => ?_)
              replace hM := hM.tu hM9 (by decide)
              replace hF := hF.tu hF9 (by decide)
              have e_419 : gI σ_s_418 a 11 = a110 := (hM9.i (by decide)).trans J_323_3
              have e_420 : gI σ_s_418 a 13 = a130 := (hM9.i (by decide)).trans J_323_4
              have e_421 : gI σ_s_418 a 14 = a140 := (hM9.i (by decide)).trans J_323_5
              have e_422 : gI σ_s_418 a 17 = a170 := (hM9.i (by decide)).trans J_323_6
              have e_423 : gI σ_s_418 a 19 = 0 := (hM9.i (by decide)).trans e_324
              have e_424 : gI σ_s_418 a 26 = a260 := (hM9.i (by decide)).trans J_323_8
              have e_425 : gI σ_s_418 a 27 = a270 := (hM9.i (by decide)).trans J_323_9
              have e_426 : gI σ_s_418 a 28 = a280 := (hM9.i (by decide)).trans J_323_10
              have e_427 : gI σ_s_418 a 25 = 0 := (hM9.i (by decide)).trans J_323_11
              have e_428 : aF σ_s_418 (ad E a 1) = f1 := (hM9.a (by decide) (by decide)).trans J_323_12
              replace hsr := hsr.mv hM9 (by decide) (by decide) (by decide) (by decide) (by decide)
              replace hVJ_323_2 := hid.mk hVJ_323_2
              have hR_429 : RSt σ_s_418 a T 0 jt := RSt.mv hM9 (by decide) (by decide) (by decide) (by decide) (by decide) (by decide) (by decide) J_323_2
              have hVhR_429 := hR_429.1
              refine lv_iinc (v := I (v2q322 + 1)) (lv' := [(2, .int (I (v2q322 + 1))), (0, .ref a)]) hx hb dX11_readStep_94 hl (k := 1) rfl (I_add _ _) (by decide) rfl (fun ls hl => ?_)
              refine lv_goto (tgt := 81) hx hb dX11_readStep_97 (by decide) ?_
              exact ihJ_323 (v2q322 + 1) σ_s_418 _ _ _ (by first | (dsimp only; omega) | omega) ⟨hO, hF, hM, hsr, hH, hS, lv_sub hl [1, 0] rfl, ⟨by first | (dsimp only; omega) | omega, by first | (dsimp only; omega) | omega⟩, by first | (dsimp only; omega) | omega, by first | (dsimp only; omega) | omega, hR_429, e_419, e_420, e_421, e_422, e_423, e_424, e_425, e_426, e_427, e_428⟩
          · replace c_320 := (I_eq (a := a260) (b := 8) ra260 (show rng 8 from ⟨by decide, by decide⟩)).mp c_320
            refine lv_aload_n hx hb dX11_readStep_66 rfl (lv_at hl 1 rfl) ?_
            refine lv_iconst (v := I 2) hx hb dX11_readStep_67 (by decide) ?_
            obtain ⟨_, hc_430⟩ := hO.cell h_a (by decide) (ci := 11) rfl
            refine th_callv (va_runV (As := [.int (I 2)]) (rest := []) ⟨hx, hb, hml, hown, hts⟩ (n_wrong l G y b0 σ E hO a h_a 2 (show rng 2 from (show rng 2 from ⟨by decide, by decide⟩)) (by omega) (by omega) Bf hsr T hSt 0 jt hR0) (cwV 1 hts gX11_readStep_X11_wrong rfl rfl rfl (by decide +kernel) ⟨Nat.le_of_ble_eq_true rfl, Nat.le_of_ble_eq_true rfl⟩) (th_PV hK hH rfl hc_430) rfl rfl hl.1 rfl (lv_room (Nat.le_of_ble_eq_true rfl)) dX11_readStep_68 ⟨Nat.le_of_ble_eq_true rfl, Nat.le_of_ble_eq_true rfl⟩) hS (fun σ_s_432 H locs hw_431 hH hS => ?_)
            obtain ⟨hO9, hF9, hM9, hw_431⟩ := hw_431
            replace hM := hM.tu hM9 (by decide)
            replace hF := hF.tu hF9 (by decide)
            have e_433 : aF σ_s_432 (ad E a 1) = f1 := (hM9.a (by decide) (by decide)).trans ef1
            have e_434 : gI σ_s_432 a 11 = a110 := (hM9.i (by decide)).trans ea110
            have e_435 : gI σ_s_432 a 13 = a130 := (hM9.i (by decide)).trans ea130
            have e_436 : gI σ_s_432 a 14 = a140 := (hM9.i (by decide)).trans ea140
            have e_437 : gI σ_s_432 a 17 = a170 := (hM9.i (by decide)).trans ea170
            have e_438 : gI σ_s_432 a 26 = a260 := (hM9.i (by decide)).trans ea260
            have e_439 : gI σ_s_432 a 27 = a270 := (hM9.i (by decide)).trans ea270
            have e_440 : gI σ_s_432 a 28 = a280 := (hM9.i (by decide)).trans ea280
            have e_441 : gI σ_s_432 a 25 = 0 := (hM9.i (by decide)).trans e_3
            replace hsr := hsr.mv hM9 (by decide) (by decide) (by decide) (by decide) (by decide)
            replace hO := hO9
            replace hw_431 : (¬ gI σ_s_432 a 19 = 0 ∧ (gI σ a 19 = 0 ∨ gI σ_s_432 a 19 = gI σ a 19)) ∧ ∃ c1 j1, RSt σ_s_432 a T c1 j1 ∧ (j1 = jt ∧ ((0 : Int) = 0 → c1 = 2) ∧ ((0 : Int) ≠ 0 → c1 = 0)) := hw_431
            replace hV0 := hid.mk hV0
            have hn_442 := hw_431.2
            replace hw_431 := hw_431.1
            obtain ⟨cc_443, jj_444, hR_445, hn_442⟩ := hn_442
            have hVhR_445 := hR_445.1
            have hj9 := hn_442.1.symm
            subst hj9
            have h0_446 : ¬ cc_443 = 0 := by omega
            try simp only [h0_446, ne_eq, not_true_eq_false, not_false_eq_true, false_implies, true_implies, true_and, and_true, eq_self, false_or, or_false, false_and, and_false] at hVhR_445
            try simp only [h0_446, ne_eq, not_true_eq_false, not_false_eq_true, false_implies, true_implies, true_and, and_true, eq_self, false_or, or_false, false_and, and_false] at hn_442
            have hG_447 := hy7.much (c2 := cc_443) (j2 := jt) (t2 := 0) (x := 0) (by omega) (by omega) (by omega) rfl
            refine lv_aload_n hx hb dX11_readStep_71 rfl (lv_at hl 1 rfl) ?_
            refine ok.getI hO h_a (by decide) k13_19 (fun _ _ he hv kk => th_get (ci := 11) (C := RX11) (T := TX11) (N := 66) hx hb hts inX11 hown hK hH he rfl 19 (by decide) fl1 hv dX11_readStep_72 kk) (fun z_448 e_449 rz_448 lz_448 uz_448 => ?_)
            refine lv_if_eq (tgt := 79) hx hb dX11_readStep_75 (by decide) (fun c_450 => absurd ((I_eq (a := z_448) (b := 0) rz_448 (show rng 0 from ⟨by decide, by decide⟩)).mp c_450) (by omega)) (fun _ => ?_)
            exact th_vret hx hb hr hlocks hH hS ⟨hO, hF, hM, ⟨⟨by omega, by omega, by omega⟩, cc_443, jt, hR_445, ⟨by omega, by omega, hG_447.en (fun _ => by omega) (fun _ => by omega)⟩⟩⟩ dX11_readStep_78
        · replace hs_316 := hs_316.resolve_left (fun h9 => h9 rfl)
          subst hw_313
          refine lv_if_eq (tgt := 39) hx hb dX11_readStep_32 (by decide) (fun _ => ?_) (fun c_451 => absurd (by decide) c_451)
          refine lv_iconst (v := I 0) hx hb dX11_readStep_39 (by decide) ?_
          refine lv_istore_n (lv' := [(1, .int (I 0)), (0, .ref a)]) hx hb dX11_readStep_40 rfl hl (by decide) rfl (fun ls hl => ?_)
          refine lv_iload_n hx hb dX11_readStep_41 rfl (lv_at hl 0 rfl) ?_
          refine lv_if_ne (tgt := 50) hx hb dX11_readStep_42 (by decide) (fun c_452 => absurd (by decide) c_452) (fun _ => ?_)
          refine lv_aload_n hx hb dX11_readStep_45 rfl (lv_at hl 1 rfl) ?_
          refine lv_iconst (v := I 1) hx hb dX11_readStep_46 (by decide) ?_
          obtain ⟨_, hc_453⟩ := hO.cell h_a (by decide) (ci := 11) rfl
          refine th_callv (va_runV (As := [.int (I 1)]) (rest := []) ⟨hx, hb, hml, hown, hts⟩ (n_wrong l G y b0 σ E hO a h_a 1 (show rng 1 from (show rng 1 from ⟨by decide, by decide⟩)) (by omega) (by omega) Bf hsr T hSt 0 jt hR0) (cwV 1 hts gX11_readStep_X11_wrong rfl rfl rfl (by decide +kernel) ⟨Nat.le_of_ble_eq_true rfl, Nat.le_of_ble_eq_true rfl⟩) (th_PV hK hH rfl hc_453) rfl rfl hl.1 rfl (lv_room (Nat.le_of_ble_eq_true rfl)) dX11_readStep_47 ⟨Nat.le_of_ble_eq_true rfl, Nat.le_of_ble_eq_true rfl⟩) hS (fun σ_s_455 H locs hw_454 hH hS => ?_)
          obtain ⟨hO9, hF9, hM9, hw_454⟩ := hw_454
          replace hM := hM.tu hM9 (by decide)
          replace hF := hF.tu hF9 (by decide)
          have e_456 : aF σ_s_455 (ad E a 1) = f1 := (hM9.a (by decide) (by decide)).trans ef1
          have e_457 : gI σ_s_455 a 11 = a110 := (hM9.i (by decide)).trans ea110
          have e_458 : gI σ_s_455 a 13 = a130 := (hM9.i (by decide)).trans ea130
          have e_459 : gI σ_s_455 a 14 = a140 := (hM9.i (by decide)).trans ea140
          have e_460 : gI σ_s_455 a 17 = a170 := (hM9.i (by decide)).trans ea170
          have e_461 : gI σ_s_455 a 26 = a260 := (hM9.i (by decide)).trans ea260
          have e_462 : gI σ_s_455 a 27 = a270 := (hM9.i (by decide)).trans ea270
          have e_463 : gI σ_s_455 a 28 = a280 := (hM9.i (by decide)).trans ea280
          have e_464 : gI σ_s_455 a 25 = 0 := (hM9.i (by decide)).trans e_3
          replace hsr := hsr.mv hM9 (by decide) (by decide) (by decide) (by decide) (by decide)
          replace hO := hO9
          replace hw_454 : (¬ gI σ_s_455 a 19 = 0 ∧ (gI σ a 19 = 0 ∨ gI σ_s_455 a 19 = gI σ a 19)) ∧ ∃ c1 j1, RSt σ_s_455 a T c1 j1 ∧ (j1 = jt ∧ ((0 : Int) = 0 → c1 = 1) ∧ ((0 : Int) ≠ 0 → c1 = 0)) := hw_454
          replace hV0 := hid.mk hV0
          have hn_465 := hw_454.2
          replace hw_454 := hw_454.1
          obtain ⟨cc_466, jj_467, hR_468, hn_465⟩ := hn_465
          have hVhR_468 := hR_468.1
          have hj9 := hn_465.1.symm
          subst hj9
          have h0_469 : ¬ cc_466 = 0 := by omega
          try simp only [h0_469, ne_eq, not_true_eq_false, not_false_eq_true, false_implies, true_implies, true_and, and_true, eq_self, false_or, or_false, false_and, and_false] at hVhR_468
          try simp only [h0_469, ne_eq, not_true_eq_false, not_false_eq_true, false_implies, true_implies, true_and, and_true, eq_self, false_or, or_false, false_and, and_false] at hn_465
          have hG_470 := hy7.cant (c2 := cc_466) (j2 := jt) (t2 := 0) (x := 0) ⟨hy4, hs_107, hs_102, hs_209, hs_316⟩ (by omega) rfl
          refine lv_aload_n hx hb dX11_readStep_50 rfl (lv_at hl 1 rfl) ?_
          refine ok.getI hO h_a (by decide) k13_19 (fun _ _ he hv kk => th_get (ci := 11) (C := RX11) (T := TX11) (N := 66) hx hb hts inX11 hown hK hH he rfl 19 (by decide) fl1 hv dX11_readStep_51 kk) (fun z_471 e_472 rz_471 lz_471 uz_471 => ?_)
          refine lv_if_ne (tgt := 71) hx hb dX11_readStep_54 (by decide) (fun _ => ?_) (fun c_473 => absurd ((I_eq (a := z_471) (b := 0) rz_471 (show rng 0 from ⟨by decide, by decide⟩)).mp c_473) (by omega))
          refine lv_aload_n hx hb dX11_readStep_71 rfl (lv_at hl 1 rfl) ?_
          refine ok.getIc hO h_a (by decide) k13_19 e_472 (fun _ _ he hv kk => th_get (ci := 11) (C := RX11) (T := TX11) (N := 66) hx hb hts inX11 hown hK hH he rfl 19 (by decide) fl1 hv dX11_readStep_72 kk) ?_
          refine lv_if_eq (tgt := 79) hx hb dX11_readStep_75 (by decide) (fun c_474 => absurd ((I_eq (a := z_471) (b := 0) rz_471 (show rng 0 from ⟨by decide, by decide⟩)).mp c_474) (by omega)) (fun _ => ?_)
          exact th_vret hx hb hr hlocks hH hS ⟨hO, hF, hM, ⟨⟨by omega, by omega, by omega⟩, cc_466, jt, hR_468, ⟨by omega, by omega, hG_470.en (fun _ => by omega) (fun _ => by omega)⟩⟩⟩ dX11_readStep_78

set_option maxHeartbeats 20000000 in
set_option maxRecDepth 100000 in
theorem n_readPath (l : Launch) (G : va_G) (y : Nat → ClassId) (b0 : Nat) (σ : th_M) (E : th_E) (hO : ok y E σ) (a : Nat) (h_a : kd E a = 13) (la : Int) (rla : rng la) (f1 : Nat → Int32) (ef1 : aF σ (ad E a 1) = f1) (Bf : Int → Int) (hsr : sr E σ a Bf) (T : tkT) (hSt : tkSt Bf T) (fc jt : Int) (hR0 : RSt σ a T fc jt) (hy0 : 0 ≤ gI σ a 17 ∧ gI σ a 17 ≤ gI σ a 13 ∧ gI σ a 13 ≤ gI σ a 11 ∧ gI σ a 11 ≤ 400) (hy1 : gI σ a 25 = 0) (hy2 : fc = 0) (hy3 : jt = 0) (hy4 : la = -1) : Met l yX11_readPath wsX11_readPath ({ frames := 49, cells := 0, slots := 0, locals := 1661 }) (th_P G y b0 σ [.ref a, .int (I la)]) (th_Qv G b0 (fun σ1 => ok y E σ1 ∧ fr [13] E σ σ1 ∧ fm [13, 14, 15, 16, 17, 18, 19, 20, 27, 28, 24, 26, 29, 30] E σ σ1 a ∧ ((0 ≤ gI σ1 a 26 ∧ gI σ1 a 26 ≤ 8) ∧ ∃ c1 j1, RSt σ1 a T c1 j1 ∧ (c1 = 0 → tK T j1 = 259) ∧ GPe T c1 j1))) 0 0 (th_A b0) := by
  refine Met.ofW (cc := cX11_readPath) (maxL := 2) (ret := none) (by decide) rfl ?_
  intro p e s m args below meth c s₁ B hml hv
  obtain ⟨rfl, hH, hK⟩ := hv
  have hx := B.exec
  have hb := B.bytes
  have hr := B.returns
  have hts := atoms_spec (ws := wsX11_readPath) B.pre
  have hown : s.vm.findClass RX11 = some m.cls := findClass_of_methodNamed B.named
  have hlocks := B.notSynchronized
  have h00 : b0 ≤ s.heap.size := hH.1
  have hS : va_S (th_A b0) s.heap s.heap [] := va_S.rf
  have hF : fr [13] E σ σ := fr.rf
  have hM : fm [13, 14, 15, 16, 17, 18, 19, 20, 27, 28, 24, 26, 29, 30] E σ σ a := fm.rf
  have inX11 : ∀ w ∈ wsX110, w ∈ wsX11_readPath := by decide +kernel
  have fl0 := hts (.fieldLink RX11 273 "NestQueryModel" "stepsRead" "I") (by decide +kernel)
  have fl1 := hts (.fieldLink RX11 276 "NestQueryModel" "littles" "I") (by decide +kernel)
  have fl2 := hts (.fieldLink RX11 279 "NestQueryModel" "nested" "I") (by decide +kernel)
  have fl3 := hts (.fieldLink RX11 282 "NestQueryModel" "lastStep" "I") (by decide +kernel)
  have fl4 := hts (.fieldLink RX11 162 "NestQueryModel" "bad" "I") (by decide +kernel)
  have fl5 := hts (.fieldLink RX11 136 "NestQueryModel" "token" "I") (by decide +kernel)
  have hl := lv_entry ([.ref a, .int (I la)]) (n := 2) (Nat.le_of_ble_eq_true rfl)
  rw [lg_entry_eq]
  generalize (lg_sl ([.ref a, .int (I la)]) ++ List.replicate (2 - (lg_sl ([.ref a, .int (I la)])).length) Slot.unset).toArray = ls at hl ⊢
  have hl : lv_has ls 2 [(0, .ref a), (1, .int (I la))] := hl
  obtain ⟨a110, ea110, ra110, la110, ua110⟩ := hO.gi h_a (by decide) k13_11
  obtain ⟨a130, ea130, ra130, la130, ua130⟩ := hO.gi h_a (by decide) k13_13
  obtain ⟨a140, ea140, ra140, la140, ua140⟩ := hO.gi h_a (by decide) k13_14
  obtain ⟨a170, ea170, ra170, la170, ua170⟩ := hO.gi h_a (by decide) k13_17
  obtain ⟨a190, ea190, ra190, la190, ua190⟩ := hO.gi h_a (by decide) k13_19
  have hV0 := hR0.1
  have h0_1 : fc = 0 := by omega
  subst h0_1
  try simp only [ne_eq, not_true_eq_false, not_false_eq_true, false_implies, true_implies, true_and, and_true, eq_self, false_or, or_false, false_and, and_false] at hV0
  have e_2 : gI σ a 19 = 0 := by omega
  have hj_3 : jt = 0 := by omega
  subst hj_3
  have hG_4 := GP.start (T := T)
  have e_5 : gI σ a 25 = 0 := by omega
  refine lv_aload_n hx hb dX11_readPath_0 rfl (lv_at hl 0 rfl) ?_
  refine lv_iconst (v := I 0) hx hb dX11_readPath_1 (by decide) ?_
  refine ok.putJ hO h_a k13_26 (show rng 0 from ⟨by decide, by decide⟩) (by omega) (by omega) (fun _ he hl9 kk => th_put (ci := 11) (v := .int (I 0)) (ty := .int) (C := RX11) (T := TX11) (N := 66) hx hb hts inX11 tyX11 tyX11_ok nmX11 hown hK hH hS h00 he rfl 26 (by decide) fl0 rfl (by decide +kernel) rfl rfl hl9 dX11_readPath_2 kk) (fun σ_s_6 H locs hO hF9 hM9 hg9 ha9 hH hS => ?_)
  replace hM := hM.tu hM9 (by decide)
  replace hF := hF.tu hF9 (by decide)
  have e_7 : aF σ_s_6 (ad E a 1) = f1 := (hM9.a (by decide) (by decide)).trans ef1
  have e_8 : gI σ_s_6 a 11 = a110 := (hM9.i (by decide)).trans ea110
  have e_9 : gI σ_s_6 a 13 = a130 := (hM9.i (by decide)).trans ea130
  have e_10 : gI σ_s_6 a 14 = a140 := (hM9.i (by decide)).trans ea140
  have e_11 : gI σ_s_6 a 17 = a170 := (hM9.i (by decide)).trans ea170
  have e_12 : gI σ_s_6 a 19 = 0 := (hM9.i (by decide)).trans e_2
  have e_13 : gI σ_s_6 a 25 = 0 := (hM9.i (by decide)).trans e_5
  replace hsr := hsr.mv hM9 (by decide) (by decide) (by decide) (by decide) (by decide)
  replace hV0 := hid.mk hV0
  have hR_14 : RSt σ_s_6 a T 0 0 := RSt.mv hM9 (by decide) (by decide) (by decide) (by decide) (by decide) (by decide) (by decide) hR0
  have hVhR_14 := hR_14.1
  have e_15 := hg9
  refine lv_aload_n hx hb dX11_readPath_5 rfl (lv_at hl 0 rfl) ?_
  refine lv_iconst (v := I 0) hx hb dX11_readPath_6 (by decide) ?_
  refine ok.putJ hO h_a k13_27 (show rng 0 from ⟨by decide, by decide⟩) (by omega) (by omega) (fun _ he hl9 kk => th_put (ci := 11) (v := .int (I 0)) (ty := .int) (C := RX11) (T := TX11) (N := 66) hx hb hts inX11 tyX11 tyX11_ok nmX11 hown hK hH hS h00 he rfl 27 (by decide) fl1 rfl (by decide +kernel) rfl rfl hl9 dX11_readPath_7 kk) (fun σ_s_16 H locs hO hF9 hM9 hg9 ha9 hH hS => ?_)
  replace hM := hM.tu hM9 (by decide)
  replace hF := hF.tu hF9 (by decide)
  have e_17 : aF σ_s_16 (ad E a 1) = f1 := (hM9.a (by decide) (by decide)).trans e_7
  have e_18 : gI σ_s_16 a 11 = a110 := (hM9.i (by decide)).trans e_8
  have e_19 : gI σ_s_16 a 13 = a130 := (hM9.i (by decide)).trans e_9
  have e_20 : gI σ_s_16 a 14 = a140 := (hM9.i (by decide)).trans e_10
  have e_21 : gI σ_s_16 a 17 = a170 := (hM9.i (by decide)).trans e_11
  have e_22 : gI σ_s_16 a 19 = 0 := (hM9.i (by decide)).trans e_12
  have e_23 : gI σ_s_16 a 25 = 0 := (hM9.i (by decide)).trans e_13
  have e_24 : gI σ_s_16 a 26 = 0 := (hM9.i (by decide)).trans e_15
  replace hsr := hsr.mv hM9 (by decide) (by decide) (by decide) (by decide) (by decide)
  replace hVhR_14 := hid.mk hVhR_14
  have hR_25 : RSt σ_s_16 a T 0 0 := RSt.mv hM9 (by decide) (by decide) (by decide) (by decide) (by decide) (by decide) (by decide) hR_14
  have hVhR_25 := hR_25.1
  have e_26 := hg9
  refine lv_aload_n hx hb dX11_readPath_10 rfl (lv_at hl 0 rfl) ?_
  refine lv_iconst (v := I 0) hx hb dX11_readPath_11 (by decide) ?_
  refine ok.putJ hO h_a k13_28 (show rng 0 from ⟨by decide, by decide⟩) (by omega) (by omega) (fun _ he hl9 kk => th_put (ci := 11) (v := .int (I 0)) (ty := .int) (C := RX11) (T := TX11) (N := 66) hx hb hts inX11 tyX11 tyX11_ok nmX11 hown hK hH hS h00 he rfl 28 (by decide) fl2 rfl (by decide +kernel) rfl rfl hl9 dX11_readPath_12 kk) (fun σ_s_27 H locs hO hF9 hM9 hg9 ha9 hH hS => ?_)
  replace hM := hM.tu hM9 (by decide)
  replace hF := hF.tu hF9 (by decide)
  have e_28 : aF σ_s_27 (ad E a 1) = f1 := (hM9.a (by decide) (by decide)).trans e_17
  have e_29 : gI σ_s_27 a 11 = a110 := (hM9.i (by decide)).trans e_18
  have e_30 : gI σ_s_27 a 13 = a130 := (hM9.i (by decide)).trans e_19
  have e_31 : gI σ_s_27 a 14 = a140 := (hM9.i (by decide)).trans e_20
  have e_32 : gI σ_s_27 a 17 = a170 := (hM9.i (by decide)).trans e_21
  have e_33 : gI σ_s_27 a 19 = 0 := (hM9.i (by decide)).trans e_22
  have e_34 : gI σ_s_27 a 25 = 0 := (hM9.i (by decide)).trans e_23
  have e_35 : gI σ_s_27 a 26 = 0 := (hM9.i (by decide)).trans e_24
  have e_36 : gI σ_s_27 a 27 = 0 := (hM9.i (by decide)).trans e_26
  replace hsr := hsr.mv hM9 (by decide) (by decide) (by decide) (by decide) (by decide)
  replace hVhR_25 := hid.mk hVhR_25
  have hR_37 : RSt σ_s_27 a T 0 0 := RSt.mv hM9 (by decide) (by decide) (by decide) (by decide) (by decide) (by decide) (by decide) hR_25
  have hVhR_37 := hR_37.1
  have e_38 := hg9
  refine lv_aload_n hx hb dX11_readPath_15 rfl (lv_at hl 0 rfl) ?_
  refine lv_iload_n hx hb dX11_readPath_16 rfl (lv_at hl 1 rfl) ?_
  refine ok.putJ hO h_a k13_29 rla (by omega) (by omega) (fun _ he hl9 kk => th_put (ci := 11) (v := .int (I la)) (ty := .int) (C := RX11) (T := TX11) (N := 66) hx hb hts inX11 tyX11 tyX11_ok nmX11 hown hK hH hS h00 he rfl 29 (by decide) fl3 rfl (by decide +kernel) rfl rfl hl9 dX11_readPath_17 kk) (fun σ_s_39 H locs hO hF9 hM9 hg9 ha9 hH hS => ?_)
  replace hM := hM.tu hM9 (by decide)
  replace hF := hF.tu hF9 (by decide)
  have e_40 : aF σ_s_39 (ad E a 1) = f1 := (hM9.a (by decide) (by decide)).trans e_28
  have e_41 : gI σ_s_39 a 11 = a110 := (hM9.i (by decide)).trans e_29
  have e_42 : gI σ_s_39 a 13 = a130 := (hM9.i (by decide)).trans e_30
  have e_43 : gI σ_s_39 a 14 = a140 := (hM9.i (by decide)).trans e_31
  have e_44 : gI σ_s_39 a 17 = a170 := (hM9.i (by decide)).trans e_32
  have e_45 : gI σ_s_39 a 19 = 0 := (hM9.i (by decide)).trans e_33
  have e_46 : gI σ_s_39 a 25 = 0 := (hM9.i (by decide)).trans e_34
  have e_47 : gI σ_s_39 a 26 = 0 := (hM9.i (by decide)).trans e_35
  have e_48 : gI σ_s_39 a 27 = 0 := (hM9.i (by decide)).trans e_36
  have e_49 : gI σ_s_39 a 28 = 0 := (hM9.i (by decide)).trans e_38
  replace hsr := hsr.mv hM9 (by decide) (by decide) (by decide) (by decide) (by decide)
  replace hVhR_37 := hid.mk hVhR_37
  have hR_50 : RSt σ_s_39 a T 0 0 := RSt.mv hM9 (by decide) (by decide) (by decide) (by decide) (by decide) (by decide) (by decide) hR_37
  have hVhR_50 := hR_50.1
  have e_51 := hg9
  replace hl : lv_has ls 2 [(0, .ref a)] := lv_sub hl [0] rfl
  refine th_loop (α := Int) (pc := 20) (fun x9 => (tm T - x9).toNat) (fun x9 σ9 H9 l9 ls9 => ok y E σ9 ∧ fr [13] E σ σ9 ∧ fm [13, 14, 15, 16, 17, 18, 19, 20, 27, 28, 24, 26, 29, 30] E σ σ9 a ∧ sr E σ9 a Bf ∧ th_H G b0 σ9 H9 ∧ va_S (th_A b0) s.heap H9 l9 ∧ lv_has ls9 2 [(0, .ref a)] ∧ (0 ≤ gI σ9 a 17 ∧ gI σ9 a 17 ≤ gI σ9 a 13 ∧ gI σ9 a 13 ≤ gI σ a 11) ∧ (gI σ9 a 28 = 0) ∧ (0 ≤ gI σ9 a 26) ∧ (gI σ9 a 26 ≤ 8) ∧ (0 ≤ gI σ9 a 27) ∧ (gI σ9 a 27 ≤ 12) ∧ (RSt σ9 a T 0 x9) ∧ (GP T 0 x9 (gI σ9 a 27) (gI σ9 a 26)) ∧ (gI σ9 a 11 = a110) ∧ (gI σ9 a 25 = 0) ∧ (gI σ9 a 29 = la) ∧ (aF σ9 (ad E a 1) = f1)) ?_ (0) σ_s_39 _ _ _ ⟨hO, hF, hM, hsr, hH, hS, lv_sub hl [0] rfl, by first | (dsimp only; omega) | omega, by first | (dsimp only; omega) | omega, by first | (dsimp only; omega) | omega, by first | (dsimp only; omega) | omega, by first | (dsimp only; omega) | omega, by first | (dsimp only; omega) | omega, hR_50, (hG_4.en (fun _ => by omega) (fun _ => by omega)), e_41, e_46, e_51, e_40⟩
  intro x9 σ_J_98 H locs ls hI9 ihJ_98
  obtain ⟨jqq96, ex9⟩ : ∃ z, z = x9 := ⟨_, rfl⟩
  subst ex9
  obtain ⟨hO, hF, hM, hsr, hH, hS, hl, J_98_0, J_98_1, J_98_2, J_98_3, J_98_4, J_98_5, J_98_6, J_98_7, J_98_8, J_98_9, J_98_10, J_98_11⟩ := hI9
  replace hl : lv_has ls 2 [(0, .ref a)] := hl
  replace J_98_0 : 0 ≤ gI σ_J_98 a 17 ∧ gI σ_J_98 a 17 ≤ gI σ_J_98 a 13 ∧ gI σ_J_98 a 13 ≤ gI σ a 11 := J_98_0
  replace J_98_1 : gI σ_J_98 a 28 = 0 := J_98_1
  replace J_98_2 : 0 ≤ gI σ_J_98 a 26 := J_98_2
  replace J_98_3 : gI σ_J_98 a 26 ≤ 8 := J_98_3
  replace J_98_4 : 0 ≤ gI σ_J_98 a 27 := J_98_4
  replace J_98_5 : gI σ_J_98 a 27 ≤ 12 := J_98_5
  replace J_98_6 : RSt σ_J_98 a T 0 jqq96 := J_98_6
  replace J_98_7 : GP T 0 jqq96 (gI σ_J_98 a 27) (gI σ_J_98 a 26) := J_98_7
  replace J_98_8 : gI σ_J_98 a 11 = a110 := J_98_8
  replace J_98_9 : gI σ_J_98 a 25 = 0 := J_98_9
  replace J_98_10 : gI σ_J_98 a 29 = la := J_98_10
  replace J_98_11 : aF σ_J_98 (ad E a 1) = f1 := J_98_11
  replace hVhR_50 := hid.mk hVhR_50
  have hVJ_98_6 := J_98_6.1
  try simp only [ne_eq, not_true_eq_false, not_false_eq_true, false_implies, true_implies, true_and, and_true, eq_self, false_or, or_false, false_and, and_false] at hVJ_98_6
  have e_99 : gI σ_J_98 a 19 = 0 := by omega
  refine lv_aload_n hx hb dX11_readPath_20 rfl (lv_at hl 0 rfl) ?_
  refine ok.getIc hO h_a (by decide) k13_19 e_99 (fun _ _ he hv kk => th_get (ci := 11) (C := RX11) (T := TX11) (N := 66) hx hb hts inX11 hown hK hH he rfl 19 (by decide) fl4 hv dX11_readPath_21 kk) ?_
  refine lv_if_ne (tgt := 52) hx hb dX11_readPath_24 (by decide) (fun c_100 => absurd (by decide) c_100) (fun _ => ?_)
  refine lv_aload_n hx hb dX11_readPath_27 rfl (lv_at hl 0 rfl) ?_
  refine ok.getI hO h_a (by decide) k13_14 (fun _ _ he hv kk => th_get (ci := 11) (C := RX11) (T := TX11) (N := 66) hx hb hts inX11 hown hK hH he rfl 14 (by decide) fl5 hv dX11_readPath_28 kk) (fun z_101 e_102 rz_101 lz_101 uz_101 => ?_)
  have ht_103 := J_98_6.t0
  refine lv_if_eq (tgt := 52) hx hb dX11_readPath_31 (by decide) (fun c_104 => ?_) (fun c_104 => ?_)
  · replace c_104 := (I_eq (a := z_101) (b := 0) rz_101 (show rng 0 from ⟨by decide, by decide⟩)).mp c_104
    exact th_vret hx hb hr hlocks hH hS ⟨hO, hF, hM, ⟨⟨by omega, by omega⟩, 0, jqq96, J_98_6, ⟨fun _ => by omega, GPe.of J_98_7⟩⟩⟩ dX11_readPath_52
  · replace c_104 := mt (I_eq (a := z_101) (b := 0) rz_101 (show rng 0 from ⟨by decide, by decide⟩)).mpr c_104
    refine lv_aload_n hx hb dX11_readPath_34 rfl (lv_at hl 0 rfl) ?_
    refine ok.getI hO h_a (by decide) k13_26 (fun _ _ he hv kk => th_get (ci := 11) (C := RX11) (T := TX11) (N := 66) hx hb hts inX11 hown hK hH he rfl 26 (by decide) fl0 hv dX11_readPath_35 kk) (fun z_105 e_106 rz_105 lz_105 uz_105 => ?_)
    refine lv_aload_n hx hb dX11_readPath_38 rfl (lv_at hl 0 rfl) ?_
    refine ok.getIc hO h_a (by decide) k13_29 J_98_10 (fun _ _ he hv kk => th_get (ci := 11) (C := RX11) (T := TX11) (N := 66) hx hb hts inX11 hown hK hH he rfl 29 (by decide) fl3 hv dX11_readPath_39 kk) ?_
    refine lv_icmp_eq (tgt := 52) hx hb dX11_readPath_42 (by decide) (fun c_107 => ?_) (fun c_107 => ?_)
    · replace c_107 := (I_eq (a := z_105) (b := la) rz_105 rla).mp c_107
      exfalso; omega
    · replace c_107 := mt (I_eq (a := z_105) (b := la) rz_105 rla).mpr c_107
      refine lv_aload_n hx hb dX11_readPath_45 rfl (lv_at hl 0 rfl) ?_
      obtain ⟨_, hc_108⟩ := hO.cell h_a (by decide) (ci := 11) rfl
      refine th_callv (va_runV (As := []) (rest := []) ⟨hx, hb, hml, hown, hts⟩ (n_readStep l G y b0 σ_J_98 E hO a h_a f1 J_98_11 Bf hsr T hSt 0 jqq96 J_98_6 (by omega) (by omega) (by omega) (by omega) (by omega) (by omega) (by omega) (J_98_7)) (cwV 0 hts gX11_readPath_X11_readStep rfl rfl rfl (by decide +kernel) ⟨Nat.le_of_ble_eq_true rfl, Nat.le_of_ble_eq_true rfl⟩) (th_PV hK hH rfl hc_108) rfl rfl hl.1 rfl (lv_room (Nat.le_of_ble_eq_true rfl)) dX11_readPath_46 ⟨Nat.le_of_ble_eq_true rfl, Nat.le_of_ble_eq_true rfl⟩) hS (fun σ_s_110 H locs hw_109 hH hS => ?_)
      obtain ⟨hO9, hF9, hM9, hw_109⟩ := hw_109
      replace hM := hM.tu hM9 (by decide)
      replace hF := hF.tu hF9 (by decide)
      have e_111 : gI σ_s_110 a 11 = a110 := (hM9.i (by decide)).trans J_98_8
      have e_112 : gI σ_s_110 a 25 = 0 := (hM9.i (by decide)).trans J_98_9
      have e_113 : gI σ_s_110 a 29 = la := (hM9.i (by decide)).trans J_98_10
      have e_114 : aF σ_s_110 (ad E a 1) = f1 := (hM9.a (by decide) (by decide)).trans J_98_11
      replace hsr := hsr.mv hM9 (by decide) (by decide) (by decide) (by decide) (by decide)
      replace hO := hO9
      replace hw_109 : ((gI σ_J_98 a 13 ≤ gI σ_s_110 a 13 ∧ gI σ_s_110 a 13 ≤ gI σ_J_98 a 11 ∧ 0 ≤ gI σ_s_110 a 17 ∧ gI σ_s_110 a 17 ≤ gI σ_s_110 a 13) ∧ gI σ_s_110 a 28 = 0 ∧ (0 ≤ gI σ_s_110 a 26 ∧ gI σ_s_110 a 26 ≤ 8)) ∧ ∃ c1 j1, RSt σ_s_110 a T c1 j1 ∧ jqq96 ≤ j1 ∧ (c1 = 0 → jqq96 < j1 ∧ 0 ≤ gI σ_s_110 a 27 ∧ gI σ_s_110 a 27 ≤ 12) ∧ GP T c1 j1 (gI σ_s_110 a 27) (gI σ_s_110 a 26) := hw_109
      replace hVJ_98_6 := hid.mk hVJ_98_6
      have hn_115 := hw_109.2
      replace hw_109 := hw_109.1
      obtain ⟨cc_116, jj_117, hR_118, hn_115⟩ := hn_115
      have hVhR_118 := hR_118.1
      rcases Classical.em (cc_116 = 0) with h0_119 | h0_119
      · subst h0_119
        try simp only [ne_eq, not_true_eq_false, not_false_eq_true, false_implies, true_implies, true_and, and_true, eq_self, false_or, or_false, false_and, and_false] at hVhR_118
        have e_120 : gI σ_s_110 a 19 = 0 := by omega
        have hqhn_115 := hn_115.1
        have hQhn_115 := hn_115.2.1
        have hG_121 := hn_115.2.2
        refine lv_goto (tgt := 20) hx hb dX11_readPath_49 (by decide) ?_
        exact ihJ_98 (jj_117) σ_s_110 _ _ _ (by first | (dsimp only; omega) | omega) ⟨hO, hF, hM, hsr, hH, hS, lv_sub hl [0] rfl, by first | (dsimp only; omega) | omega, by first | (dsimp only; omega) | omega, by first | (dsimp only; omega) | omega, by first | (dsimp only; omega) | omega, by first | (dsimp only; omega) | omega, by first | (dsimp only; omega) | omega, hR_118, (hG_121.en (fun _ => by omega) (fun _ => by omega)), e_111, e_112, e_113, e_114⟩
      · try simp only [h0_119, ne_eq, not_true_eq_false, not_false_eq_true, false_implies, true_implies, true_and, and_true, eq_self, false_or, or_false, false_and, and_false] at hVhR_118
        have hqhn_115 := hn_115.1
        have hQhn_115 := hn_115.2.1
        have hG_122 := hn_115.2.2
        refine lv_goto (tgt := 20) hx hb dX11_readPath_49 (by decide) ?_
        refine lv_aload_n hx hb dX11_readPath_20 rfl (lv_at hl 0 rfl) ?_
        refine ok.getI hO h_a (by decide) k13_19 (fun _ _ he hv kk => th_get (ci := 11) (C := RX11) (T := TX11) (N := 66) hx hb hts inX11 hown hK hH he rfl 19 (by decide) fl4 hv dX11_readPath_21 kk) (fun z_123 e_124 rz_123 lz_123 uz_123 => ?_)
        refine lv_if_ne (tgt := 52) hx hb dX11_readPath_24 (by decide) (fun _ => ?_) (fun c_125 => absurd ((I_eq (a := z_123) (b := 0) rz_123 (show rng 0 from ⟨by decide, by decide⟩)).mp c_125) (by omega))
        exact th_vret hx hb hr hlocks hH hS ⟨hO, hF, hM, ⟨⟨by omega, by omega⟩, cc_116, jj_117, hR_118, ⟨fun h9 => absurd h9 h0_119, GPe.of hG_122⟩⟩⟩ dX11_readPath_52
