set_option maxHeartbeats 20000000 in
set_option maxRecDepth 100000 in
theorem s6_readTest (l : Launch) (G : va_G) (y : Nat → ClassId) (b0 : Nat) (σ : th_M) (E : th_E) (hO : ok y E σ) (a : Nat) (h_a : kd E a = 11) (b : Nat) (h_b : kd E b = 4) (T : tkT) (fc jt : Int) (hT0 : TSt E σ (ad E a 0) T fc jt) (tt : Int) (hy0 : fc = 0) : Met l yX5_readTest wsX5_readTest ({ frames := 2, cells := 0, slots := 0, locals := 52 }) (th_P G y b0 σ [.ref a, .ref b]) (th_Qv G b0 (fun σ1 => ok y E σ1 ∧ fr [3, 4] E σ σ1 ∧ (∃ c1 j1, TSt E σ1 (ad E a 0) T c1 j1 ∧ (fc ≠ 0 → c1 = fc ∧ j1 = jt) ∧ (fc = 0 → jt ≤ j1 ∧ GS T [(4, 0)] jt tt [] c1 j1 tt) ∧ (gI σ b 13 < 12 → gI σ1 b 13 = gI σ b 13 + 1) ∧ gI σ1 b 3 = gI σ b 3))) 0 0 (th_A b0) := by
  refine Met.ofW (cc := cX5_readTest) (maxL := 4) (ret := none) (by decide) rfl ?_
  intro p e s m args below meth c s₁ B hml hv
  obtain ⟨rfl, hH, hK⟩ := hv
  have hx := B.exec
  have hb := B.bytes
  have hr := B.returns
  have hts := atoms_spec (ws := wsX5_readTest) B.pre
  have hown : s.vm.findClass RX5 = some m.cls := findClass_of_methodNamed B.named
  have hlocks := B.notSynchronized
  have h00 : b0 ≤ s.heap.size := hH.1
  have hS : va_S (th_A b0) s.heap s.heap [] := va_S.rf
  have hF : fr [3, 4] E σ σ := fr.rf
  have inX5 : ∀ w ∈ wsX50, w ∈ wsX5_readTest := by decide +kernel
  have inX8 : ∀ w ∈ wsX80, w ∈ wsX5_readTest := by decide +kernel
  have fl0 := hts (.fieldLink RX5 9 "NestQuery$PathReader" "tokens" "LNestQuery$Tokens;") (by decide +kernel)
  have fl1 := hts (.initialized RX10) (by decide +kernel)
  have fl2 := hts (.static yX10_firstLetterHighest) (by decide +kernel)
  have hl := lv_entry ([.ref a, .ref b]) (n := 4) (Nat.le_of_ble_eq_true rfl)
  rw [lg_entry_eq]
  generalize (lg_sl ([.ref a, .ref b]) ++ List.replicate (4 - (lg_sl ([.ref a, .ref b])).length) Slot.unset).toArray = ls at hl ⊢
  have hl : lv_has ls 4 [(0, .ref a), (1, .ref b)] := hl
  obtain ⟨b30, eb30, rb30, lb30, ub30⟩ := hO.gi h_b (by decide) k4_3
  obtain ⟨b130, eb130, rb130, lb130, ub130⟩ := hO.gi h_b (by decide) k4_13
  have hU0 := hT0.2.2
  have hkt : kd E (ad E a 0) = 3 := ok.pk hO h_a (by decide) k11_0 rfl
  have h0_1 : fc = 0 := by omega
  subst h0_1
  try simp only [ne_eq, not_true_eq_false, not_false_eq_true, false_implies, true_implies, true_and, and_true, eq_self, false_or, or_false, false_and, and_false] at hU0
  have e_2 : gI σ (ad E a 0) 7 = 0 := by omega
  have hk_3 : gI σ (ad E a 0) 6 = tK T jt := by omega
  have hG_4 := GS.start (T := T) (e := [(4, 0)]) (j := jt) (t := tt)
  refine lv_iconst (v := I 0) hx hb dX5_readTest_0 (by decide) ?_
  refine lv_istore_n (lv' := [(2, .int (I 0)), (0, .ref a), (1, .ref b)]) hx hb dX5_readTest_1 rfl hl (by decide) rfl (fun ls hl => ?_)
  refine th_loop (α := Int × Int) (pc := 2) (fun x9 => (tm T - x9.2).toNat) (fun x9 σ9 H9 l9 ls9 => ok y E σ9 ∧ fr [3, 4] E σ σ9 ∧ th_H G b0 σ9 H9 ∧ va_S (th_A b0) s.heap H9 l9 ∧ lv_has ls9 4 [(0, .ref a), (1, .ref b), (2, .int (I x9.1))] ∧ rng x9.1 ∧ (0 ≤ x9.1) ∧ (x9.1 ≤ 400) ∧ (x9.1 ≤ x9.2) ∧ (jt ≤ x9.2) ∧ (gI σ9 b 13 = gI σ b 13) ∧ (gI σ9 b 3 = gI σ b 3) ∧ (TSt E σ9 (ad E a 0) T 0 x9.2) ∧ (GS T [(4, 0)] jt tt [(4, 0)] 0 x9.2 tt) ∧ (gI σ9 b 3 = b30) ∧ (gI σ9 b 13 = b130)) ?_ (0, jt) σ _ _ _ ⟨hO, hF, hH, hS, lv_sub hl [1, 2, 0] rfl, (show rng 0 from ⟨by decide, by decide⟩), by first | (dsimp only; omega) | omega, by first | (dsimp only; omega) | omega, by first | (dsimp only; omega) | omega, by first | (dsimp only; omega) | omega, by first | (dsimp only; omega) | omega, by first | (dsimp only; omega) | omega, hT0, (hG_4.ec rfl rfl (fun _ => by omega)), eb30, eb130⟩
  intro x9 σ_J_485 H locs ls hI9 ihJ_485
  obtain ⟨v2q484, jqq483⟩ := x9
  obtain ⟨hO, hF, hH, hS, hl, rv2q484, J_485_0, J_485_1, J_485_2, J_485_3, J_485_4, J_485_5, J_485_6, J_485_7, J_485_8, J_485_9⟩ := hI9
  replace hl : lv_has ls 4 [(0, .ref a), (1, .ref b), (2, .int (I v2q484))] := hl
  replace rv2q484 : rng v2q484 := rv2q484
  replace J_485_0 : 0 ≤ v2q484 := J_485_0
  replace J_485_1 : v2q484 ≤ 400 := J_485_1
  replace J_485_2 : v2q484 ≤ jqq483 := J_485_2
  replace J_485_3 : jt ≤ jqq483 := J_485_3
  replace J_485_4 : gI σ_J_485 b 13 = gI σ b 13 := J_485_4
  replace J_485_5 : gI σ_J_485 b 3 = gI σ b 3 := J_485_5
  replace J_485_6 : TSt E σ_J_485 (ad E a 0) T 0 jqq483 := J_485_6
  replace J_485_7 : GS T [(4, 0)] jt tt [(4, 0)] 0 jqq483 tt := J_485_7
  replace J_485_8 : gI σ_J_485 b 3 = b30 := J_485_8
  replace J_485_9 : gI σ_J_485 b 13 = b130 := J_485_9
  try replace hU0 := hid.mk hU0
  have hUJ_485_6 := J_485_6.2.2
  have hfJ_485_6 := J_485_6.2.1 jqq483 (by have h9 := hUJ_485_6; omega) (by have h9 := hUJ_485_6; omega)
  try simp only [ne_eq, not_true_eq_false, not_false_eq_true, false_implies, true_implies, true_and, and_true, eq_self, false_or, or_false, false_and, and_false] at hUJ_485_6
  have e_486 : gI σ_J_485 (ad E a 0) 7 = 0 := by omega
  have hk_487 : gI σ_J_485 (ad E a 0) 6 = tK T jqq483 := by omega
  refine lv_aload_n hx hb dX5_readTest_2 rfl (lv_at hl 0 rfl) ?_
  have hp_488 : kd E (ad E a 0) = 3 := ok.pk hO h_a (by decide) k11_0 rfl
  refine ok.getR hO h_a (by decide) k11_0 (by decide) (fun _ _ he hv kk => th_get (ci := 5) (C := RX5) (T := TX5) (N := 1) hx hb hts inX5 hown hK hH he rfl 0 (by decide) fl0 hv dX5_readTest_3 kk) ?_
  refine ok.getI hO hp_488 (by decide) k3_6 (fun _ _ he hv kk => th_getN (ci := 8) (C := RX8) (T := TX8) (N := 9) hx hb hts inX8 hown hK hH he rfl 6 (by decide) (nl_5 hK) hv dX5_readTest_6 kk) (fun z_489 e_490 rz_489 lz_489 uz_489 => ?_)
  refine lv_bipush (v := I 46) hx hb dX5_readTest_9 (by decide) ?_
  refine lv_icmp_eq (tgt := 26) hx hb dX5_readTest_11 (by decide) (fun c_491 => ?_) (fun c_491 => ?_)
  · replace c_491 := (I_eq (a := z_489) (b := 46) rz_489 (show rng 46 from ⟨by decide, by decide⟩)).mp c_491
    refine lv_iload_n hx hb dX5_readTest_26 rfl (lv_at hl 2 rfl) ?_
    refine lv_sipush (v := I 400) hx hb dX5_readTest_27 (by decide) ?_
    refine lv_icmp_ge (tgt := 104) hx hb dX5_readTest_30 (by decide) (fun c_492 => ?_) (fun c_492 => ?_)
    · replace c_492 := (I_le (a := 400) (b := v2q484) (show rng 400 from ⟨by decide, by decide⟩) rv2q484).mp c_492
      exfalso; omega
    · replace c_492 := mt (I_le (a := 400) (b := v2q484) (show rng 400 from ⟨by decide, by decide⟩) rv2q484).mpr c_492
      refine lv_aload_n hx hb dX5_readTest_33 rfl (lv_at hl 0 rfl) ?_
      refine ok.getR hO h_a (by decide) k11_0 (by decide) (fun _ _ he hv kk => th_get (ci := 5) (C := RX5) (T := TX5) (N := 1) hx hb hts inX5 hown hK hH he rfl 0 (by decide) fl0 hv dX5_readTest_34 kk) ?_
      refine ok.getIc hO hp_488 (by decide) k3_6 e_490 (fun _ _ he hv kk => th_getN (ci := 8) (C := RX8) (T := TX8) (N := 9) hx hb hts inX8 hown hK hH he rfl 6 (by decide) (nl_5 hK) hv dX5_readTest_37 kk) ?_
      refine lv_bipush (v := I 46) hx hb dX5_readTest_40 (by decide) ?_
      refine lv_icmp_ne (tgt := 49) hx hb dX5_readTest_42 (by decide) (fun c_493 => ?_) (fun c_493 => ?_)
      · replace c_493 := mt (I_eq (a := z_489) (b := 46) rz_489 (show rng 46 from ⟨by decide, by decide⟩)).mpr c_493
        refine lv_iconst (v := I 0) hx hb dX5_readTest_49 (by decide) ?_
        refine lv_istore_n (lv' := [(3, .int (I 0)), (0, .ref a), (1, .ref b), (2, .int (I v2q484))]) hx hb dX5_readTest_50 rfl hl (by decide) rfl (fun ls hl => ?_)
        refine lv_aload_n hx hb dX5_readTest_51 rfl (lv_at hl 1 rfl) ?_
        refine ok.getR hO h_a (by decide) k11_0 (by decide) (fun _ _ he hv kk => th_get (ci := 5) (C := RX5) (T := TX5) (N := 1) hx hb hts inX5 hown hK hH he rfl 0 (by decide) fl0 hv dX5_readTest_52 kk) ?_
        obtain ⟨_, hc_494⟩ := hO.cell hp_488 (by decide) (ci := 8) rfl
        refine th_callv (va_runV (As := []) (rest := []) ⟨hx, hb, hml, hown, hts⟩ (f_step l G y b0 σ_J_485 E hO (ad E a 0) hp_488 T 0 jqq483 J_485_6) (cwV 0 hts gX5_readTest_X8_step rfl rfl rfl (by decide +kernel) ⟨Nat.le_of_ble_eq_true rfl, Nat.le_of_ble_eq_true rfl⟩) (th_PV hK hH rfl hc_494) rfl rfl hl.1 rfl (lv_room (Nat.le_of_ble_eq_true rfl)) dX5_readTest_55 ⟨Nat.le_of_ble_eq_true rfl, Nat.le_of_ble_eq_true rfl⟩) hS (fun σ_s_496 H locs hw_495 hH hS => ?_)
        obtain ⟨hO9, hF9, hw_495⟩ := hw_495
        have e_497 : gI σ_s_496 b 3 = b30 := (fr.ki hO hF9 h_b (by decide) (by decide) _).trans J_485_8
        have e_498 : gI σ_s_496 b 13 = b130 := (fr.ki hO hF9 h_b (by decide) (by decide) _).trans J_485_9
        replace hO := hO9
        replace hF := hF.tu hF9 (by decide)
        replace hw_495 : ∃ c1 j1, TSt E σ_s_496 (ad E a 0) T c1 j1 ∧ c1 = 0 ∧ ((0 : Int) ≠ 0 → j1 = jqq483) ∧ ((0 : Int) = 0 → tK T jqq483 ≠ 259 → j1 = jqq483 + 1) := hw_495
        obtain ⟨cc_499, jj_500, hT_501, hw_495⟩ := hw_495
        have hUhT_501 := hT_501.2.2
        try replace hUJ_485_6 := hid.mk hUJ_485_6
        have h0_502 : cc_499 = 0 := by omega
        subst h0_502
        try simp only [ne_eq, not_true_eq_false, not_false_eq_true, false_implies, true_implies, true_and, and_true, eq_self, false_or, or_false, false_and, and_false] at hUhT_501
        have e_503 : gI σ_s_496 (ad E a 0) 7 = 0 := by omega
        have hk_504 : gI σ_s_496 (ad E a 0) 6 = tK T jj_500 := by omega
        have hj_505 : jqq483 + 1 = jj_500 := by omega
        subst hj_505
        have hG_506 := J_485_7.lplace (by omega)
        refine lv_iload_n hx hb dX5_readTest_58 rfl (lv_at hl 0 rfl) ?_
        refine lv_if_eq (tgt := 77) hx hb dX5_readTest_59 (by decide) (fun _ => ?_) (fun c_507 => absurd (by decide) c_507)
        refine lv_aload_n hx hb dX5_readTest_77 rfl (lv_at hl 2 rfl) ?_
        refine lv_iconst (v := I 0) hx hb dX5_readTest_78 (by decide) ?_
        refine lv_aload_n hx hb dX5_readTest_79 rfl (lv_at hl 1 rfl) ?_
        refine ok.getR hO h_a (by decide) k11_0 (by decide) (fun _ _ he hv kk => th_get (ci := 5) (C := RX5) (T := TX5) (N := 1) hx hb hts inX5 hown hK hH he rfl 0 (by decide) fl0 hv dX5_readTest_80 kk) ?_
        obtain ⟨_, hc_508⟩ := hO.cell hp_488 (by decide) (ci := 8) rfl
        refine th_calli (va_runV (As := []) (rest := [.int (I 0), .ref b]) ⟨hx, hb, hml, hown, hts⟩ (f_number l G y b0 σ_s_496 E hO (ad E a 0) hp_488 T 0 (jqq483 + 1) hT_501) (cwV 0 hts gX5_readTest_X8_takeNumber rfl rfl rfl (by decide +kernel) ⟨Nat.le_of_ble_eq_true rfl, Nat.le_of_ble_eq_true rfl⟩) (th_PV hK hH rfl hc_508) rfl rfl hl.1 rfl (lv_room (Nat.le_of_ble_eq_true rfl)) dX5_readTest_83 ⟨Nat.le_of_ble_eq_true rfl, Nat.le_of_ble_eq_true rfl⟩) hS (fun z_511 σ_s_510 H locs rz_511 hw_509 hH hS => ?_)
        obtain ⟨hO9, hF9, hw_509⟩ := hw_509
        have e_512 : gI σ_s_510 b 3 = b30 := (fr.ki hO hF9 h_b (by decide) (by decide) _).trans e_497
        have e_513 : gI σ_s_510 b 13 = b130 := (fr.ki hO hF9 h_b (by decide) (by decide) _).trans e_498
        replace hO := hO9
        replace hF := hF.tu hF9 (by decide)
        replace hw_509 : ∃ c1 j1, TSt E σ_s_510 (ad E a 0) T c1 j1 ∧ ((0 : Int) ≠ 0 → c1 = 0 ∧ j1 = (jqq483 + 1)) ∧ ((0 : Int) = 0 → nuR T (jqq483 + 1) c1 j1) := hw_509
        obtain ⟨cc_514, jj_515, hT_516, hw_509⟩ := hw_509
        have hUhT_516 := hT_516.2.2
        try replace hUhT_501 := hid.mk hUhT_501
        try replace hw_495 := hid.mk hw_495
        have hb_517 := (hw_509.2 rfl).le
        rcases Classical.em (cc_514 = 0) with h0_518 | h0_518
        · subst h0_518
          try simp only [ne_eq, not_true_eq_false, not_false_eq_true, false_implies, true_implies, true_and, and_true, eq_self, false_or, or_false, false_and, and_false] at hUhT_516
          have e_519 : gI σ_s_510 (ad E a 0) 7 = 0 := by omega
          have hk_520 : gI σ_s_510 (ad E a 0) 6 = tK T jj_515 := by omega
          have hG_521 := hG_506.num (c2 := 0) (j2 := jj_515) (fun h9 => absurd rfl h9) (fun _ => hw_509.2 rfl)
          obtain ⟨_, hc_522⟩ := hO.cell h_b (by decide) (ci := 4) rfl
          refine th_callv (va_runV (As := [.int (I 0), .int (I z_511)]) (rest := []) ⟨hx, hb, hml, hown, hts⟩ (p6_addLittle l G y b0 σ_s_510 E hO b h_b 0 (show rng 0 from (show rng 0 from ⟨by decide, by decide⟩)) (by omega) (by omega) z_511 (show rng z_511 from rz_511)) (cwV 2 hts gX5_readTest_X4_addLittle rfl rfl rfl (by decide +kernel) ⟨Nat.le_of_ble_eq_true rfl, Nat.le_of_ble_eq_true rfl⟩) (th_PV hK hH rfl hc_522) rfl rfl hl.1 rfl (lv_room (Nat.le_of_ble_eq_true rfl)) dX5_readTest_86 ⟨Nat.le_of_ble_eq_true rfl, Nat.le_of_ble_eq_true rfl⟩) hS (fun σ_s_524 H locs hw_523 hH hS => ?_)
          obtain ⟨hO9, hF9, hw_523⟩ := hw_523
          have e_525 : gI σ_s_524 (ad E a 0) 7 = 0 := (fr.ki hO hF9 hkt (by decide) (by decide) _).trans e_519
          have hT_526 : TSt E σ_s_524 (ad E a 0) T 0 jj_515 := TSt.mv hO hF9 hkt (by decide) hT_516
          have hUhT_526 := hT_526.2.2
          replace hO := hO9
          replace hF := hF.tu hF9 (by decide)
          replace hw_523 : gI σ_s_524 b 13 = gI σ_s_510 b 13 ∧ gI σ_s_524 b 3 = gI σ_s_510 b 3 := hw_523
          try replace hUhT_516 := hid.mk hUhT_516
          try replace hw_509 := hid.mk hw_509
          try simp only [ne_eq, not_true_eq_false, not_false_eq_true, false_implies, true_implies, true_and, and_true, eq_self, false_or, or_false, false_and, and_false] at hUhT_526
          have e_527 : gI σ_s_524 (ad E a 0) 7 = 0 := by omega
          have hk_528 : gI σ_s_524 (ad E a 0) 6 = tK T jj_515 := by omega
          have e_529 : gI σ_s_524 b 3 = b30 := by omega
          have e_530 : gI σ_s_524 b 13 = b130 := by omega
          refine lv_aload_n hx hb dX5_readTest_89 rfl (lv_at hl 1 rfl) ?_
          refine ok.getR hO h_a (by decide) k11_0 (by decide) (fun _ _ he hv kk => th_get (ci := 5) (C := RX5) (T := TX5) (N := 1) hx hb hts inX5 hown hK hH he rfl 0 (by decide) fl0 hv dX5_readTest_90 kk) ?_
          refine lv_bipush (v := I 93) hx hb dX5_readTest_93 (by decide) ?_
          obtain ⟨_, hc_531⟩ := hO.cell hp_488 (by decide) (ci := 8) rfl
          refine th_callv (va_runV (As := [.int (I 93)]) (rest := []) ⟨hx, hb, hml, hown, hts⟩ (f_expect l G y b0 σ_s_524 E hO (ad E a 0) hp_488 93 (show rng 93 from (show rng 93 from ⟨by decide, by decide⟩)) (by omega) (by omega) T 0 jj_515 hT_526) (cwV 1 hts gX5_readTest_X8_expect rfl rfl rfl (by decide +kernel) ⟨Nat.le_of_ble_eq_true rfl, Nat.le_of_ble_eq_true rfl⟩) (th_PV hK hH rfl hc_531) rfl rfl hl.1 rfl (lv_room (Nat.le_of_ble_eq_true rfl)) dX5_readTest_95 ⟨Nat.le_of_ble_eq_true rfl, Nat.le_of_ble_eq_true rfl⟩) hS (fun σ_s_533 H locs hw_532 hH hS => ?_)
          obtain ⟨hO9, hF9, hw_532⟩ := hw_532
          have e_534 : gI σ_s_533 b 3 = b30 := (fr.ki hO hF9 h_b (by decide) (by decide) _).trans e_529
          have e_535 : gI σ_s_533 b 13 = b130 := (fr.ki hO hF9 h_b (by decide) (by decide) _).trans e_530
          replace hO := hO9
          replace hF := hF.tu hF9 (by decide)
          replace hw_532 : ∃ c1 j1, TSt E σ_s_533 (ad E a 0) T c1 j1 ∧ ((0 : Int) ≠ 0 → c1 = 0 ∧ j1 = jj_515) ∧ ((0 : Int) = 0 → (tK T jj_515 = 93 ∧ c1 = 0 ∧ j1 = jj_515 + 1) ∨ (tK T jj_515 ≠ 93 ∧ c1 = 1 ∧ j1 = jj_515)) := hw_532
          obtain ⟨cc_536, jj_537, hT_538, hw_532⟩ := hw_532
          have hUhT_538 := hT_538.2.2
          try replace hUhT_526 := hid.mk hUhT_526
          try replace hw_523 := hid.mk hw_523
          rcases Classical.em (cc_536 = 0) with h0_539 | h0_539
          · subst h0_539
            try simp only [ne_eq, not_true_eq_false, not_false_eq_true, false_implies, true_implies, true_and, and_true, eq_self, false_or, or_false, false_and, and_false] at hUhT_538
            have e_540 : gI σ_s_533 (ad E a 0) 7 = 0 := by omega
            have hk_541 : gI σ_s_533 (ad E a 0) 6 = tK T jj_537 := by omega
            have hj_542 : jj_515 + 1 = jj_537 := by omega
            subst hj_542
            have hG_543 := hG_521.need (c2 := 0) (j2 := (jj_515 + 1)) (fun h9 => absurd rfl h9) (fun _ => by omega)
            refine lv_iinc (v := I (v2q484 + 1)) (lv' := [(2, .int (I (v2q484 + 1))), (3, .int (I 0)), (0, .ref a), (1, .ref b)]) hx hb dX5_readTest_98 hl (k := 3) rfl (I_add _ _) (by decide) rfl (fun ls hl => ?_)
            refine lv_goto (tgt := 2) hx hb dX5_readTest_101 (by decide) ?_
            replace hl : lv_has ls 4 [(2, .int (I (v2q484 + 1))), (0, .ref a), (1, .ref b)] := lv_sub hl [0, 2, 3] rfl
            exact ihJ_485 (v2q484 + 1, (jj_515 + 1)) σ_s_533 _ _ _ (by first | (dsimp only; omega) | omega) ⟨hO, hF, hH, hS, lv_sub hl [1, 2, 0] rfl, ⟨by first | (dsimp only; omega) | omega, by first | (dsimp only; omega) | omega⟩, by first | (dsimp only; omega) | omega, by first | (dsimp only; omega) | omega, by first | (dsimp only; omega) | omega, by first | (dsimp only; omega) | omega, by first | (dsimp only; omega) | omega, by first | (dsimp only; omega) | omega, hT_538, (hG_543.ec rfl rfl (fun _ => by omega)), e_534, e_535⟩
          · try simp only [h0_539, ne_eq, not_true_eq_false, not_false_eq_true, false_implies, true_implies, true_and, and_true, eq_self, false_or, or_false, false_and, and_false] at hUhT_538
            have e_544 : gI σ_s_533 (ad E a 0) 6 = 260 := by omega
            have hj_545 : jj_515 = jj_537 := by omega
            subst hj_545
            have hG_546 := hG_521.need (c2 := cc_536) (j2 := jj_515) (fun h9 => absurd rfl h9) (fun _ => by omega)
            refine lv_iinc (v := I (v2q484 + 1)) (lv' := [(2, .int (I (v2q484 + 1))), (3, .int (I 0)), (0, .ref a), (1, .ref b)]) hx hb dX5_readTest_98 hl (k := 3) rfl (I_add _ _) (by decide) rfl (fun ls hl => ?_)
            refine lv_goto (tgt := 2) hx hb dX5_readTest_101 (by decide) ?_
            refine lv_aload_n hx hb dX5_readTest_2 rfl (lv_at hl 2 rfl) ?_
            refine ok.getR hO h_a (by decide) k11_0 (by decide) (fun _ _ he hv kk => th_get (ci := 5) (C := RX5) (T := TX5) (N := 1) hx hb hts inX5 hown hK hH he rfl 0 (by decide) fl0 hv dX5_readTest_3 kk) ?_
            refine ok.getIc hO hp_488 (by decide) k3_6 e_544 (fun _ _ he hv kk => th_getN (ci := 8) (C := RX8) (T := TX8) (N := 9) hx hb hts inX8 hown hK hH he rfl 6 (by decide) (nl_5 hK) hv dX5_readTest_6 kk) ?_
            refine lv_bipush (v := I 46) hx hb dX5_readTest_9 (by decide) ?_
            refine lv_icmp_eq (tgt := 26) hx hb dX5_readTest_11 (by decide) (fun c_547 => absurd c_547 (by decide)) (fun _ => ?_)
            refine lv_aload_n hx hb dX5_readTest_14 rfl (lv_at hl 2 rfl) ?_
            refine ok.getR hO h_a (by decide) k11_0 (by decide) (fun _ _ he hv kk => th_get (ci := 5) (C := RX5) (T := TX5) (N := 1) hx hb hts inX5 hown hK hH he rfl 0 (by decide) fl0 hv dX5_readTest_15 kk) ?_
            refine ok.getIc hO hp_488 (by decide) k3_6 e_544 (fun _ _ he hv kk => th_getN (ci := 8) (C := RX8) (T := TX8) (N := 9) hx hb hts inX8 hown hK hH he rfl 6 (by decide) (nl_5 hK) hv dX5_readTest_18 kk) ?_
            refine lv_bipush (v := I 91) hx hb dX5_readTest_21 (by decide) ?_
            refine lv_icmp_ne (tgt := 104) hx hb dX5_readTest_23 (by decide) (fun _ => ?_) (fun c_548 => absurd c_548 (by decide))
            refine lv_aload_n hx hb dX5_readTest_104 rfl (lv_at hl 2 rfl) ?_
            refine ok.getR hO h_a (by decide) k11_0 (by decide) (fun _ _ he hv kk => th_get (ci := 5) (C := RX5) (T := TX5) (N := 1) hx hb hts inX5 hown hK hH he rfl 0 (by decide) fl0 hv dX5_readTest_105 kk) ?_
            refine ok.getIc hO hp_488 (by decide) k3_6 e_544 (fun _ _ he hv kk => th_getN (ci := 8) (C := RX8) (T := TX8) (N := 9) hx hb hts inX8 hown hK hH he rfl 6 (by decide) (nl_5 hK) hv dX5_readTest_108 kk) ?_
            refine lv_istore_n (lv' := [(2, .int (I 260)), (3, .int (I 0)), (0, .ref a), (1, .ref b)]) hx hb dX5_readTest_111 rfl hl (by decide) rfl (fun ls hl => ?_)
            refine lv_iload_n hx hb dX5_readTest_112 rfl (lv_at hl 0 rfl) ?_
            refine lv_bipush (v := I 61) hx hb dX5_readTest_113 (by decide) ?_
            refine lv_icmp_eq (tgt := 138) hx hb dX5_readTest_115 (by decide) (fun c_549 => absurd c_549 (by decide)) (fun _ => ?_)
            refine lv_iload_n hx hb dX5_readTest_118 rfl (lv_at hl 0 rfl) ?_
            refine lv_bipush (v := I 60) hx hb dX5_readTest_119 (by decide) ?_
            refine lv_icmp_eq (tgt := 138) hx hb dX5_readTest_121 (by decide) (fun c_550 => absurd c_550 (by decide)) (fun _ => ?_)
            refine lv_iload_n hx hb dX5_readTest_124 rfl (lv_at hl 0 rfl) ?_
            refine lv_bipush (v := I 62) hx hb dX5_readTest_125 (by decide) ?_
            refine lv_icmp_eq (tgt := 138) hx hb dX5_readTest_127 (by decide) (fun c_551 => absurd c_551 (by decide)) (fun _ => ?_)
            refine lv_aload_n hx hb dX5_readTest_130 rfl (lv_at hl 3 rfl) ?_
            refine lv_iconst (v := I 0) hx hb dX5_readTest_131 (by decide) ?_
            refine lv_iconst (v := I (-1)) hx hb dX5_readTest_132 (by decide) ?_
            refine lv_iconst (v := I 0) hx hb dX5_readTest_133 (by decide) ?_
            obtain ⟨_, hc_552⟩ := hO.cell h_b (by decide) (ci := 4) rfl
            refine th_callv (va_runV (As := [.int (I 0), .int (I (-1)), .int (I 0)]) (rest := []) ⟨hx, hb, hml, hown, hts⟩ (p6_addTest l G y b0 σ_s_533 E hO b h_b 0 (show rng 0 from (show rng 0 from ⟨by decide, by decide⟩)) (-1) (show rng (-1) from (show rng (-1) from ⟨by decide, by decide⟩)) 0 (show rng 0 from (show rng 0 from ⟨by decide, by decide⟩))) (cwV 3 hts gX5_readTest_X4_addTest rfl rfl rfl (by decide +kernel) ⟨Nat.le_of_ble_eq_true rfl, Nat.le_of_ble_eq_true rfl⟩) (th_PV hK hH rfl hc_552) rfl rfl hl.1 rfl (lv_room (Nat.le_of_ble_eq_true rfl)) dX5_readTest_134 ⟨Nat.le_of_ble_eq_true rfl, Nat.le_of_ble_eq_true rfl⟩) hS (fun σ_s_554 H locs hw_553 hH hS => ?_)
            obtain ⟨hO9, hF9, hw_553⟩ := hw_553
            have e_555 : gI σ_s_554 (ad E a 0) 6 = 260 := (fr.ki hO hF9 hkt (by decide) (by decide) _).trans e_544
            have hT_556 : TSt E σ_s_554 (ad E a 0) T cc_536 jj_515 := TSt.mv hO hF9 hkt (by decide) hT_538
            have hUhT_556 := hT_556.2.2
            replace hO := hO9
            replace hF := hF.tu hF9 (by decide)
            replace hw_553 : (gI σ_s_533 b 13 < 12 → gI σ_s_554 b 13 = gI σ_s_533 b 13 + 1) ∧ (¬ gI σ_s_533 b 13 < 12 → gI σ_s_554 b 13 = gI σ_s_533 b 13) ∧ gI σ_s_554 b 3 = gI σ_s_533 b 3 := hw_553
            try replace hUhT_538 := hid.mk hUhT_538
            try replace hw_532 := hid.mk hw_532
            try simp only [h0_539, ne_eq, not_true_eq_false, not_false_eq_true, false_implies, true_implies, true_and, and_true, eq_self, false_or, or_false, false_and, and_false] at hUhT_556
            have e_557 : gI σ_s_554 (ad E a 0) 6 = 260 := by omega
            have e_558 : gI σ_s_554 b 3 = b30 := by omega
            obtain ⟨z_559, e_560, rz_559, lz_559, uz_559⟩ := hO.gi h_b (by decide) k4_13
            exact th_vret hx hb hr hlocks hH hS ⟨hO, hF, ⟨cc_536, jj_515, hT_556, (fun h9 => absurd rfl h9), fun _ => ⟨by omega, hG_546.was h0_539⟩, by omega, by omega⟩⟩ dX5_readTest_137
        · try simp only [h0_518, ne_eq, not_true_eq_false, not_false_eq_true, false_implies, true_implies, true_and, and_true, eq_self, false_or, or_false, false_and, and_false] at hUhT_516
          have e_561 : gI σ_s_510 (ad E a 0) 6 = 260 := by omega
          have hG_562 := hG_506.num (c2 := cc_514) (j2 := jj_515) (fun h9 => absurd rfl h9) (fun _ => hw_509.2 rfl)
          obtain ⟨_, hc_563⟩ := hO.cell h_b (by decide) (ci := 4) rfl
          refine th_callv (va_runV (As := [.int (I 0), .int (I z_511)]) (rest := []) ⟨hx, hb, hml, hown, hts⟩ (p6_addLittle l G y b0 σ_s_510 E hO b h_b 0 (show rng 0 from (show rng 0 from ⟨by decide, by decide⟩)) (by omega) (by omega) z_511 (show rng z_511 from rz_511)) (cwV 2 hts gX5_readTest_X4_addLittle rfl rfl rfl (by decide +kernel) ⟨Nat.le_of_ble_eq_true rfl, Nat.le_of_ble_eq_true rfl⟩) (th_PV hK hH rfl hc_563) rfl rfl hl.1 rfl (lv_room (Nat.le_of_ble_eq_true rfl)) dX5_readTest_86 ⟨Nat.le_of_ble_eq_true rfl, Nat.le_of_ble_eq_true rfl⟩) hS (fun σ_s_565 H locs hw_564 hH hS => ?_)
          obtain ⟨hO9, hF9, hw_564⟩ := hw_564
          have e_566 : gI σ_s_565 (ad E a 0) 6 = 260 := (fr.ki hO hF9 hkt (by decide) (by decide) _).trans e_561
          have hT_567 : TSt E σ_s_565 (ad E a 0) T cc_514 jj_515 := TSt.mv hO hF9 hkt (by decide) hT_516
          have hUhT_567 := hT_567.2.2
          replace hO := hO9
          replace hF := hF.tu hF9 (by decide)
          replace hw_564 : gI σ_s_565 b 13 = gI σ_s_510 b 13 ∧ gI σ_s_565 b 3 = gI σ_s_510 b 3 := hw_564
          try replace hUhT_516 := hid.mk hUhT_516
          try replace hw_509 := hid.mk hw_509
          try simp only [h0_518, ne_eq, not_true_eq_false, not_false_eq_true, false_implies, true_implies, true_and, and_true, eq_self, false_or, or_false, false_and, and_false] at hUhT_567
          have e_568 : gI σ_s_565 (ad E a 0) 6 = 260 := by omega
          have e_569 : gI σ_s_565 b 3 = b30 := by omega
          have e_570 : gI σ_s_565 b 13 = b130 := by omega
          refine lv_aload_n hx hb dX5_readTest_89 rfl (lv_at hl 1 rfl) ?_
          refine ok.getR hO h_a (by decide) k11_0 (by decide) (fun _ _ he hv kk => th_get (ci := 5) (C := RX5) (T := TX5) (N := 1) hx hb hts inX5 hown hK hH he rfl 0 (by decide) fl0 hv dX5_readTest_90 kk) ?_
          refine lv_bipush (v := I 93) hx hb dX5_readTest_93 (by decide) ?_
          obtain ⟨_, hc_571⟩ := hO.cell hp_488 (by decide) (ci := 8) rfl
          refine th_callv (va_runV (As := [.int (I 93)]) (rest := []) ⟨hx, hb, hml, hown, hts⟩ (f_expect l G y b0 σ_s_565 E hO (ad E a 0) hp_488 93 (show rng 93 from (show rng 93 from ⟨by decide, by decide⟩)) (by omega) (by omega) T cc_514 jj_515 hT_567) (cwV 1 hts gX5_readTest_X8_expect rfl rfl rfl (by decide +kernel) ⟨Nat.le_of_ble_eq_true rfl, Nat.le_of_ble_eq_true rfl⟩) (th_PV hK hH rfl hc_571) rfl rfl hl.1 rfl (lv_room (Nat.le_of_ble_eq_true rfl)) dX5_readTest_95 ⟨Nat.le_of_ble_eq_true rfl, Nat.le_of_ble_eq_true rfl⟩) hS (fun σ_s_573 H locs hw_572 hH hS => ?_)
          obtain ⟨hO9, hF9, hw_572⟩ := hw_572
          have e_574 : gI σ_s_573 b 3 = b30 := (fr.ki hO hF9 h_b (by decide) (by decide) _).trans e_569
          have e_575 : gI σ_s_573 b 13 = b130 := (fr.ki hO hF9 h_b (by decide) (by decide) _).trans e_570
          replace hO := hO9
          replace hF := hF.tu hF9 (by decide)
          replace hw_572 : ∃ c1 j1, TSt E σ_s_573 (ad E a 0) T c1 j1 ∧ (cc_514 ≠ 0 → c1 = cc_514 ∧ j1 = jj_515) ∧ (cc_514 = 0 → (tK T jj_515 = 93 ∧ c1 = 0 ∧ j1 = jj_515 + 1) ∨ (tK T jj_515 ≠ 93 ∧ c1 = 1 ∧ j1 = jj_515)) := hw_572
          obtain ⟨cc_576, jj_577, hT_578, hw_572⟩ := hw_572
          have hUhT_578 := hT_578.2.2
          try replace hUhT_567 := hid.mk hUhT_567
          try replace hw_564 := hid.mk hw_564
          have hc_579 : cc_514 = cc_576 := by omega
          subst hc_579
          have hc_580 : jj_515 = jj_577 := by omega
          subst hc_580
          try simp only [h0_518, ne_eq, not_true_eq_false, not_false_eq_true, false_implies, true_implies, true_and, and_true, eq_self, false_or, or_false, false_and, and_false] at hUhT_578
          have e_581 : gI σ_s_573 (ad E a 0) 6 = 260 := by omega
          refine lv_iinc (v := I (v2q484 + 1)) (lv' := [(2, .int (I (v2q484 + 1))), (3, .int (I 0)), (0, .ref a), (1, .ref b)]) hx hb dX5_readTest_98 hl (k := 3) rfl (I_add _ _) (by decide) rfl (fun ls hl => ?_)
          refine lv_goto (tgt := 2) hx hb dX5_readTest_101 (by decide) ?_
          refine lv_aload_n hx hb dX5_readTest_2 rfl (lv_at hl 2 rfl) ?_
          refine ok.getR hO h_a (by decide) k11_0 (by decide) (fun _ _ he hv kk => th_get (ci := 5) (C := RX5) (T := TX5) (N := 1) hx hb hts inX5 hown hK hH he rfl 0 (by decide) fl0 hv dX5_readTest_3 kk) ?_
          refine ok.getIc hO hp_488 (by decide) k3_6 e_581 (fun _ _ he hv kk => th_getN (ci := 8) (C := RX8) (T := TX8) (N := 9) hx hb hts inX8 hown hK hH he rfl 6 (by decide) (nl_5 hK) hv dX5_readTest_6 kk) ?_
          refine lv_bipush (v := I 46) hx hb dX5_readTest_9 (by decide) ?_
          refine lv_icmp_eq (tgt := 26) hx hb dX5_readTest_11 (by decide) (fun c_582 => absurd c_582 (by decide)) (fun _ => ?_)
          refine lv_aload_n hx hb dX5_readTest_14 rfl (lv_at hl 2 rfl) ?_
          refine ok.getR hO h_a (by decide) k11_0 (by decide) (fun _ _ he hv kk => th_get (ci := 5) (C := RX5) (T := TX5) (N := 1) hx hb hts inX5 hown hK hH he rfl 0 (by decide) fl0 hv dX5_readTest_15 kk) ?_
          refine ok.getIc hO hp_488 (by decide) k3_6 e_581 (fun _ _ he hv kk => th_getN (ci := 8) (C := RX8) (T := TX8) (N := 9) hx hb hts inX8 hown hK hH he rfl 6 (by decide) (nl_5 hK) hv dX5_readTest_18 kk) ?_
          refine lv_bipush (v := I 91) hx hb dX5_readTest_21 (by decide) ?_
          refine lv_icmp_ne (tgt := 104) hx hb dX5_readTest_23 (by decide) (fun _ => ?_) (fun c_583 => absurd c_583 (by decide))
          refine lv_aload_n hx hb dX5_readTest_104 rfl (lv_at hl 2 rfl) ?_
          refine ok.getR hO h_a (by decide) k11_0 (by decide) (fun _ _ he hv kk => th_get (ci := 5) (C := RX5) (T := TX5) (N := 1) hx hb hts inX5 hown hK hH he rfl 0 (by decide) fl0 hv dX5_readTest_105 kk) ?_
          refine ok.getIc hO hp_488 (by decide) k3_6 e_581 (fun _ _ he hv kk => th_getN (ci := 8) (C := RX8) (T := TX8) (N := 9) hx hb hts inX8 hown hK hH he rfl 6 (by decide) (nl_5 hK) hv dX5_readTest_108 kk) ?_
          refine lv_istore_n (lv' := [(2, .int (I 260)), (3, .int (I 0)), (0, .ref a), (1, .ref b)]) hx hb dX5_readTest_111 rfl hl (by decide) rfl (fun ls hl => ?_)
          refine lv_iload_n hx hb dX5_readTest_112 rfl (lv_at hl 0 rfl) ?_
          refine lv_bipush (v := I 61) hx hb dX5_readTest_113 (by decide) ?_
          refine lv_icmp_eq (tgt := 138) hx hb dX5_readTest_115 (by decide) (fun c_584 => absurd c_584 (by decide)) (fun _ => ?_)
          refine lv_iload_n hx hb dX5_readTest_118 rfl (lv_at hl 0 rfl) ?_
          refine lv_bipush (v := I 60) hx hb dX5_readTest_119 (by decide) ?_
          refine lv_icmp_eq (tgt := 138) hx hb dX5_readTest_121 (by decide) (fun c_585 => absurd c_585 (by decide)) (fun _ => ?_)
          refine lv_iload_n hx hb dX5_readTest_124 rfl (lv_at hl 0 rfl) ?_
          refine lv_bipush (v := I 62) hx hb dX5_readTest_125 (by decide) ?_
          refine lv_icmp_eq (tgt := 138) hx hb dX5_readTest_127 (by decide) (fun c_586 => absurd c_586 (by decide)) (fun _ => ?_)
          refine lv_aload_n hx hb dX5_readTest_130 rfl (lv_at hl 3 rfl) ?_
          refine lv_iconst (v := I 0) hx hb dX5_readTest_131 (by decide) ?_
          refine lv_iconst (v := I (-1)) hx hb dX5_readTest_132 (by decide) ?_
          refine lv_iconst (v := I 0) hx hb dX5_readTest_133 (by decide) ?_
          obtain ⟨_, hc_587⟩ := hO.cell h_b (by decide) (ci := 4) rfl
          refine th_callv (va_runV (As := [.int (I 0), .int (I (-1)), .int (I 0)]) (rest := []) ⟨hx, hb, hml, hown, hts⟩ (p6_addTest l G y b0 σ_s_573 E hO b h_b 0 (show rng 0 from (show rng 0 from ⟨by decide, by decide⟩)) (-1) (show rng (-1) from (show rng (-1) from ⟨by decide, by decide⟩)) 0 (show rng 0 from (show rng 0 from ⟨by decide, by decide⟩))) (cwV 3 hts gX5_readTest_X4_addTest rfl rfl rfl (by decide +kernel) ⟨Nat.le_of_ble_eq_true rfl, Nat.le_of_ble_eq_true rfl⟩) (th_PV hK hH rfl hc_587) rfl rfl hl.1 rfl (lv_room (Nat.le_of_ble_eq_true rfl)) dX5_readTest_134 ⟨Nat.le_of_ble_eq_true rfl, Nat.le_of_ble_eq_true rfl⟩) hS (fun σ_s_589 H locs hw_588 hH hS => ?_)
          obtain ⟨hO9, hF9, hw_588⟩ := hw_588
          have e_590 : gI σ_s_589 (ad E a 0) 6 = 260 := (fr.ki hO hF9 hkt (by decide) (by decide) _).trans e_581
          have hT_591 : TSt E σ_s_589 (ad E a 0) T cc_514 jj_515 := TSt.mv hO hF9 hkt (by decide) hT_578
          have hUhT_591 := hT_591.2.2
          replace hO := hO9
          replace hF := hF.tu hF9 (by decide)
          replace hw_588 : (gI σ_s_573 b 13 < 12 → gI σ_s_589 b 13 = gI σ_s_573 b 13 + 1) ∧ (¬ gI σ_s_573 b 13 < 12 → gI σ_s_589 b 13 = gI σ_s_573 b 13) ∧ gI σ_s_589 b 3 = gI σ_s_573 b 3 := hw_588
          try replace hUhT_578 := hid.mk hUhT_578
          try replace hw_572 := hid.mk hw_572
          try simp only [h0_518, ne_eq, not_true_eq_false, not_false_eq_true, false_implies, true_implies, true_and, and_true, eq_self, false_or, or_false, false_and, and_false] at hUhT_591
          have e_592 : gI σ_s_589 (ad E a 0) 6 = 260 := by omega
          have e_593 : gI σ_s_589 b 3 = b30 := by omega
          obtain ⟨z_594, e_595, rz_594, lz_594, uz_594⟩ := hO.gi h_b (by decide) k4_13
          exact th_vret hx hb hr hlocks hH hS ⟨hO, hF, ⟨cc_514, jj_515, hT_591, (fun h9 => absurd rfl h9), fun _ => ⟨by omega, hG_562.was h0_518⟩, by omega, by omega⟩⟩ dX5_readTest_137
      · replace c_493 := (I_eq (a := z_489) (b := 46) rz_489 (show rng 46 from ⟨by decide, by decide⟩)).mp c_493
        refine lv_iconst (v := I 1) hx hb dX5_readTest_45 (by decide) ?_
        refine lv_goto (tgt := 50) hx hb dX5_readTest_46 (by decide) ?_
        refine lv_istore_n (lv' := [(3, .int (I 1)), (0, .ref a), (1, .ref b), (2, .int (I v2q484))]) hx hb dX5_readTest_50 rfl hl (by decide) rfl (fun ls hl => ?_)
        refine lv_aload_n hx hb dX5_readTest_51 rfl (lv_at hl 1 rfl) ?_
        refine ok.getR hO h_a (by decide) k11_0 (by decide) (fun _ _ he hv kk => th_get (ci := 5) (C := RX5) (T := TX5) (N := 1) hx hb hts inX5 hown hK hH he rfl 0 (by decide) fl0 hv dX5_readTest_52 kk) ?_
        obtain ⟨_, hc_596⟩ := hO.cell hp_488 (by decide) (ci := 8) rfl
        refine th_callv (va_runV (As := []) (rest := []) ⟨hx, hb, hml, hown, hts⟩ (f_step l G y b0 σ_J_485 E hO (ad E a 0) hp_488 T 0 jqq483 J_485_6) (cwV 0 hts gX5_readTest_X8_step rfl rfl rfl (by decide +kernel) ⟨Nat.le_of_ble_eq_true rfl, Nat.le_of_ble_eq_true rfl⟩) (th_PV hK hH rfl hc_596) rfl rfl hl.1 rfl (lv_room (Nat.le_of_ble_eq_true rfl)) dX5_readTest_55 ⟨Nat.le_of_ble_eq_true rfl, Nat.le_of_ble_eq_true rfl⟩) hS (fun σ_s_598 H locs hw_597 hH hS => ?_)
        obtain ⟨hO9, hF9, hw_597⟩ := hw_597
        have e_599 : gI σ_s_598 b 3 = b30 := (fr.ki hO hF9 h_b (by decide) (by decide) _).trans J_485_8
        have e_600 : gI σ_s_598 b 13 = b130 := (fr.ki hO hF9 h_b (by decide) (by decide) _).trans J_485_9
        replace hO := hO9
        replace hF := hF.tu hF9 (by decide)
        replace hw_597 : ∃ c1 j1, TSt E σ_s_598 (ad E a 0) T c1 j1 ∧ c1 = 0 ∧ ((0 : Int) ≠ 0 → j1 = jqq483) ∧ ((0 : Int) = 0 → tK T jqq483 ≠ 259 → j1 = jqq483 + 1) := hw_597
        obtain ⟨cc_601, jj_602, hT_603, hw_597⟩ := hw_597
        have hUhT_603 := hT_603.2.2
        try replace hUJ_485_6 := hid.mk hUJ_485_6
        have h0_604 : cc_601 = 0 := by omega
        subst h0_604
        try simp only [ne_eq, not_true_eq_false, not_false_eq_true, false_implies, true_implies, true_and, and_true, eq_self, false_or, or_false, false_and, and_false] at hUhT_603
        have e_605 : gI σ_s_598 (ad E a 0) 7 = 0 := by omega
        have hk_606 : gI σ_s_598 (ad E a 0) 6 = tK T jj_602 := by omega
        have hj_607 : jqq483 + 1 = jj_602 := by omega
        subst hj_607
        have hG_608 := J_485_7.lkey (by omega)
        refine lv_iload_n hx hb dX5_readTest_58 rfl (lv_at hl 0 rfl) ?_
        refine lv_if_eq (tgt := 77) hx hb dX5_readTest_59 (by decide) (fun c_609 => absurd c_609 (by decide)) (fun _ => ?_)
        refine lv_aload_n hx hb dX5_readTest_62 rfl (lv_at hl 2 rfl) ?_
        refine lv_iconst (v := I 1) hx hb dX5_readTest_63 (by decide) ?_
        refine lv_aload_n hx hb dX5_readTest_64 rfl (lv_at hl 1 rfl) ?_
        refine ok.getR hO h_a (by decide) k11_0 (by decide) (fun _ _ he hv kk => th_get (ci := 5) (C := RX5) (T := TX5) (N := 1) hx hb hts inX5 hown hK hH he rfl 0 (by decide) fl0 hv dX5_readTest_65 kk) ?_
        obtain ⟨_, hc_610⟩ := hO.cell hp_488 (by decide) (ci := 8) rfl
        refine th_calli (va_runV (As := []) (rest := [.int (I 1), .ref b]) ⟨hx, hb, hml, hown, hts⟩ (f_letters l G y b0 σ_s_598 E hO (ad E a 0) hp_488 T 0 (jqq483 + 1) hT_603) (cwV 0 hts gX5_readTest_X8_takeLetters rfl rfl rfl (by decide +kernel) ⟨Nat.le_of_ble_eq_true rfl, Nat.le_of_ble_eq_true rfl⟩) (th_PV hK hH rfl hc_610) rfl rfl hl.1 rfl (lv_room (Nat.le_of_ble_eq_true rfl)) dX5_readTest_68 ⟨Nat.le_of_ble_eq_true rfl, Nat.le_of_ble_eq_true rfl⟩) hS (fun z_613 σ_s_612 H locs rz_613 hw_611 hH hS => ?_)
        obtain ⟨hO9, hF9, hw_611⟩ := hw_611
        have e_614 : gI σ_s_612 b 3 = b30 := (fr.ki hO hF9 h_b (by decide) (by decide) _).trans e_599
        have e_615 : gI σ_s_612 b 13 = b130 := (fr.ki hO hF9 h_b (by decide) (by decide) _).trans e_600
        replace hO := hO9
        replace hF := hF.tu hF9 (by decide)
        replace hw_611 : ∃ c1 j1, TSt E σ_s_612 (ad E a 0) T c1 j1 ∧ ((0 : Int) ≠ 0 → c1 = 0 ∧ j1 = (jqq483 + 1)) ∧ ((0 : Int) = 0 → (tK T (jqq483 + 1) ≠ 256 ∧ c1 = 1 ∧ j1 = (jqq483 + 1)) ∨ (tK T (jqq483 + 1) = 256 ∧ 6 < tL T (jqq483 + 1) ∧ c1 = 2 ∧ j1 = (jqq483 + 1)) ∨ (tK T (jqq483 + 1) = 256 ∧ tL T (jqq483 + 1) ≤ 6 ∧ c1 = 0 ∧ j1 = (jqq483 + 1) + 1 ∧ z_613 = tV T (jqq483 + 1))) := hw_611
        obtain ⟨cc_616, jj_617, hT_618, hw_611⟩ := hw_611
        have hUhT_618 := hT_618.2.2
        try replace hUhT_603 := hid.mk hUhT_603
        try replace hw_597 := hid.mk hw_597
        rcases Classical.em (cc_616 = 0) with h0_619 | h0_619
        · subst h0_619
          try simp only [ne_eq, not_true_eq_false, not_false_eq_true, false_implies, true_implies, true_and, and_true, eq_self, false_or, or_false, false_and, and_false] at hUhT_618
          have e_620 : gI σ_s_612 (ad E a 0) 7 = 0 := by omega
          have hk_621 : gI σ_s_612 (ad E a 0) 6 = tK T jj_617 := by omega
          have hj_622 : (jqq483 + 1) + 1 = jj_617 := by omega
          subst hj_622
          have hG_623 := hG_608.word (c2 := 0) (j2 := ((jqq483 + 1) + 1)) (fun h9 => absurd rfl h9) (fun _ => by omega)
          obtain ⟨_, hc_624⟩ := hO.cell h_b (by decide) (ci := 4) rfl
          refine th_callv (va_runV (As := [.int (I 1), .int (I z_613)]) (rest := []) ⟨hx, hb, hml, hown, hts⟩ (p6_addLittle l G y b0 σ_s_612 E hO b h_b 1 (show rng 1 from (show rng 1 from ⟨by decide, by decide⟩)) (by omega) (by omega) z_613 (show rng z_613 from rz_613)) (cwV 2 hts gX5_readTest_X4_addLittle rfl rfl rfl (by decide +kernel) ⟨Nat.le_of_ble_eq_true rfl, Nat.le_of_ble_eq_true rfl⟩) (th_PV hK hH rfl hc_624) rfl rfl hl.1 rfl (lv_room (Nat.le_of_ble_eq_true rfl)) dX5_readTest_71 ⟨Nat.le_of_ble_eq_true rfl, Nat.le_of_ble_eq_true rfl⟩) hS (fun σ_s_626 H locs hw_625 hH hS => ?_)
          obtain ⟨hO9, hF9, hw_625⟩ := hw_625
          have e_627 : gI σ_s_626 (ad E a 0) 7 = 0 := (fr.ki hO hF9 hkt (by decide) (by decide) _).trans e_620
          have hT_628 : TSt E σ_s_626 (ad E a 0) T 0 ((jqq483 + 1) + 1) := TSt.mv hO hF9 hkt (by decide) hT_618
          have hUhT_628 := hT_628.2.2
          replace hO := hO9
          replace hF := hF.tu hF9 (by decide)
          replace hw_625 : gI σ_s_626 b 13 = gI σ_s_612 b 13 ∧ gI σ_s_626 b 3 = gI σ_s_612 b 3 := hw_625
          try replace hUhT_618 := hid.mk hUhT_618
          try replace hw_611 := hid.mk hw_611
          try simp only [ne_eq, not_true_eq_false, not_false_eq_true, false_implies, true_implies, true_and, and_true, eq_self, false_or, or_false, false_and, and_false] at hUhT_628
          have e_629 : gI σ_s_626 (ad E a 0) 7 = 0 := by omega
          have hk_630 : gI σ_s_626 (ad E a 0) 6 = tK T ((jqq483 + 1) + 1) := by omega
          have e_631 : gI σ_s_626 b 3 = b30 := by omega
          have e_632 : gI σ_s_626 b 13 = b130 := by omega
          refine lv_goto (tgt := 98) hx hb dX5_readTest_74 (by decide) ?_
          refine lv_iinc (v := I (v2q484 + 1)) (lv' := [(2, .int (I (v2q484 + 1))), (3, .int (I 1)), (0, .ref a), (1, .ref b)]) hx hb dX5_readTest_98 hl (k := 3) rfl (I_add _ _) (by decide) rfl (fun ls hl => ?_)
          refine lv_goto (tgt := 2) hx hb dX5_readTest_101 (by decide) ?_
          replace hl : lv_has ls 4 [(2, .int (I (v2q484 + 1))), (0, .ref a), (1, .ref b)] := lv_sub hl [0, 2, 3] rfl
          exact ihJ_485 (v2q484 + 1, ((jqq483 + 1) + 1)) σ_s_626 _ _ _ (by first | (dsimp only; omega) | omega) ⟨hO, hF, hH, hS, lv_sub hl [1, 2, 0] rfl, ⟨by first | (dsimp only; omega) | omega, by first | (dsimp only; omega) | omega⟩, by first | (dsimp only; omega) | omega, by first | (dsimp only; omega) | omega, by first | (dsimp only; omega) | omega, by first | (dsimp only; omega) | omega, by first | (dsimp only; omega) | omega, by first | (dsimp only; omega) | omega, hT_628, (hG_623.ec rfl rfl (fun _ => by omega)), e_631, e_632⟩
        · try simp only [h0_619, ne_eq, not_true_eq_false, not_false_eq_true, false_implies, true_implies, true_and, and_true, eq_self, false_or, or_false, false_and, and_false] at hUhT_618
          have e_633 : gI σ_s_612 (ad E a 0) 6 = 260 := by omega
          have hj_634 : jqq483 + 1 = jj_617 := by omega
          subst hj_634
          have hG_635 := hG_608.word (c2 := cc_616) (j2 := (jqq483 + 1)) (fun h9 => absurd rfl h9) (fun _ => by omega)
          obtain ⟨_, hc_636⟩ := hO.cell h_b (by decide) (ci := 4) rfl
          refine th_callv (va_runV (As := [.int (I 1), .int (I z_613)]) (rest := []) ⟨hx, hb, hml, hown, hts⟩ (p6_addLittle l G y b0 σ_s_612 E hO b h_b 1 (show rng 1 from (show rng 1 from ⟨by decide, by decide⟩)) (by omega) (by omega) z_613 (show rng z_613 from rz_613)) (cwV 2 hts gX5_readTest_X4_addLittle rfl rfl rfl (by decide +kernel) ⟨Nat.le_of_ble_eq_true rfl, Nat.le_of_ble_eq_true rfl⟩) (th_PV hK hH rfl hc_636) rfl rfl hl.1 rfl (lv_room (Nat.le_of_ble_eq_true rfl)) dX5_readTest_71 ⟨Nat.le_of_ble_eq_true rfl, Nat.le_of_ble_eq_true rfl⟩) hS (fun σ_s_638 H locs hw_637 hH hS => ?_)
          obtain ⟨hO9, hF9, hw_637⟩ := hw_637
          have e_639 : gI σ_s_638 (ad E a 0) 6 = 260 := (fr.ki hO hF9 hkt (by decide) (by decide) _).trans e_633
          have hT_640 : TSt E σ_s_638 (ad E a 0) T cc_616 (jqq483 + 1) := TSt.mv hO hF9 hkt (by decide) hT_618
          have hUhT_640 := hT_640.2.2
          replace hO := hO9
          replace hF := hF.tu hF9 (by decide)
          replace hw_637 : gI σ_s_638 b 13 = gI σ_s_612 b 13 ∧ gI σ_s_638 b 3 = gI σ_s_612 b 3 := hw_637
          try replace hUhT_618 := hid.mk hUhT_618
          try replace hw_611 := hid.mk hw_611
          try simp only [h0_619, ne_eq, not_true_eq_false, not_false_eq_true, false_implies, true_implies, true_and, and_true, eq_self, false_or, or_false, false_and, and_false] at hUhT_640
          have e_641 : gI σ_s_638 (ad E a 0) 6 = 260 := by omega
          have e_642 : gI σ_s_638 b 3 = b30 := by omega
          have e_643 : gI σ_s_638 b 13 = b130 := by omega
          refine lv_goto (tgt := 98) hx hb dX5_readTest_74 (by decide) ?_
          refine lv_iinc (v := I (v2q484 + 1)) (lv' := [(2, .int (I (v2q484 + 1))), (3, .int (I 1)), (0, .ref a), (1, .ref b)]) hx hb dX5_readTest_98 hl (k := 3) rfl (I_add _ _) (by decide) rfl (fun ls hl => ?_)
          refine lv_goto (tgt := 2) hx hb dX5_readTest_101 (by decide) ?_
          refine lv_aload_n hx hb dX5_readTest_2 rfl (lv_at hl 2 rfl) ?_
          refine ok.getR hO h_a (by decide) k11_0 (by decide) (fun _ _ he hv kk => th_get (ci := 5) (C := RX5) (T := TX5) (N := 1) hx hb hts inX5 hown hK hH he rfl 0 (by decide) fl0 hv dX5_readTest_3 kk) ?_
          refine ok.getIc hO hp_488 (by decide) k3_6 e_641 (fun _ _ he hv kk => th_getN (ci := 8) (C := RX8) (T := TX8) (N := 9) hx hb hts inX8 hown hK hH he rfl 6 (by decide) (nl_5 hK) hv dX5_readTest_6 kk) ?_
          refine lv_bipush (v := I 46) hx hb dX5_readTest_9 (by decide) ?_
          refine lv_icmp_eq (tgt := 26) hx hb dX5_readTest_11 (by decide) (fun c_644 => absurd c_644 (by decide)) (fun _ => ?_)
          refine lv_aload_n hx hb dX5_readTest_14 rfl (lv_at hl 2 rfl) ?_
          refine ok.getR hO h_a (by decide) k11_0 (by decide) (fun _ _ he hv kk => th_get (ci := 5) (C := RX5) (T := TX5) (N := 1) hx hb hts inX5 hown hK hH he rfl 0 (by decide) fl0 hv dX5_readTest_15 kk) ?_
          refine ok.getIc hO hp_488 (by decide) k3_6 e_641 (fun _ _ he hv kk => th_getN (ci := 8) (C := RX8) (T := TX8) (N := 9) hx hb hts inX8 hown hK hH he rfl 6 (by decide) (nl_5 hK) hv dX5_readTest_18 kk) ?_
          refine lv_bipush (v := I 91) hx hb dX5_readTest_21 (by decide) ?_
          refine lv_icmp_ne (tgt := 104) hx hb dX5_readTest_23 (by decide) (fun _ => ?_) (fun c_645 => absurd c_645 (by decide))
          refine lv_aload_n hx hb dX5_readTest_104 rfl (lv_at hl 2 rfl) ?_
          refine ok.getR hO h_a (by decide) k11_0 (by decide) (fun _ _ he hv kk => th_get (ci := 5) (C := RX5) (T := TX5) (N := 1) hx hb hts inX5 hown hK hH he rfl 0 (by decide) fl0 hv dX5_readTest_105 kk) ?_
          refine ok.getIc hO hp_488 (by decide) k3_6 e_641 (fun _ _ he hv kk => th_getN (ci := 8) (C := RX8) (T := TX8) (N := 9) hx hb hts inX8 hown hK hH he rfl 6 (by decide) (nl_5 hK) hv dX5_readTest_108 kk) ?_
          refine lv_istore_n (lv' := [(2, .int (I 260)), (3, .int (I 1)), (0, .ref a), (1, .ref b)]) hx hb dX5_readTest_111 rfl hl (by decide) rfl (fun ls hl => ?_)
          refine lv_iload_n hx hb dX5_readTest_112 rfl (lv_at hl 0 rfl) ?_
          refine lv_bipush (v := I 61) hx hb dX5_readTest_113 (by decide) ?_
          refine lv_icmp_eq (tgt := 138) hx hb dX5_readTest_115 (by decide) (fun c_646 => absurd c_646 (by decide)) (fun _ => ?_)
          refine lv_iload_n hx hb dX5_readTest_118 rfl (lv_at hl 0 rfl) ?_
          refine lv_bipush (v := I 60) hx hb dX5_readTest_119 (by decide) ?_
          refine lv_icmp_eq (tgt := 138) hx hb dX5_readTest_121 (by decide) (fun c_647 => absurd c_647 (by decide)) (fun _ => ?_)
          refine lv_iload_n hx hb dX5_readTest_124 rfl (lv_at hl 0 rfl) ?_
          refine lv_bipush (v := I 62) hx hb dX5_readTest_125 (by decide) ?_
          refine lv_icmp_eq (tgt := 138) hx hb dX5_readTest_127 (by decide) (fun c_648 => absurd c_648 (by decide)) (fun _ => ?_)
          refine lv_aload_n hx hb dX5_readTest_130 rfl (lv_at hl 3 rfl) ?_
          refine lv_iconst (v := I 0) hx hb dX5_readTest_131 (by decide) ?_
          refine lv_iconst (v := I (-1)) hx hb dX5_readTest_132 (by decide) ?_
          refine lv_iconst (v := I 0) hx hb dX5_readTest_133 (by decide) ?_
          obtain ⟨_, hc_649⟩ := hO.cell h_b (by decide) (ci := 4) rfl
          refine th_callv (va_runV (As := [.int (I 0), .int (I (-1)), .int (I 0)]) (rest := []) ⟨hx, hb, hml, hown, hts⟩ (p6_addTest l G y b0 σ_s_638 E hO b h_b 0 (show rng 0 from (show rng 0 from ⟨by decide, by decide⟩)) (-1) (show rng (-1) from (show rng (-1) from ⟨by decide, by decide⟩)) 0 (show rng 0 from (show rng 0 from ⟨by decide, by decide⟩))) (cwV 3 hts gX5_readTest_X4_addTest rfl rfl rfl (by decide +kernel) ⟨Nat.le_of_ble_eq_true rfl, Nat.le_of_ble_eq_true rfl⟩) (th_PV hK hH rfl hc_649) rfl rfl hl.1 rfl (lv_room (Nat.le_of_ble_eq_true rfl)) dX5_readTest_134 ⟨Nat.le_of_ble_eq_true rfl, Nat.le_of_ble_eq_true rfl⟩) hS (fun σ_s_651 H locs hw_650 hH hS => ?_)
          obtain ⟨hO9, hF9, hw_650⟩ := hw_650
          have e_652 : gI σ_s_651 (ad E a 0) 6 = 260 := (fr.ki hO hF9 hkt (by decide) (by decide) _).trans e_641
          have hT_653 : TSt E σ_s_651 (ad E a 0) T cc_616 (jqq483 + 1) := TSt.mv hO hF9 hkt (by decide) hT_640
          have hUhT_653 := hT_653.2.2
          replace hO := hO9
          replace hF := hF.tu hF9 (by decide)
          replace hw_650 : (gI σ_s_638 b 13 < 12 → gI σ_s_651 b 13 = gI σ_s_638 b 13 + 1) ∧ (¬ gI σ_s_638 b 13 < 12 → gI σ_s_651 b 13 = gI σ_s_638 b 13) ∧ gI σ_s_651 b 3 = gI σ_s_638 b 3 := hw_650
          try replace hUhT_640 := hid.mk hUhT_640
          try replace hw_637 := hid.mk hw_637
          try simp only [h0_619, ne_eq, not_true_eq_false, not_false_eq_true, false_implies, true_implies, true_and, and_true, eq_self, false_or, or_false, false_and, and_false] at hUhT_653
          have e_654 : gI σ_s_651 (ad E a 0) 6 = 260 := by omega
          have e_655 : gI σ_s_651 b 3 = b30 := by omega
          obtain ⟨z_656, e_657, rz_656, lz_656, uz_656⟩ := hO.gi h_b (by decide) k4_13
          exact th_vret hx hb hr hlocks hH hS ⟨hO, hF, ⟨cc_616, (jqq483 + 1), hT_653, (fun h9 => absurd rfl h9), fun _ => ⟨by omega, hG_635.was h0_619⟩, by omega, by omega⟩⟩ dX5_readTest_137
  · replace c_491 := mt (I_eq (a := z_489) (b := 46) rz_489 (show rng 46 from ⟨by decide, by decide⟩)).mpr c_491
    refine lv_aload_n hx hb dX5_readTest_14 rfl (lv_at hl 0 rfl) ?_
    refine ok.getR hO h_a (by decide) k11_0 (by decide) (fun _ _ he hv kk => th_get (ci := 5) (C := RX5) (T := TX5) (N := 1) hx hb hts inX5 hown hK hH he rfl 0 (by decide) fl0 hv dX5_readTest_15 kk) ?_
    refine ok.getIc hO hp_488 (by decide) k3_6 e_490 (fun _ _ he hv kk => th_getN (ci := 8) (C := RX8) (T := TX8) (N := 9) hx hb hts inX8 hown hK hH he rfl 6 (by decide) (nl_5 hK) hv dX5_readTest_18 kk) ?_
    refine lv_bipush (v := I 91) hx hb dX5_readTest_21 (by decide) ?_
    refine lv_icmp_ne (tgt := 104) hx hb dX5_readTest_23 (by decide) (fun c_658 => ?_) (fun c_658 => ?_)
    · replace c_658 := mt (I_eq (a := z_489) (b := 91) rz_489 (show rng 91 from ⟨by decide, by decide⟩)).mpr c_658
      refine lv_aload_n hx hb dX5_readTest_104 rfl (lv_at hl 0 rfl) ?_
      refine ok.getR hO h_a (by decide) k11_0 (by decide) (fun _ _ he hv kk => th_get (ci := 5) (C := RX5) (T := TX5) (N := 1) hx hb hts inX5 hown hK hH he rfl 0 (by decide) fl0 hv dX5_readTest_105 kk) ?_
      refine ok.getIc hO hp_488 (by decide) k3_6 e_490 (fun _ _ he hv kk => th_getN (ci := 8) (C := RX8) (T := TX8) (N := 9) hx hb hts inX8 hown hK hH he rfl 6 (by decide) (nl_5 hK) hv dX5_readTest_108 kk) ?_
      refine lv_istore_n (lv' := [(2, .int (I z_489)), (0, .ref a), (1, .ref b)]) hx hb dX5_readTest_111 rfl hl (by decide) rfl (fun ls hl => ?_)
      refine lv_iload_n hx hb dX5_readTest_112 rfl (lv_at hl 0 rfl) ?_
      refine lv_bipush (v := I 61) hx hb dX5_readTest_113 (by decide) ?_
      refine lv_icmp_eq (tgt := 138) hx hb dX5_readTest_115 (by decide) (fun c_659 => ?_) (fun c_659 => ?_)
      · replace c_659 := (I_eq (a := z_489) (b := 61) rz_489 (show rng 61 from ⟨by decide, by decide⟩)).mp c_659
        refine lv_aload_n hx hb dX5_readTest_138 rfl (lv_at hl 1 rfl) ?_
        refine ok.getR hO h_a (by decide) k11_0 (by decide) (fun _ _ he hv kk => th_get (ci := 5) (C := RX5) (T := TX5) (N := 1) hx hb hts inX5 hown hK hH he rfl 0 (by decide) fl0 hv dX5_readTest_139 kk) ?_
        obtain ⟨_, hc_660⟩ := hO.cell hp_488 (by decide) (ci := 8) rfl
        refine th_callv (va_runV (As := []) (rest := []) ⟨hx, hb, hml, hown, hts⟩ (f_step l G y b0 σ_J_485 E hO (ad E a 0) hp_488 T 0 jqq483 J_485_6) (cwV 0 hts gX5_readTest_X8_step rfl rfl rfl (by decide +kernel) ⟨Nat.le_of_ble_eq_true rfl, Nat.le_of_ble_eq_true rfl⟩) (th_PV hK hH rfl hc_660) rfl rfl hl.1 rfl (lv_room (Nat.le_of_ble_eq_true rfl)) dX5_readTest_142 ⟨Nat.le_of_ble_eq_true rfl, Nat.le_of_ble_eq_true rfl⟩) hS (fun σ_s_662 H locs hw_661 hH hS => ?_)
        obtain ⟨hO9, hF9, hw_661⟩ := hw_661
        have e_663 : gI σ_s_662 b 3 = b30 := (fr.ki hO hF9 h_b (by decide) (by decide) _).trans J_485_8
        have e_664 : gI σ_s_662 b 13 = b130 := (fr.ki hO hF9 h_b (by decide) (by decide) _).trans J_485_9
        replace hO := hO9
        replace hF := hF.tu hF9 (by decide)
        replace hw_661 : ∃ c1 j1, TSt E σ_s_662 (ad E a 0) T c1 j1 ∧ c1 = 0 ∧ ((0 : Int) ≠ 0 → j1 = jqq483) ∧ ((0 : Int) = 0 → tK T jqq483 ≠ 259 → j1 = jqq483 + 1) := hw_661
        obtain ⟨cc_665, jj_666, hT_667, hw_661⟩ := hw_661
        have hUhT_667 := hT_667.2.2
        try replace hUJ_485_6 := hid.mk hUJ_485_6
        have h0_668 : cc_665 = 0 := by omega
        subst h0_668
        try simp only [ne_eq, not_true_eq_false, not_false_eq_true, false_implies, true_implies, true_and, and_true, eq_self, false_or, or_false, false_and, and_false] at hUhT_667
        have e_669 : gI σ_s_662 (ad E a 0) 7 = 0 := by omega
        have hk_670 : gI σ_s_662 (ad E a 0) 6 = tK T jj_666 := by omega
        have hj_671 : jqq483 + 1 = jj_666 := by omega
        subst hj_671
        refine lv_aload_n hx hb dX5_readTest_145 rfl (lv_at hl 1 rfl) ?_
        refine ok.getR hO h_a (by decide) k11_0 (by decide) (fun _ _ he hv kk => th_get (ci := 5) (C := RX5) (T := TX5) (N := 1) hx hb hts inX5 hown hK hH he rfl 0 (by decide) fl0 hv dX5_readTest_146 kk) ?_
        refine ok.getI hO hp_488 (by decide) k3_6 (fun _ _ he hv kk => th_getN (ci := 8) (C := RX8) (T := TX8) (N := 9) hx hb hts inX8 hown hK hH he rfl 6 (by decide) (nl_5 hK) hv dX5_readTest_149 kk) (fun z_672 e_673 rz_672 lz_672 uz_672 => ?_)
        refine lv_sipush (v := I 256) hx hb dX5_readTest_152 (by decide) ?_
        refine lv_icmp_ne (tgt := 177) hx hb dX5_readTest_155 (by decide) (fun c_674 => ?_) (fun c_674 => ?_)
        · replace c_674 := mt (I_eq (a := z_672) (b := 256) rz_672 (show rng 256 from ⟨by decide, by decide⟩)).mpr c_674
          have hG_675 := J_485_7.lnum (by omega) (by omega)
          refine lv_aload_n hx hb dX5_readTest_177 rfl (lv_at hl 2 rfl) ?_
          refine lv_iload_n hx hb dX5_readTest_178 rfl (lv_at hl 0 rfl) ?_
          refine lv_iconst (v := I 0) hx hb dX5_readTest_179 (by decide) ?_
          refine lv_aload_n hx hb dX5_readTest_180 rfl (lv_at hl 1 rfl) ?_
          refine ok.getR hO h_a (by decide) k11_0 (by decide) (fun _ _ he hv kk => th_get (ci := 5) (C := RX5) (T := TX5) (N := 1) hx hb hts inX5 hown hK hH he rfl 0 (by decide) fl0 hv dX5_readTest_181 kk) ?_
          obtain ⟨_, hc_676⟩ := hO.cell hp_488 (by decide) (ci := 8) rfl
          refine th_calli (va_runV (As := []) (rest := [.int (I 0), .int (I z_489), .ref b]) ⟨hx, hb, hml, hown, hts⟩ (f_number l G y b0 σ_s_662 E hO (ad E a 0) hp_488 T 0 (jqq483 + 1) hT_667) (cwV 0 hts gX5_readTest_X8_takeNumber rfl rfl rfl (by decide +kernel) ⟨Nat.le_of_ble_eq_true rfl, Nat.le_of_ble_eq_true rfl⟩) (th_PV hK hH rfl hc_676) rfl rfl hl.1 rfl (lv_room (Nat.le_of_ble_eq_true rfl)) dX5_readTest_184 ⟨Nat.le_of_ble_eq_true rfl, Nat.le_of_ble_eq_true rfl⟩) hS (fun z_679 σ_s_678 H locs rz_679 hw_677 hH hS => ?_)
          obtain ⟨hO9, hF9, hw_677⟩ := hw_677
          have e_680 : gI σ_s_678 b 3 = b30 := (fr.ki hO hF9 h_b (by decide) (by decide) _).trans e_663
          have e_681 : gI σ_s_678 b 13 = b130 := (fr.ki hO hF9 h_b (by decide) (by decide) _).trans e_664
          replace hO := hO9
          replace hF := hF.tu hF9 (by decide)
          replace hw_677 : ∃ c1 j1, TSt E σ_s_678 (ad E a 0) T c1 j1 ∧ ((0 : Int) ≠ 0 → c1 = 0 ∧ j1 = (jqq483 + 1)) ∧ ((0 : Int) = 0 → nuR T (jqq483 + 1) c1 j1) := hw_677
          obtain ⟨cc_682, jj_683, hT_684, hw_677⟩ := hw_677
          have hUhT_684 := hT_684.2.2
          try replace hUhT_667 := hid.mk hUhT_667
          try replace hw_661 := hid.mk hw_661
          have hb_685 := (hw_677.2 rfl).le
          rcases Classical.em (cc_682 = 0) with h0_686 | h0_686
          · subst h0_686
            try simp only [ne_eq, not_true_eq_false, not_false_eq_true, false_implies, true_implies, true_and, and_true, eq_self, false_or, or_false, false_and, and_false] at hUhT_684
            have e_687 : gI σ_s_678 (ad E a 0) 7 = 0 := by omega
            have hk_688 : gI σ_s_678 (ad E a 0) 6 = tK T jj_683 := by omega
            have hG_689 := hG_675.num (c2 := 0) (j2 := jj_683) (fun h9 => absurd rfl h9) (fun _ => hw_677.2 rfl)
            obtain ⟨_, hc_690⟩ := hO.cell h_b (by decide) (ci := 4) rfl
            refine th_callv (va_runV (As := [.int (I z_489), .int (I 0), .int (I z_679)]) (rest := []) ⟨hx, hb, hml, hown, hts⟩ (p6_addTest l G y b0 σ_s_678 E hO b h_b z_489 (show rng z_489 from rz_489) 0 (show rng 0 from (show rng 0 from ⟨by decide, by decide⟩)) z_679 (show rng z_679 from rz_679)) (cwV 3 hts gX5_readTest_X4_addTest rfl rfl rfl (by decide +kernel) ⟨Nat.le_of_ble_eq_true rfl, Nat.le_of_ble_eq_true rfl⟩) (th_PV hK hH rfl hc_690) rfl rfl hl.1 rfl (lv_room (Nat.le_of_ble_eq_true rfl)) dX5_readTest_187 ⟨Nat.le_of_ble_eq_true rfl, Nat.le_of_ble_eq_true rfl⟩) hS (fun σ_s_692 H locs hw_691 hH hS => ?_)
            obtain ⟨hO9, hF9, hw_691⟩ := hw_691
            have e_693 : gI σ_s_692 (ad E a 0) 7 = 0 := (fr.ki hO hF9 hkt (by decide) (by decide) _).trans e_687
            have hT_694 : TSt E σ_s_692 (ad E a 0) T 0 jj_683 := TSt.mv hO hF9 hkt (by decide) hT_684
            have hUhT_694 := hT_694.2.2
            replace hO := hO9
            replace hF := hF.tu hF9 (by decide)
            replace hw_691 : (gI σ_s_678 b 13 < 12 → gI σ_s_692 b 13 = gI σ_s_678 b 13 + 1) ∧ (¬ gI σ_s_678 b 13 < 12 → gI σ_s_692 b 13 = gI σ_s_678 b 13) ∧ gI σ_s_692 b 3 = gI σ_s_678 b 3 := hw_691
            try replace hUhT_684 := hid.mk hUhT_684
            try replace hw_677 := hid.mk hw_677
            try simp only [ne_eq, not_true_eq_false, not_false_eq_true, false_implies, true_implies, true_and, and_true, eq_self, false_or, or_false, false_and, and_false] at hUhT_694
            have e_695 : gI σ_s_692 (ad E a 0) 7 = 0 := by omega
            have hk_696 : gI σ_s_692 (ad E a 0) 6 = tK T jj_683 := by omega
            have e_697 : gI σ_s_692 b 3 = b30 := by omega
            obtain ⟨z_698, e_699, rz_698, lz_698, uz_698⟩ := hO.gi h_b (by decide) k4_13
            exact th_vret hx hb hr hlocks hH hS ⟨hO, hF, ⟨0, jj_683, hT_694, (fun h9 => absurd rfl h9), fun _ => ⟨by omega, hG_689⟩, by omega, by omega⟩⟩ dX5_readTest_190
          · try simp only [h0_686, ne_eq, not_true_eq_false, not_false_eq_true, false_implies, true_implies, true_and, and_true, eq_self, false_or, or_false, false_and, and_false] at hUhT_684
            have e_700 : gI σ_s_678 (ad E a 0) 6 = 260 := by omega
            have hG_701 := hG_675.num (c2 := cc_682) (j2 := jj_683) (fun h9 => absurd rfl h9) (fun _ => hw_677.2 rfl)
            obtain ⟨_, hc_702⟩ := hO.cell h_b (by decide) (ci := 4) rfl
            refine th_callv (va_runV (As := [.int (I z_489), .int (I 0), .int (I z_679)]) (rest := []) ⟨hx, hb, hml, hown, hts⟩ (p6_addTest l G y b0 σ_s_678 E hO b h_b z_489 (show rng z_489 from rz_489) 0 (show rng 0 from (show rng 0 from ⟨by decide, by decide⟩)) z_679 (show rng z_679 from rz_679)) (cwV 3 hts gX5_readTest_X4_addTest rfl rfl rfl (by decide +kernel) ⟨Nat.le_of_ble_eq_true rfl, Nat.le_of_ble_eq_true rfl⟩) (th_PV hK hH rfl hc_702) rfl rfl hl.1 rfl (lv_room (Nat.le_of_ble_eq_true rfl)) dX5_readTest_187 ⟨Nat.le_of_ble_eq_true rfl, Nat.le_of_ble_eq_true rfl⟩) hS (fun σ_s_704 H locs hw_703 hH hS => ?_)
            obtain ⟨hO9, hF9, hw_703⟩ := hw_703
            have e_705 : gI σ_s_704 (ad E a 0) 6 = 260 := (fr.ki hO hF9 hkt (by decide) (by decide) _).trans e_700
            have hT_706 : TSt E σ_s_704 (ad E a 0) T cc_682 jj_683 := TSt.mv hO hF9 hkt (by decide) hT_684
            have hUhT_706 := hT_706.2.2
            replace hO := hO9
            replace hF := hF.tu hF9 (by decide)
            replace hw_703 : (gI σ_s_678 b 13 < 12 → gI σ_s_704 b 13 = gI σ_s_678 b 13 + 1) ∧ (¬ gI σ_s_678 b 13 < 12 → gI σ_s_704 b 13 = gI σ_s_678 b 13) ∧ gI σ_s_704 b 3 = gI σ_s_678 b 3 := hw_703
            try replace hUhT_684 := hid.mk hUhT_684
            try replace hw_677 := hid.mk hw_677
            try simp only [h0_686, ne_eq, not_true_eq_false, not_false_eq_true, false_implies, true_implies, true_and, and_true, eq_self, false_or, or_false, false_and, and_false] at hUhT_706
            have e_707 : gI σ_s_704 (ad E a 0) 6 = 260 := by omega
            have e_708 : gI σ_s_704 b 3 = b30 := by omega
            obtain ⟨z_709, e_710, rz_709, lz_709, uz_709⟩ := hO.gi h_b (by decide) k4_13
            exact th_vret hx hb hr hlocks hH hS ⟨hO, hF, ⟨cc_682, jj_683, hT_706, (fun h9 => absurd rfl h9), fun _ => ⟨by omega, hG_701.was h0_686⟩, by omega, by omega⟩⟩ dX5_readTest_190
        · replace c_674 := (I_eq (a := z_672) (b := 256) rz_672 (show rng 256 from ⟨by decide, by decide⟩)).mp c_674
          have hG_711 := J_485_7.lword (by omega) (by omega)
          refine lv_aload_n hx hb dX5_readTest_158 rfl (lv_at hl 2 rfl) ?_
          refine lv_iload_n hx hb dX5_readTest_159 rfl (lv_at hl 0 rfl) ?_
          refine lv_iconst (v := I 1) hx hb dX5_readTest_160 (by decide) ?_
          refine lv_aload_n hx hb dX5_readTest_161 rfl (lv_at hl 1 rfl) ?_
          refine ok.getR hO h_a (by decide) k11_0 (by decide) (fun _ _ he hv kk => th_get (ci := 5) (C := RX5) (T := TX5) (N := 1) hx hb hts inX5 hown hK hH he rfl 0 (by decide) fl0 hv dX5_readTest_162 kk) ?_
          obtain ⟨_, hc_712⟩ := hO.cell hp_488 (by decide) (ci := 8) rfl
          refine th_calli (va_runV (As := []) (rest := [.int (I 1), .int (I z_489), .ref b]) ⟨hx, hb, hml, hown, hts⟩ (f_letters l G y b0 σ_s_662 E hO (ad E a 0) hp_488 T 0 (jqq483 + 1) hT_667) (cwV 0 hts gX5_readTest_X8_takeLetters rfl rfl rfl (by decide +kernel) ⟨Nat.le_of_ble_eq_true rfl, Nat.le_of_ble_eq_true rfl⟩) (th_PV hK hH rfl hc_712) rfl rfl hl.1 rfl (lv_room (Nat.le_of_ble_eq_true rfl)) dX5_readTest_165 ⟨Nat.le_of_ble_eq_true rfl, Nat.le_of_ble_eq_true rfl⟩) hS (fun z_715 σ_s_714 H locs rz_715 hw_713 hH hS => ?_)
          obtain ⟨hO9, hF9, hw_713⟩ := hw_713
          have e_716 : gI σ_s_714 b 3 = b30 := (fr.ki hO hF9 h_b (by decide) (by decide) _).trans e_663
          have e_717 : gI σ_s_714 b 13 = b130 := (fr.ki hO hF9 h_b (by decide) (by decide) _).trans e_664
          replace hO := hO9
          replace hF := hF.tu hF9 (by decide)
          replace hw_713 : ∃ c1 j1, TSt E σ_s_714 (ad E a 0) T c1 j1 ∧ ((0 : Int) ≠ 0 → c1 = 0 ∧ j1 = (jqq483 + 1)) ∧ ((0 : Int) = 0 → (tK T (jqq483 + 1) ≠ 256 ∧ c1 = 1 ∧ j1 = (jqq483 + 1)) ∨ (tK T (jqq483 + 1) = 256 ∧ 6 < tL T (jqq483 + 1) ∧ c1 = 2 ∧ j1 = (jqq483 + 1)) ∨ (tK T (jqq483 + 1) = 256 ∧ tL T (jqq483 + 1) ≤ 6 ∧ c1 = 0 ∧ j1 = (jqq483 + 1) + 1 ∧ z_715 = tV T (jqq483 + 1))) := hw_713
          obtain ⟨cc_718, jj_719, hT_720, hw_713⟩ := hw_713
          have hUhT_720 := hT_720.2.2
          try replace hUhT_667 := hid.mk hUhT_667
          try replace hw_661 := hid.mk hw_661
          rcases Classical.em (cc_718 = 0) with h0_721 | h0_721
          · subst h0_721
            try simp only [ne_eq, not_true_eq_false, not_false_eq_true, false_implies, true_implies, true_and, and_true, eq_self, false_or, or_false, false_and, and_false] at hUhT_720
            have e_722 : gI σ_s_714 (ad E a 0) 7 = 0 := by omega
            have hk_723 : gI σ_s_714 (ad E a 0) 6 = tK T jj_719 := by omega
            have hj_724 : (jqq483 + 1) + 1 = jj_719 := by omega
            subst hj_724
            have hG_725 := hG_711.word (c2 := 0) (j2 := ((jqq483 + 1) + 1)) (fun h9 => absurd rfl h9) (fun _ => by omega)
            refine th_calli (va_runSN (As := [.int (I z_715)]) (rest := [.int (I 1), .int (I z_489), .ref b]) ⟨hx, hb, hml, hown, hts⟩ (n_first l G y b0 σ_s_714 E hO z_715 (show rng z_715 from rz_715)) ⟨(va_cnB 1 hts gX5_readTest_X10_firstLetterHighest_n99 rfl rfl rfl (ml_12 hK) fl1 (by decide +kernel) ⟨Nat.le_of_ble_eq_true rfl, Nat.le_of_ble_eq_true rfl⟩), fl2, trivial⟩ (th_PS hK hH) rfl rfl hl.1 rfl (lv_room (Nat.le_of_ble_eq_true rfl)) dX5_readTest_168 ⟨Nat.le_of_ble_eq_true rfl, Nat.le_of_ble_eq_true rfl⟩) hS (fun z_728 σ_s_727 H locs rz_728 hw_726 hH hS => ?_)
            obtain ⟨e9, hw_726⟩ := hw_726
            replace e9 := e9.symm
            subst e9
            obtain ⟨_, hc_729⟩ := hO.cell h_b (by decide) (ci := 4) rfl
            refine th_callv (va_runV (As := [.int (I z_489), .int (I 1), .int (I z_728)]) (rest := []) ⟨hx, hb, hml, hown, hts⟩ (p6_addTest l G y b0 σ_s_714 E hO b h_b z_489 (show rng z_489 from rz_489) 1 (show rng 1 from (show rng 1 from ⟨by decide, by decide⟩)) z_728 (show rng z_728 from rz_728)) (cwV 3 hts gX5_readTest_X4_addTest rfl rfl rfl (by decide +kernel) ⟨Nat.le_of_ble_eq_true rfl, Nat.le_of_ble_eq_true rfl⟩) (th_PV hK hH rfl hc_729) rfl rfl hl.1 rfl (lv_room (Nat.le_of_ble_eq_true rfl)) dX5_readTest_171 ⟨Nat.le_of_ble_eq_true rfl, Nat.le_of_ble_eq_true rfl⟩) hS (fun σ_s_731 H locs hw_730 hH hS => ?_)
            obtain ⟨hO9, hF9, hw_730⟩ := hw_730
            have e_732 : gI σ_s_731 (ad E a 0) 7 = 0 := (fr.ki hO hF9 hkt (by decide) (by decide) _).trans e_722
            have hT_733 : TSt E σ_s_731 (ad E a 0) T 0 ((jqq483 + 1) + 1) := TSt.mv hO hF9 hkt (by decide) hT_720
            have hUhT_733 := hT_733.2.2
            replace hO := hO9
            replace hF := hF.tu hF9 (by decide)
            replace hw_730 : (gI σ_s_714 b 13 < 12 → gI σ_s_731 b 13 = gI σ_s_714 b 13 + 1) ∧ (¬ gI σ_s_714 b 13 < 12 → gI σ_s_731 b 13 = gI σ_s_714 b 13) ∧ gI σ_s_731 b 3 = gI σ_s_714 b 3 := hw_730
            try replace hUhT_720 := hid.mk hUhT_720
            try replace hw_713 := hid.mk hw_713
            try simp only [ne_eq, not_true_eq_false, not_false_eq_true, false_implies, true_implies, true_and, and_true, eq_self, false_or, or_false, false_and, and_false] at hUhT_733
            have e_734 : gI σ_s_731 (ad E a 0) 7 = 0 := by omega
            have hk_735 : gI σ_s_731 (ad E a 0) 6 = tK T ((jqq483 + 1) + 1) := by omega
            have e_736 : gI σ_s_731 b 3 = b30 := by omega
            obtain ⟨z_737, e_738, rz_737, lz_737, uz_737⟩ := hO.gi h_b (by decide) k4_13
            refine lv_goto (tgt := 190) hx hb dX5_readTest_174 (by decide) ?_
            exact th_vret hx hb hr hlocks hH hS ⟨hO, hF, ⟨0, ((jqq483 + 1) + 1), hT_733, (fun h9 => absurd rfl h9), fun _ => ⟨by omega, hG_725⟩, by omega, by omega⟩⟩ dX5_readTest_190
          · try simp only [h0_721, ne_eq, not_true_eq_false, not_false_eq_true, false_implies, true_implies, true_and, and_true, eq_self, false_or, or_false, false_and, and_false] at hUhT_720
            have e_739 : gI σ_s_714 (ad E a 0) 6 = 260 := by omega
            have hj_740 : jqq483 + 1 = jj_719 := by omega
            subst hj_740
            have hG_741 := hG_711.word (c2 := cc_718) (j2 := (jqq483 + 1)) (fun h9 => absurd rfl h9) (fun _ => by omega)
            refine th_calli (va_runSN (As := [.int (I z_715)]) (rest := [.int (I 1), .int (I z_489), .ref b]) ⟨hx, hb, hml, hown, hts⟩ (n_first l G y b0 σ_s_714 E hO z_715 (show rng z_715 from rz_715)) ⟨(va_cnB 1 hts gX5_readTest_X10_firstLetterHighest_n99 rfl rfl rfl (ml_12 hK) fl1 (by decide +kernel) ⟨Nat.le_of_ble_eq_true rfl, Nat.le_of_ble_eq_true rfl⟩), fl2, trivial⟩ (th_PS hK hH) rfl rfl hl.1 rfl (lv_room (Nat.le_of_ble_eq_true rfl)) dX5_readTest_168 ⟨Nat.le_of_ble_eq_true rfl, Nat.le_of_ble_eq_true rfl⟩) hS (fun z_744 σ_s_743 H locs rz_744 hw_742 hH hS => ?_)
            obtain ⟨e9, hw_742⟩ := hw_742
            replace e9 := e9.symm
            subst e9
            obtain ⟨_, hc_745⟩ := hO.cell h_b (by decide) (ci := 4) rfl
            refine th_callv (va_runV (As := [.int (I z_489), .int (I 1), .int (I z_744)]) (rest := []) ⟨hx, hb, hml, hown, hts⟩ (p6_addTest l G y b0 σ_s_714 E hO b h_b z_489 (show rng z_489 from rz_489) 1 (show rng 1 from (show rng 1 from ⟨by decide, by decide⟩)) z_744 (show rng z_744 from rz_744)) (cwV 3 hts gX5_readTest_X4_addTest rfl rfl rfl (by decide +kernel) ⟨Nat.le_of_ble_eq_true rfl, Nat.le_of_ble_eq_true rfl⟩) (th_PV hK hH rfl hc_745) rfl rfl hl.1 rfl (lv_room (Nat.le_of_ble_eq_true rfl)) dX5_readTest_171 ⟨Nat.le_of_ble_eq_true rfl, Nat.le_of_ble_eq_true rfl⟩) hS (fun σ_s_747 H locs hw_746 hH hS => ?_)
            obtain ⟨hO9, hF9, hw_746⟩ := hw_746
            have e_748 : gI σ_s_747 (ad E a 0) 6 = 260 := (fr.ki hO hF9 hkt (by decide) (by decide) _).trans e_739
            have hT_749 : TSt E σ_s_747 (ad E a 0) T cc_718 (jqq483 + 1) := TSt.mv hO hF9 hkt (by decide) hT_720
            have hUhT_749 := hT_749.2.2
            replace hO := hO9
            replace hF := hF.tu hF9 (by decide)
            replace hw_746 : (gI σ_s_714 b 13 < 12 → gI σ_s_747 b 13 = gI σ_s_714 b 13 + 1) ∧ (¬ gI σ_s_714 b 13 < 12 → gI σ_s_747 b 13 = gI σ_s_714 b 13) ∧ gI σ_s_747 b 3 = gI σ_s_714 b 3 := hw_746
            try replace hUhT_720 := hid.mk hUhT_720
            try replace hw_713 := hid.mk hw_713
            try simp only [h0_721, ne_eq, not_true_eq_false, not_false_eq_true, false_implies, true_implies, true_and, and_true, eq_self, false_or, or_false, false_and, and_false] at hUhT_749
            have e_750 : gI σ_s_747 (ad E a 0) 6 = 260 := by omega
            have e_751 : gI σ_s_747 b 3 = b30 := by omega
            obtain ⟨z_752, e_753, rz_752, lz_752, uz_752⟩ := hO.gi h_b (by decide) k4_13
            refine lv_goto (tgt := 190) hx hb dX5_readTest_174 (by decide) ?_
            exact th_vret hx hb hr hlocks hH hS ⟨hO, hF, ⟨cc_718, (jqq483 + 1), hT_749, (fun h9 => absurd rfl h9), fun _ => ⟨by omega, hG_741.was h0_721⟩, by omega, by omega⟩⟩ dX5_readTest_190
      · replace c_659 := mt (I_eq (a := z_489) (b := 61) rz_489 (show rng 61 from ⟨by decide, by decide⟩)).mpr c_659
        refine lv_iload_n hx hb dX5_readTest_118 rfl (lv_at hl 0 rfl) ?_
        refine lv_bipush (v := I 60) hx hb dX5_readTest_119 (by decide) ?_
        refine lv_icmp_eq (tgt := 138) hx hb dX5_readTest_121 (by decide) (fun c_754 => ?_) (fun c_754 => ?_)
        · replace c_754 := (I_eq (a := z_489) (b := 60) rz_489 (show rng 60 from ⟨by decide, by decide⟩)).mp c_754
          refine lv_aload_n hx hb dX5_readTest_138 rfl (lv_at hl 1 rfl) ?_
          refine ok.getR hO h_a (by decide) k11_0 (by decide) (fun _ _ he hv kk => th_get (ci := 5) (C := RX5) (T := TX5) (N := 1) hx hb hts inX5 hown hK hH he rfl 0 (by decide) fl0 hv dX5_readTest_139 kk) ?_
          obtain ⟨_, hc_755⟩ := hO.cell hp_488 (by decide) (ci := 8) rfl
          refine th_callv (va_runV (As := []) (rest := []) ⟨hx, hb, hml, hown, hts⟩ (f_step l G y b0 σ_J_485 E hO (ad E a 0) hp_488 T 0 jqq483 J_485_6) (cwV 0 hts gX5_readTest_X8_step rfl rfl rfl (by decide +kernel) ⟨Nat.le_of_ble_eq_true rfl, Nat.le_of_ble_eq_true rfl⟩) (th_PV hK hH rfl hc_755) rfl rfl hl.1 rfl (lv_room (Nat.le_of_ble_eq_true rfl)) dX5_readTest_142 ⟨Nat.le_of_ble_eq_true rfl, Nat.le_of_ble_eq_true rfl⟩) hS (fun σ_s_757 H locs hw_756 hH hS => ?_)
          obtain ⟨hO9, hF9, hw_756⟩ := hw_756
          have e_758 : gI σ_s_757 b 3 = b30 := (fr.ki hO hF9 h_b (by decide) (by decide) _).trans J_485_8
          have e_759 : gI σ_s_757 b 13 = b130 := (fr.ki hO hF9 h_b (by decide) (by decide) _).trans J_485_9
          replace hO := hO9
          replace hF := hF.tu hF9 (by decide)
          replace hw_756 : ∃ c1 j1, TSt E σ_s_757 (ad E a 0) T c1 j1 ∧ c1 = 0 ∧ ((0 : Int) ≠ 0 → j1 = jqq483) ∧ ((0 : Int) = 0 → tK T jqq483 ≠ 259 → j1 = jqq483 + 1) := hw_756
          obtain ⟨cc_760, jj_761, hT_762, hw_756⟩ := hw_756
          have hUhT_762 := hT_762.2.2
          try replace hUJ_485_6 := hid.mk hUJ_485_6
          have h0_763 : cc_760 = 0 := by omega
          subst h0_763
          try simp only [ne_eq, not_true_eq_false, not_false_eq_true, false_implies, true_implies, true_and, and_true, eq_self, false_or, or_false, false_and, and_false] at hUhT_762
          have e_764 : gI σ_s_757 (ad E a 0) 7 = 0 := by omega
          have hk_765 : gI σ_s_757 (ad E a 0) 6 = tK T jj_761 := by omega
          have hj_766 : jqq483 + 1 = jj_761 := by omega
          subst hj_766
          refine lv_aload_n hx hb dX5_readTest_145 rfl (lv_at hl 1 rfl) ?_
          refine ok.getR hO h_a (by decide) k11_0 (by decide) (fun _ _ he hv kk => th_get (ci := 5) (C := RX5) (T := TX5) (N := 1) hx hb hts inX5 hown hK hH he rfl 0 (by decide) fl0 hv dX5_readTest_146 kk) ?_
          refine ok.getI hO hp_488 (by decide) k3_6 (fun _ _ he hv kk => th_getN (ci := 8) (C := RX8) (T := TX8) (N := 9) hx hb hts inX8 hown hK hH he rfl 6 (by decide) (nl_5 hK) hv dX5_readTest_149 kk) (fun z_767 e_768 rz_767 lz_767 uz_767 => ?_)
          refine lv_sipush (v := I 256) hx hb dX5_readTest_152 (by decide) ?_
          refine lv_icmp_ne (tgt := 177) hx hb dX5_readTest_155 (by decide) (fun c_769 => ?_) (fun c_769 => ?_)
          · replace c_769 := mt (I_eq (a := z_767) (b := 256) rz_767 (show rng 256 from ⟨by decide, by decide⟩)).mpr c_769
            have hG_770 := J_485_7.lnum (by omega) (by omega)
            refine lv_aload_n hx hb dX5_readTest_177 rfl (lv_at hl 2 rfl) ?_
            refine lv_iload_n hx hb dX5_readTest_178 rfl (lv_at hl 0 rfl) ?_
            refine lv_iconst (v := I 0) hx hb dX5_readTest_179 (by decide) ?_
            refine lv_aload_n hx hb dX5_readTest_180 rfl (lv_at hl 1 rfl) ?_
            refine ok.getR hO h_a (by decide) k11_0 (by decide) (fun _ _ he hv kk => th_get (ci := 5) (C := RX5) (T := TX5) (N := 1) hx hb hts inX5 hown hK hH he rfl 0 (by decide) fl0 hv dX5_readTest_181 kk) ?_
            obtain ⟨_, hc_771⟩ := hO.cell hp_488 (by decide) (ci := 8) rfl
            refine th_calli (va_runV (As := []) (rest := [.int (I 0), .int (I z_489), .ref b]) ⟨hx, hb, hml, hown, hts⟩ (f_number l G y b0 σ_s_757 E hO (ad E a 0) hp_488 T 0 (jqq483 + 1) hT_762) (cwV 0 hts gX5_readTest_X8_takeNumber rfl rfl rfl (by decide +kernel) ⟨Nat.le_of_ble_eq_true rfl, Nat.le_of_ble_eq_true rfl⟩) (th_PV hK hH rfl hc_771) rfl rfl hl.1 rfl (lv_room (Nat.le_of_ble_eq_true rfl)) dX5_readTest_184 ⟨Nat.le_of_ble_eq_true rfl, Nat.le_of_ble_eq_true rfl⟩) hS (fun z_774 σ_s_773 H locs rz_774 hw_772 hH hS => ?_)
            obtain ⟨hO9, hF9, hw_772⟩ := hw_772
            have e_775 : gI σ_s_773 b 3 = b30 := (fr.ki hO hF9 h_b (by decide) (by decide) _).trans e_758
            have e_776 : gI σ_s_773 b 13 = b130 := (fr.ki hO hF9 h_b (by decide) (by decide) _).trans e_759
            replace hO := hO9
            replace hF := hF.tu hF9 (by decide)
            replace hw_772 : ∃ c1 j1, TSt E σ_s_773 (ad E a 0) T c1 j1 ∧ ((0 : Int) ≠ 0 → c1 = 0 ∧ j1 = (jqq483 + 1)) ∧ ((0 : Int) = 0 → nuR T (jqq483 + 1) c1 j1) := hw_772
            obtain ⟨cc_777, jj_778, hT_779, hw_772⟩ := hw_772
            have hUhT_779 := hT_779.2.2
            try replace hUhT_762 := hid.mk hUhT_762
            try replace hw_756 := hid.mk hw_756
            have hb_780 := (hw_772.2 rfl).le
            rcases Classical.em (cc_777 = 0) with h0_781 | h0_781
            · subst h0_781
              try simp only [ne_eq, not_true_eq_false, not_false_eq_true, false_implies, true_implies, true_and, and_true, eq_self, false_or, or_false, false_and, and_false] at hUhT_779
              have e_782 : gI σ_s_773 (ad E a 0) 7 = 0 := by omega
              have hk_783 : gI σ_s_773 (ad E a 0) 6 = tK T jj_778 := by omega
              have hG_784 := hG_770.num (c2 := 0) (j2 := jj_778) (fun h9 => absurd rfl h9) (fun _ => hw_772.2 rfl)
              obtain ⟨_, hc_785⟩ := hO.cell h_b (by decide) (ci := 4) rfl
              refine th_callv (va_runV (As := [.int (I z_489), .int (I 0), .int (I z_774)]) (rest := []) ⟨hx, hb, hml, hown, hts⟩ (p6_addTest l G y b0 σ_s_773 E hO b h_b z_489 (show rng z_489 from rz_489) 0 (show rng 0 from (show rng 0 from ⟨by decide, by decide⟩)) z_774 (show rng z_774 from rz_774)) (cwV 3 hts gX5_readTest_X4_addTest rfl rfl rfl (by decide +kernel) ⟨Nat.le_of_ble_eq_true rfl, Nat.le_of_ble_eq_true rfl⟩) (th_PV hK hH rfl hc_785) rfl rfl hl.1 rfl (lv_room (Nat.le_of_ble_eq_true rfl)) dX5_readTest_187 ⟨Nat.le_of_ble_eq_true rfl, Nat.le_of_ble_eq_true rfl⟩) hS (fun σ_s_787 H locs hw_786 hH hS => ?_)
              obtain ⟨hO9, hF9, hw_786⟩ := hw_786
              have e_788 : gI σ_s_787 (ad E a 0) 7 = 0 := (fr.ki hO hF9 hkt (by decide) (by decide) _).trans e_782
              have hT_789 : TSt E σ_s_787 (ad E a 0) T 0 jj_778 := TSt.mv hO hF9 hkt (by decide) hT_779
              have hUhT_789 := hT_789.2.2
              replace hO := hO9
              replace hF := hF.tu hF9 (by decide)
              replace hw_786 : (gI σ_s_773 b 13 < 12 → gI σ_s_787 b 13 = gI σ_s_773 b 13 + 1) ∧ (¬ gI σ_s_773 b 13 < 12 → gI σ_s_787 b 13 = gI σ_s_773 b 13) ∧ gI σ_s_787 b 3 = gI σ_s_773 b 3 := hw_786
              try replace hUhT_779 := hid.mk hUhT_779
              try replace hw_772 := hid.mk hw_772
              try simp only [ne_eq, not_true_eq_false, not_false_eq_true, false_implies, true_implies, true_and, and_true, eq_self, false_or, or_false, false_and, and_false] at hUhT_789
              have e_790 : gI σ_s_787 (ad E a 0) 7 = 0 := by omega
              have hk_791 : gI σ_s_787 (ad E a 0) 6 = tK T jj_778 := by omega
              have e_792 : gI σ_s_787 b 3 = b30 := by omega
              obtain ⟨z_793, e_794, rz_793, lz_793, uz_793⟩ := hO.gi h_b (by decide) k4_13
              exact th_vret hx hb hr hlocks hH hS ⟨hO, hF, ⟨0, jj_778, hT_789, (fun h9 => absurd rfl h9), fun _ => ⟨by omega, hG_784⟩, by omega, by omega⟩⟩ dX5_readTest_190
            · try simp only [h0_781, ne_eq, not_true_eq_false, not_false_eq_true, false_implies, true_implies, true_and, and_true, eq_self, false_or, or_false, false_and, and_false] at hUhT_779
              have e_795 : gI σ_s_773 (ad E a 0) 6 = 260 := by omega
              have hG_796 := hG_770.num (c2 := cc_777) (j2 := jj_778) (fun h9 => absurd rfl h9) (fun _ => hw_772.2 rfl)
              obtain ⟨_, hc_797⟩ := hO.cell h_b (by decide) (ci := 4) rfl
              refine th_callv (va_runV (As := [.int (I z_489), .int (I 0), .int (I z_774)]) (rest := []) ⟨hx, hb, hml, hown, hts⟩ (p6_addTest l G y b0 σ_s_773 E hO b h_b z_489 (show rng z_489 from rz_489) 0 (show rng 0 from (show rng 0 from ⟨by decide, by decide⟩)) z_774 (show rng z_774 from rz_774)) (cwV 3 hts gX5_readTest_X4_addTest rfl rfl rfl (by decide +kernel) ⟨Nat.le_of_ble_eq_true rfl, Nat.le_of_ble_eq_true rfl⟩) (th_PV hK hH rfl hc_797) rfl rfl hl.1 rfl (lv_room (Nat.le_of_ble_eq_true rfl)) dX5_readTest_187 ⟨Nat.le_of_ble_eq_true rfl, Nat.le_of_ble_eq_true rfl⟩) hS (fun σ_s_799 H locs hw_798 hH hS => ?_)
              obtain ⟨hO9, hF9, hw_798⟩ := hw_798
              have e_800 : gI σ_s_799 (ad E a 0) 6 = 260 := (fr.ki hO hF9 hkt (by decide) (by decide) _).trans e_795
              have hT_801 : TSt E σ_s_799 (ad E a 0) T cc_777 jj_778 := TSt.mv hO hF9 hkt (by decide) hT_779
              have hUhT_801 := hT_801.2.2
              replace hO := hO9
              replace hF := hF.tu hF9 (by decide)
              replace hw_798 : (gI σ_s_773 b 13 < 12 → gI σ_s_799 b 13 = gI σ_s_773 b 13 + 1) ∧ (¬ gI σ_s_773 b 13 < 12 → gI σ_s_799 b 13 = gI σ_s_773 b 13) ∧ gI σ_s_799 b 3 = gI σ_s_773 b 3 := hw_798
              try replace hUhT_779 := hid.mk hUhT_779
              try replace hw_772 := hid.mk hw_772
              try simp only [h0_781, ne_eq, not_true_eq_false, not_false_eq_true, false_implies, true_implies, true_and, and_true, eq_self, false_or, or_false, false_and, and_false] at hUhT_801
              have e_802 : gI σ_s_799 (ad E a 0) 6 = 260 := by omega
              have e_803 : gI σ_s_799 b 3 = b30 := by omega
              obtain ⟨z_804, e_805, rz_804, lz_804, uz_804⟩ := hO.gi h_b (by decide) k4_13
              exact th_vret hx hb hr hlocks hH hS ⟨hO, hF, ⟨cc_777, jj_778, hT_801, (fun h9 => absurd rfl h9), fun _ => ⟨by omega, hG_796.was h0_781⟩, by omega, by omega⟩⟩ dX5_readTest_190
          · replace c_769 := (I_eq (a := z_767) (b := 256) rz_767 (show rng 256 from ⟨by decide, by decide⟩)).mp c_769
            have hG_806 := J_485_7.lword (by omega) (by omega)
            refine lv_aload_n hx hb dX5_readTest_158 rfl (lv_at hl 2 rfl) ?_
            refine lv_iload_n hx hb dX5_readTest_159 rfl (lv_at hl 0 rfl) ?_
            refine lv_iconst (v := I 1) hx hb dX5_readTest_160 (by decide) ?_
            refine lv_aload_n hx hb dX5_readTest_161 rfl (lv_at hl 1 rfl) ?_
            refine ok.getR hO h_a (by decide) k11_0 (by decide) (fun _ _ he hv kk => th_get (ci := 5) (C := RX5) (T := TX5) (N := 1) hx hb hts inX5 hown hK hH he rfl 0 (by decide) fl0 hv dX5_readTest_162 kk) ?_
            obtain ⟨_, hc_807⟩ := hO.cell hp_488 (by decide) (ci := 8) rfl
            refine th_calli (va_runV (As := []) (rest := [.int (I 1), .int (I z_489), .ref b]) ⟨hx, hb, hml, hown, hts⟩ (f_letters l G y b0 σ_s_757 E hO (ad E a 0) hp_488 T 0 (jqq483 + 1) hT_762) (cwV 0 hts gX5_readTest_X8_takeLetters rfl rfl rfl (by decide +kernel) ⟨Nat.le_of_ble_eq_true rfl, Nat.le_of_ble_eq_true rfl⟩) (th_PV hK hH rfl hc_807) rfl rfl hl.1 rfl (lv_room (Nat.le_of_ble_eq_true rfl)) dX5_readTest_165 ⟨Nat.le_of_ble_eq_true rfl, Nat.le_of_ble_eq_true rfl⟩) hS (fun z_810 σ_s_809 H locs rz_810 hw_808 hH hS => ?_)
            obtain ⟨hO9, hF9, hw_808⟩ := hw_808
            have e_811 : gI σ_s_809 b 3 = b30 := (fr.ki hO hF9 h_b (by decide) (by decide) _).trans e_758
            have e_812 : gI σ_s_809 b 13 = b130 := (fr.ki hO hF9 h_b (by decide) (by decide) _).trans e_759
            replace hO := hO9
            replace hF := hF.tu hF9 (by decide)
            replace hw_808 : ∃ c1 j1, TSt E σ_s_809 (ad E a 0) T c1 j1 ∧ ((0 : Int) ≠ 0 → c1 = 0 ∧ j1 = (jqq483 + 1)) ∧ ((0 : Int) = 0 → (tK T (jqq483 + 1) ≠ 256 ∧ c1 = 1 ∧ j1 = (jqq483 + 1)) ∨ (tK T (jqq483 + 1) = 256 ∧ 6 < tL T (jqq483 + 1) ∧ c1 = 2 ∧ j1 = (jqq483 + 1)) ∨ (tK T (jqq483 + 1) = 256 ∧ tL T (jqq483 + 1) ≤ 6 ∧ c1 = 0 ∧ j1 = (jqq483 + 1) + 1 ∧ z_810 = tV T (jqq483 + 1))) := hw_808
            obtain ⟨cc_813, jj_814, hT_815, hw_808⟩ := hw_808
            have hUhT_815 := hT_815.2.2
            try replace hUhT_762 := hid.mk hUhT_762
            try replace hw_756 := hid.mk hw_756
            rcases Classical.em (cc_813 = 0) with h0_816 | h0_816
            · subst h0_816
              try simp only [ne_eq, not_true_eq_false, not_false_eq_true, false_implies, true_implies, true_and, and_true, eq_self, false_or, or_false, false_and, and_false] at hUhT_815
              have e_817 : gI σ_s_809 (ad E a 0) 7 = 0 := by omega
              have hk_818 : gI σ_s_809 (ad E a 0) 6 = tK T jj_814 := by omega
              have hj_819 : (jqq483 + 1) + 1 = jj_814 := by omega
              subst hj_819
              have hG_820 := hG_806.word (c2 := 0) (j2 := ((jqq483 + 1) + 1)) (fun h9 => absurd rfl h9) (fun _ => by omega)
              refine th_calli (va_runSN (As := [.int (I z_810)]) (rest := [.int (I 1), .int (I z_489), .ref b]) ⟨hx, hb, hml, hown, hts⟩ (n_first l G y b0 σ_s_809 E hO z_810 (show rng z_810 from rz_810)) ⟨(va_cnB 1 hts gX5_readTest_X10_firstLetterHighest_n99 rfl rfl rfl (ml_12 hK) fl1 (by decide +kernel) ⟨Nat.le_of_ble_eq_true rfl, Nat.le_of_ble_eq_true rfl⟩), fl2, trivial⟩ (th_PS hK hH) rfl rfl hl.1 rfl (lv_room (Nat.le_of_ble_eq_true rfl)) dX5_readTest_168 ⟨Nat.le_of_ble_eq_true rfl, Nat.le_of_ble_eq_true rfl⟩) hS (fun z_823 σ_s_822 H locs rz_823 hw_821 hH hS => ?_)
              obtain ⟨e9, hw_821⟩ := hw_821
              replace e9 := e9.symm
              subst e9
              obtain ⟨_, hc_824⟩ := hO.cell h_b (by decide) (ci := 4) rfl
              refine th_callv (va_runV (As := [.int (I z_489), .int (I 1), .int (I z_823)]) (rest := []) ⟨hx, hb, hml, hown, hts⟩ (p6_addTest l G y b0 σ_s_809 E hO b h_b z_489 (show rng z_489 from rz_489) 1 (show rng 1 from (show rng 1 from ⟨by decide, by decide⟩)) z_823 (show rng z_823 from rz_823)) (cwV 3 hts gX5_readTest_X4_addTest rfl rfl rfl (by decide +kernel) ⟨Nat.le_of_ble_eq_true rfl, Nat.le_of_ble_eq_true rfl⟩) (th_PV hK hH rfl hc_824) rfl rfl hl.1 rfl (lv_room (Nat.le_of_ble_eq_true rfl)) dX5_readTest_171 ⟨Nat.le_of_ble_eq_true rfl, Nat.le_of_ble_eq_true rfl⟩) hS (fun σ_s_826 H locs hw_825 hH hS => ?_)
              obtain ⟨hO9, hF9, hw_825⟩ := hw_825
              have e_827 : gI σ_s_826 (ad E a 0) 7 = 0 := (fr.ki hO hF9 hkt (by decide) (by decide) _).trans e_817
              have hT_828 : TSt E σ_s_826 (ad E a 0) T 0 ((jqq483 + 1) + 1) := TSt.mv hO hF9 hkt (by decide) hT_815
              have hUhT_828 := hT_828.2.2
              replace hO := hO9
              replace hF := hF.tu hF9 (by decide)
              replace hw_825 : (gI σ_s_809 b 13 < 12 → gI σ_s_826 b 13 = gI σ_s_809 b 13 + 1) ∧ (¬ gI σ_s_809 b 13 < 12 → gI σ_s_826 b 13 = gI σ_s_809 b 13) ∧ gI σ_s_826 b 3 = gI σ_s_809 b 3 := hw_825
              try replace hUhT_815 := hid.mk hUhT_815
              try replace hw_808 := hid.mk hw_808
              try simp only [ne_eq, not_true_eq_false, not_false_eq_true, false_implies, true_implies, true_and, and_true, eq_self, false_or, or_false, false_and, and_false] at hUhT_828
              have e_829 : gI σ_s_826 (ad E a 0) 7 = 0 := by omega
              have hk_830 : gI σ_s_826 (ad E a 0) 6 = tK T ((jqq483 + 1) + 1) := by omega
              have e_831 : gI σ_s_826 b 3 = b30 := by omega
              obtain ⟨z_832, e_833, rz_832, lz_832, uz_832⟩ := hO.gi h_b (by decide) k4_13
              refine lv_goto (tgt := 190) hx hb dX5_readTest_174 (by decide) ?_
              exact th_vret hx hb hr hlocks hH hS ⟨hO, hF, ⟨0, ((jqq483 + 1) + 1), hT_828, (fun h9 => absurd rfl h9), fun _ => ⟨by omega, hG_820⟩, by omega, by omega⟩⟩ dX5_readTest_190
            · try simp only [h0_816, ne_eq, not_true_eq_false, not_false_eq_true, false_implies, true_implies, true_and, and_true, eq_self, false_or, or_false, false_and, and_false] at hUhT_815
              have e_834 : gI σ_s_809 (ad E a 0) 6 = 260 := by omega
              have hj_835 : jqq483 + 1 = jj_814 := by omega
              subst hj_835
              have hG_836 := hG_806.word (c2 := cc_813) (j2 := (jqq483 + 1)) (fun h9 => absurd rfl h9) (fun _ => by omega)
              refine th_calli (va_runSN (As := [.int (I z_810)]) (rest := [.int (I 1), .int (I z_489), .ref b]) ⟨hx, hb, hml, hown, hts⟩ (n_first l G y b0 σ_s_809 E hO z_810 (show rng z_810 from rz_810)) ⟨(va_cnB 1 hts gX5_readTest_X10_firstLetterHighest_n99 rfl rfl rfl (ml_12 hK) fl1 (by decide +kernel) ⟨Nat.le_of_ble_eq_true rfl, Nat.le_of_ble_eq_true rfl⟩), fl2, trivial⟩ (th_PS hK hH) rfl rfl hl.1 rfl (lv_room (Nat.le_of_ble_eq_true rfl)) dX5_readTest_168 ⟨Nat.le_of_ble_eq_true rfl, Nat.le_of_ble_eq_true rfl⟩) hS (fun z_839 σ_s_838 H locs rz_839 hw_837 hH hS => ?_)
              obtain ⟨e9, hw_837⟩ := hw_837
              replace e9 := e9.symm
              subst e9
              obtain ⟨_, hc_840⟩ := hO.cell h_b (by decide) (ci := 4) rfl
              refine th_callv (va_runV (As := [.int (I z_489), .int (I 1), .int (I z_839)]) (rest := []) ⟨hx, hb, hml, hown, hts⟩ (p6_addTest l G y b0 σ_s_809 E hO b h_b z_489 (show rng z_489 from rz_489) 1 (show rng 1 from (show rng 1 from ⟨by decide, by decide⟩)) z_839 (show rng z_839 from rz_839)) (cwV 3 hts gX5_readTest_X4_addTest rfl rfl rfl (by decide +kernel) ⟨Nat.le_of_ble_eq_true rfl, Nat.le_of_ble_eq_true rfl⟩) (th_PV hK hH rfl hc_840) rfl rfl hl.1 rfl (lv_room (Nat.le_of_ble_eq_true rfl)) dX5_readTest_171 ⟨Nat.le_of_ble_eq_true rfl, Nat.le_of_ble_eq_true rfl⟩) hS (fun σ_s_842 H locs hw_841 hH hS => ?_)
              obtain ⟨hO9, hF9, hw_841⟩ := hw_841
              have e_843 : gI σ_s_842 (ad E a 0) 6 = 260 := (fr.ki hO hF9 hkt (by decide) (by decide) _).trans e_834
              have hT_844 : TSt E σ_s_842 (ad E a 0) T cc_813 (jqq483 + 1) := TSt.mv hO hF9 hkt (by decide) hT_815
              have hUhT_844 := hT_844.2.2
              replace hO := hO9
              replace hF := hF.tu hF9 (by decide)
              replace hw_841 : (gI σ_s_809 b 13 < 12 → gI σ_s_842 b 13 = gI σ_s_809 b 13 + 1) ∧ (¬ gI σ_s_809 b 13 < 12 → gI σ_s_842 b 13 = gI σ_s_809 b 13) ∧ gI σ_s_842 b 3 = gI σ_s_809 b 3 := hw_841
              try replace hUhT_815 := hid.mk hUhT_815
              try replace hw_808 := hid.mk hw_808
              try simp only [h0_816, ne_eq, not_true_eq_false, not_false_eq_true, false_implies, true_implies, true_and, and_true, eq_self, false_or, or_false, false_and, and_false] at hUhT_844
              have e_845 : gI σ_s_842 (ad E a 0) 6 = 260 := by omega
              have e_846 : gI σ_s_842 b 3 = b30 := by omega
              obtain ⟨z_847, e_848, rz_847, lz_847, uz_847⟩ := hO.gi h_b (by decide) k4_13
              refine lv_goto (tgt := 190) hx hb dX5_readTest_174 (by decide) ?_
              exact th_vret hx hb hr hlocks hH hS ⟨hO, hF, ⟨cc_813, (jqq483 + 1), hT_844, (fun h9 => absurd rfl h9), fun _ => ⟨by omega, hG_836.was h0_816⟩, by omega, by omega⟩⟩ dX5_readTest_190
        · replace c_754 := mt (I_eq (a := z_489) (b := 60) rz_489 (show rng 60 from ⟨by decide, by decide⟩)).mpr c_754
          refine lv_iload_n hx hb dX5_readTest_124 rfl (lv_at hl 0 rfl) ?_
          refine lv_bipush (v := I 62) hx hb dX5_readTest_125 (by decide) ?_
          refine lv_icmp_eq (tgt := 138) hx hb dX5_readTest_127 (by decide) (fun c_849 => ?_) (fun c_849 => ?_)
          · replace c_849 := (I_eq (a := z_489) (b := 62) rz_489 (show rng 62 from ⟨by decide, by decide⟩)).mp c_849
            refine lv_aload_n hx hb dX5_readTest_138 rfl (lv_at hl 1 rfl) ?_
            refine ok.getR hO h_a (by decide) k11_0 (by decide) (fun _ _ he hv kk => th_get (ci := 5) (C := RX5) (T := TX5) (N := 1) hx hb hts inX5 hown hK hH he rfl 0 (by decide) fl0 hv dX5_readTest_139 kk) ?_
            obtain ⟨_, hc_850⟩ := hO.cell hp_488 (by decide) (ci := 8) rfl
            refine th_callv (va_runV (As := []) (rest := []) ⟨hx, hb, hml, hown, hts⟩ (f_step l G y b0 σ_J_485 E hO (ad E a 0) hp_488 T 0 jqq483 J_485_6) (cwV 0 hts gX5_readTest_X8_step rfl rfl rfl (by decide +kernel) ⟨Nat.le_of_ble_eq_true rfl, Nat.le_of_ble_eq_true rfl⟩) (th_PV hK hH rfl hc_850) rfl rfl hl.1 rfl (lv_room (Nat.le_of_ble_eq_true rfl)) dX5_readTest_142 ⟨Nat.le_of_ble_eq_true rfl, Nat.le_of_ble_eq_true rfl⟩) hS (fun σ_s_852 H locs hw_851 hH hS => ?_)
            obtain ⟨hO9, hF9, hw_851⟩ := hw_851
            have e_853 : gI σ_s_852 b 3 = b30 := (fr.ki hO hF9 h_b (by decide) (by decide) _).trans J_485_8
            have e_854 : gI σ_s_852 b 13 = b130 := (fr.ki hO hF9 h_b (by decide) (by decide) _).trans J_485_9
            replace hO := hO9
            replace hF := hF.tu hF9 (by decide)
            replace hw_851 : ∃ c1 j1, TSt E σ_s_852 (ad E a 0) T c1 j1 ∧ c1 = 0 ∧ ((0 : Int) ≠ 0 → j1 = jqq483) ∧ ((0 : Int) = 0 → tK T jqq483 ≠ 259 → j1 = jqq483 + 1) := hw_851
            obtain ⟨cc_855, jj_856, hT_857, hw_851⟩ := hw_851
            have hUhT_857 := hT_857.2.2
            try replace hUJ_485_6 := hid.mk hUJ_485_6
            have h0_858 : cc_855 = 0 := by omega
            subst h0_858
            try simp only [ne_eq, not_true_eq_false, not_false_eq_true, false_implies, true_implies, true_and, and_true, eq_self, false_or, or_false, false_and, and_false] at hUhT_857
            have e_859 : gI σ_s_852 (ad E a 0) 7 = 0 := by omega
            have hk_860 : gI σ_s_852 (ad E a 0) 6 = tK T jj_856 := by omega
            have hj_861 : jqq483 + 1 = jj_856 := by omega
            subst hj_861
            refine lv_aload_n hx hb dX5_readTest_145 rfl (lv_at hl 1 rfl) ?_
            refine ok.getR hO h_a (by decide) k11_0 (by decide) (fun _ _ he hv kk => th_get (ci := 5) (C := RX5) (T := TX5) (N := 1) hx hb hts inX5 hown hK hH he rfl 0 (by decide) fl0 hv dX5_readTest_146 kk) ?_
            refine ok.getI hO hp_488 (by decide) k3_6 (fun _ _ he hv kk => th_getN (ci := 8) (C := RX8) (T := TX8) (N := 9) hx hb hts inX8 hown hK hH he rfl 6 (by decide) (nl_5 hK) hv dX5_readTest_149 kk) (fun z_862 e_863 rz_862 lz_862 uz_862 => ?_)
            refine lv_sipush (v := I 256) hx hb dX5_readTest_152 (by decide) ?_
            refine lv_icmp_ne (tgt := 177) hx hb dX5_readTest_155 (by decide) (fun c_864 => ?_) (fun c_864 => ?_)
            · replace c_864 := mt (I_eq (a := z_862) (b := 256) rz_862 (show rng 256 from ⟨by decide, by decide⟩)).mpr c_864
              have hG_865 := J_485_7.lnum (by omega) (by omega)
              refine lv_aload_n hx hb dX5_readTest_177 rfl (lv_at hl 2 rfl) ?_
              refine lv_iload_n hx hb dX5_readTest_178 rfl (lv_at hl 0 rfl) ?_
              refine lv_iconst (v := I 0) hx hb dX5_readTest_179 (by decide) ?_
              refine lv_aload_n hx hb dX5_readTest_180 rfl (lv_at hl 1 rfl) ?_
              refine ok.getR hO h_a (by decide) k11_0 (by decide) (fun _ _ he hv kk => th_get (ci := 5) (C := RX5) (T := TX5) (N := 1) hx hb hts inX5 hown hK hH he rfl 0 (by decide) fl0 hv dX5_readTest_181 kk) ?_
              obtain ⟨_, hc_866⟩ := hO.cell hp_488 (by decide) (ci := 8) rfl
              refine th_calli (va_runV (As := []) (rest := [.int (I 0), .int (I z_489), .ref b]) ⟨hx, hb, hml, hown, hts⟩ (f_number l G y b0 σ_s_852 E hO (ad E a 0) hp_488 T 0 (jqq483 + 1) hT_857) (cwV 0 hts gX5_readTest_X8_takeNumber rfl rfl rfl (by decide +kernel) ⟨Nat.le_of_ble_eq_true rfl, Nat.le_of_ble_eq_true rfl⟩) (th_PV hK hH rfl hc_866) rfl rfl hl.1 rfl (lv_room (Nat.le_of_ble_eq_true rfl)) dX5_readTest_184 ⟨Nat.le_of_ble_eq_true rfl, Nat.le_of_ble_eq_true rfl⟩) hS (fun z_869 σ_s_868 H locs rz_869 hw_867 hH hS => ?_)
              obtain ⟨hO9, hF9, hw_867⟩ := hw_867
              have e_870 : gI σ_s_868 b 3 = b30 := (fr.ki hO hF9 h_b (by decide) (by decide) _).trans e_853
              have e_871 : gI σ_s_868 b 13 = b130 := (fr.ki hO hF9 h_b (by decide) (by decide) _).trans e_854
              replace hO := hO9
              replace hF := hF.tu hF9 (by decide)
              replace hw_867 : ∃ c1 j1, TSt E σ_s_868 (ad E a 0) T c1 j1 ∧ ((0 : Int) ≠ 0 → c1 = 0 ∧ j1 = (jqq483 + 1)) ∧ ((0 : Int) = 0 → nuR T (jqq483 + 1) c1 j1) := hw_867
              obtain ⟨cc_872, jj_873, hT_874, hw_867⟩ := hw_867
              have hUhT_874 := hT_874.2.2
              try replace hUhT_857 := hid.mk hUhT_857
              try replace hw_851 := hid.mk hw_851
              have hb_875 := (hw_867.2 rfl).le
              rcases Classical.em (cc_872 = 0) with h0_876 | h0_876
              · subst h0_876
                try simp only [ne_eq, not_true_eq_false, not_false_eq_true, false_implies, true_implies, true_and, and_true, eq_self, false_or, or_false, false_and, and_false] at hUhT_874
                have e_877 : gI σ_s_868 (ad E a 0) 7 = 0 := by omega
                have hk_878 : gI σ_s_868 (ad E a 0) 6 = tK T jj_873 := by omega
                have hG_879 := hG_865.num (c2 := 0) (j2 := jj_873) (fun h9 => absurd rfl h9) (fun _ => hw_867.2 rfl)
                obtain ⟨_, hc_880⟩ := hO.cell h_b (by decide) (ci := 4) rfl
                refine th_callv (va_runV (As := [.int (I z_489), .int (I 0), .int (I z_869)]) (rest := []) ⟨hx, hb, hml, hown, hts⟩ (p6_addTest l G y b0 σ_s_868 E hO b h_b z_489 (show rng z_489 from rz_489) 0 (show rng 0 from (show rng 0 from ⟨by decide, by decide⟩)) z_869 (show rng z_869 from rz_869)) (cwV 3 hts gX5_readTest_X4_addTest rfl rfl rfl (by decide +kernel) ⟨Nat.le_of_ble_eq_true rfl, Nat.le_of_ble_eq_true rfl⟩) (th_PV hK hH rfl hc_880) rfl rfl hl.1 rfl (lv_room (Nat.le_of_ble_eq_true rfl)) dX5_readTest_187 ⟨Nat.le_of_ble_eq_true rfl, Nat.le_of_ble_eq_true rfl⟩) hS (fun σ_s_882 H locs hw_881 hH hS => ?_)
                obtain ⟨hO9, hF9, hw_881⟩ := hw_881
                have e_883 : gI σ_s_882 (ad E a 0) 7 = 0 := (fr.ki hO hF9 hkt (by decide) (by decide) _).trans e_877
                have hT_884 : TSt E σ_s_882 (ad E a 0) T 0 jj_873 := TSt.mv hO hF9 hkt (by decide) hT_874
                have hUhT_884 := hT_884.2.2
                replace hO := hO9
                replace hF := hF.tu hF9 (by decide)
                replace hw_881 : (gI σ_s_868 b 13 < 12 → gI σ_s_882 b 13 = gI σ_s_868 b 13 + 1) ∧ (¬ gI σ_s_868 b 13 < 12 → gI σ_s_882 b 13 = gI σ_s_868 b 13) ∧ gI σ_s_882 b 3 = gI σ_s_868 b 3 := hw_881
                try replace hUhT_874 := hid.mk hUhT_874
                try replace hw_867 := hid.mk hw_867
                try simp only [ne_eq, not_true_eq_false, not_false_eq_true, false_implies, true_implies, true_and, and_true, eq_self, false_or, or_false, false_and, and_false] at hUhT_884
                have e_885 : gI σ_s_882 (ad E a 0) 7 = 0 := by omega
                have hk_886 : gI σ_s_882 (ad E a 0) 6 = tK T jj_873 := by omega
                have e_887 : gI σ_s_882 b 3 = b30 := by omega
                obtain ⟨z_888, e_889, rz_888, lz_888, uz_888⟩ := hO.gi h_b (by decide) k4_13
                exact th_vret hx hb hr hlocks hH hS ⟨hO, hF, ⟨0, jj_873, hT_884, (fun h9 => absurd rfl h9), fun _ => ⟨by omega, hG_879⟩, by omega, by omega⟩⟩ dX5_readTest_190
              · try simp only [h0_876, ne_eq, not_true_eq_false, not_false_eq_true, false_implies, true_implies, true_and, and_true, eq_self, false_or, or_false, false_and, and_false] at hUhT_874
                have e_890 : gI σ_s_868 (ad E a 0) 6 = 260 := by omega
                have hG_891 := hG_865.num (c2 := cc_872) (j2 := jj_873) (fun h9 => absurd rfl h9) (fun _ => hw_867.2 rfl)
                obtain ⟨_, hc_892⟩ := hO.cell h_b (by decide) (ci := 4) rfl
                refine th_callv (va_runV (As := [.int (I z_489), .int (I 0), .int (I z_869)]) (rest := []) ⟨hx, hb, hml, hown, hts⟩ (p6_addTest l G y b0 σ_s_868 E hO b h_b z_489 (show rng z_489 from rz_489) 0 (show rng 0 from (show rng 0 from ⟨by decide, by decide⟩)) z_869 (show rng z_869 from rz_869)) (cwV 3 hts gX5_readTest_X4_addTest rfl rfl rfl (by decide +kernel) ⟨Nat.le_of_ble_eq_true rfl, Nat.le_of_ble_eq_true rfl⟩) (th_PV hK hH rfl hc_892) rfl rfl hl.1 rfl (lv_room (Nat.le_of_ble_eq_true rfl)) dX5_readTest_187 ⟨Nat.le_of_ble_eq_true rfl, Nat.le_of_ble_eq_true rfl⟩) hS (fun σ_s_894 H locs hw_893 hH hS => ?_)
                obtain ⟨hO9, hF9, hw_893⟩ := hw_893
                have e_895 : gI σ_s_894 (ad E a 0) 6 = 260 := (fr.ki hO hF9 hkt (by decide) (by decide) _).trans e_890
                have hT_896 : TSt E σ_s_894 (ad E a 0) T cc_872 jj_873 := TSt.mv hO hF9 hkt (by decide) hT_874
                have hUhT_896 := hT_896.2.2
                replace hO := hO9
                replace hF := hF.tu hF9 (by decide)
                replace hw_893 : (gI σ_s_868 b 13 < 12 → gI σ_s_894 b 13 = gI σ_s_868 b 13 + 1) ∧ (¬ gI σ_s_868 b 13 < 12 → gI σ_s_894 b 13 = gI σ_s_868 b 13) ∧ gI σ_s_894 b 3 = gI σ_s_868 b 3 := hw_893
                try replace hUhT_874 := hid.mk hUhT_874
                try replace hw_867 := hid.mk hw_867
                try simp only [h0_876, ne_eq, not_true_eq_false, not_false_eq_true, false_implies, true_implies, true_and, and_true, eq_self, false_or, or_false, false_and, and_false] at hUhT_896
                have e_897 : gI σ_s_894 (ad E a 0) 6 = 260 := by omega
                have e_898 : gI σ_s_894 b 3 = b30 := by omega
                obtain ⟨z_899, e_900, rz_899, lz_899, uz_899⟩ := hO.gi h_b (by decide) k4_13
                exact th_vret hx hb hr hlocks hH hS ⟨hO, hF, ⟨cc_872, jj_873, hT_896, (fun h9 => absurd rfl h9), fun _ => ⟨by omega, hG_891.was h0_876⟩, by omega, by omega⟩⟩ dX5_readTest_190
            · replace c_864 := (I_eq (a := z_862) (b := 256) rz_862 (show rng 256 from ⟨by decide, by decide⟩)).mp c_864
              have hG_901 := J_485_7.lword (by omega) (by omega)
              refine lv_aload_n hx hb dX5_readTest_158 rfl (lv_at hl 2 rfl) ?_
              refine lv_iload_n hx hb dX5_readTest_159 rfl (lv_at hl 0 rfl) ?_
              refine lv_iconst (v := I 1) hx hb dX5_readTest_160 (by decide) ?_
              refine lv_aload_n hx hb dX5_readTest_161 rfl (lv_at hl 1 rfl) ?_
              refine ok.getR hO h_a (by decide) k11_0 (by decide) (fun _ _ he hv kk => th_get (ci := 5) (C := RX5) (T := TX5) (N := 1) hx hb hts inX5 hown hK hH he rfl 0 (by decide) fl0 hv dX5_readTest_162 kk) ?_
              obtain ⟨_, hc_902⟩ := hO.cell hp_488 (by decide) (ci := 8) rfl
              refine th_calli (va_runV (As := []) (rest := [.int (I 1), .int (I z_489), .ref b]) ⟨hx, hb, hml, hown, hts⟩ (f_letters l G y b0 σ_s_852 E hO (ad E a 0) hp_488 T 0 (jqq483 + 1) hT_857) (cwV 0 hts gX5_readTest_X8_takeLetters rfl rfl rfl (by decide +kernel) ⟨Nat.le_of_ble_eq_true rfl, Nat.le_of_ble_eq_true rfl⟩) (th_PV hK hH rfl hc_902) rfl rfl hl.1 rfl (lv_room (Nat.le_of_ble_eq_true rfl)) dX5_readTest_165 ⟨Nat.le_of_ble_eq_true rfl, Nat.le_of_ble_eq_true rfl⟩) hS (fun z_905 σ_s_904 H locs rz_905 hw_903 hH hS => ?_)
              obtain ⟨hO9, hF9, hw_903⟩ := hw_903
              have e_906 : gI σ_s_904 b 3 = b30 := (fr.ki hO hF9 h_b (by decide) (by decide) _).trans e_853
              have e_907 : gI σ_s_904 b 13 = b130 := (fr.ki hO hF9 h_b (by decide) (by decide) _).trans e_854
              replace hO := hO9
              replace hF := hF.tu hF9 (by decide)
              replace hw_903 : ∃ c1 j1, TSt E σ_s_904 (ad E a 0) T c1 j1 ∧ ((0 : Int) ≠ 0 → c1 = 0 ∧ j1 = (jqq483 + 1)) ∧ ((0 : Int) = 0 → (tK T (jqq483 + 1) ≠ 256 ∧ c1 = 1 ∧ j1 = (jqq483 + 1)) ∨ (tK T (jqq483 + 1) = 256 ∧ 6 < tL T (jqq483 + 1) ∧ c1 = 2 ∧ j1 = (jqq483 + 1)) ∨ (tK T (jqq483 + 1) = 256 ∧ tL T (jqq483 + 1) ≤ 6 ∧ c1 = 0 ∧ j1 = (jqq483 + 1) + 1 ∧ z_905 = tV T (jqq483 + 1))) := hw_903
              obtain ⟨cc_908, jj_909, hT_910, hw_903⟩ := hw_903
              have hUhT_910 := hT_910.2.2
              try replace hUhT_857 := hid.mk hUhT_857
              try replace hw_851 := hid.mk hw_851
              rcases Classical.em (cc_908 = 0) with h0_911 | h0_911
              · subst h0_911
                try simp only [ne_eq, not_true_eq_false, not_false_eq_true, false_implies, true_implies, true_and, and_true, eq_self, false_or, or_false, false_and, and_false] at hUhT_910
                have e_912 : gI σ_s_904 (ad E a 0) 7 = 0 := by omega
                have hk_913 : gI σ_s_904 (ad E a 0) 6 = tK T jj_909 := by omega
                have hj_914 : (jqq483 + 1) + 1 = jj_909 := by omega
                subst hj_914
                have hG_915 := hG_901.word (c2 := 0) (j2 := ((jqq483 + 1) + 1)) (fun h9 => absurd rfl h9) (fun _ => by omega)
                refine th_calli (va_runSN (As := [.int (I z_905)]) (rest := [.int (I 1), .int (I z_489), .ref b]) ⟨hx, hb, hml, hown, hts⟩ (n_first l G y b0 σ_s_904 E hO z_905 (show rng z_905 from rz_905)) ⟨(va_cnB 1 hts gX5_readTest_X10_firstLetterHighest_n99 rfl rfl rfl (ml_12 hK) fl1 (by decide +kernel) ⟨Nat.le_of_ble_eq_true rfl, Nat.le_of_ble_eq_true rfl⟩), fl2, trivial⟩ (th_PS hK hH) rfl rfl hl.1 rfl (lv_room (Nat.le_of_ble_eq_true rfl)) dX5_readTest_168 ⟨Nat.le_of_ble_eq_true rfl, Nat.le_of_ble_eq_true rfl⟩) hS (fun z_918 σ_s_917 H locs rz_918 hw_916 hH hS => ?_)
                obtain ⟨e9, hw_916⟩ := hw_916
                replace e9 := e9.symm
                subst e9
                obtain ⟨_, hc_919⟩ := hO.cell h_b (by decide) (ci := 4) rfl
                refine th_callv (va_runV (As := [.int (I z_489), .int (I 1), .int (I z_918)]) (rest := []) ⟨hx, hb, hml, hown, hts⟩ (p6_addTest l G y b0 σ_s_904 E hO b h_b z_489 (show rng z_489 from rz_489) 1 (show rng 1 from (show rng 1 from ⟨by decide, by decide⟩)) z_918 (show rng z_918 from rz_918)) (cwV 3 hts gX5_readTest_X4_addTest rfl rfl rfl (by decide +kernel) ⟨Nat.le_of_ble_eq_true rfl, Nat.le_of_ble_eq_true rfl⟩) (th_PV hK hH rfl hc_919) rfl rfl hl.1 rfl (lv_room (Nat.le_of_ble_eq_true rfl)) dX5_readTest_171 ⟨Nat.le_of_ble_eq_true rfl, Nat.le_of_ble_eq_true rfl⟩) hS (fun σ_s_921 H locs hw_920 hH hS => ?_)
                obtain ⟨hO9, hF9, hw_920⟩ := hw_920
                have e_922 : gI σ_s_921 (ad E a 0) 7 = 0 := (fr.ki hO hF9 hkt (by decide) (by decide) _).trans e_912
                have hT_923 : TSt E σ_s_921 (ad E a 0) T 0 ((jqq483 + 1) + 1) := TSt.mv hO hF9 hkt (by decide) hT_910
                have hUhT_923 := hT_923.2.2
                replace hO := hO9
                replace hF := hF.tu hF9 (by decide)
                replace hw_920 : (gI σ_s_904 b 13 < 12 → gI σ_s_921 b 13 = gI σ_s_904 b 13 + 1) ∧ (¬ gI σ_s_904 b 13 < 12 → gI σ_s_921 b 13 = gI σ_s_904 b 13) ∧ gI σ_s_921 b 3 = gI σ_s_904 b 3 := hw_920
                try replace hUhT_910 := hid.mk hUhT_910
                try replace hw_903 := hid.mk hw_903
                try simp only [ne_eq, not_true_eq_false, not_false_eq_true, false_implies, true_implies, true_and, and_true, eq_self, false_or, or_false, false_and, and_false] at hUhT_923
                have e_924 : gI σ_s_921 (ad E a 0) 7 = 0 := by omega
                have hk_925 : gI σ_s_921 (ad E a 0) 6 = tK T ((jqq483 + 1) + 1) := by omega
                have e_926 : gI σ_s_921 b 3 = b30 := by omega
                obtain ⟨z_927, e_928, rz_927, lz_927, uz_927⟩ := hO.gi h_b (by decide) k4_13
                refine lv_goto (tgt := 190) hx hb dX5_readTest_174 (by decide) ?_
                exact th_vret hx hb hr hlocks hH hS ⟨hO, hF, ⟨0, ((jqq483 + 1) + 1), hT_923, (fun h9 => absurd rfl h9), fun _ => ⟨by omega, hG_915⟩, by omega, by omega⟩⟩ dX5_readTest_190
              · try simp only [h0_911, ne_eq, not_true_eq_false, not_false_eq_true, false_implies, true_implies, true_and, and_true, eq_self, false_or, or_false, false_and, and_false] at hUhT_910
                have e_929 : gI σ_s_904 (ad E a 0) 6 = 260 := by omega
                have hj_930 : jqq483 + 1 = jj_909 := by omega
                subst hj_930
                have hG_931 := hG_901.word (c2 := cc_908) (j2 := (jqq483 + 1)) (fun h9 => absurd rfl h9) (fun _ => by omega)
                refine th_calli (va_runSN (As := [.int (I z_905)]) (rest := [.int (I 1), .int (I z_489), .ref b]) ⟨hx, hb, hml, hown, hts⟩ (n_first l G y b0 σ_s_904 E hO z_905 (show rng z_905 from rz_905)) ⟨(va_cnB 1 hts gX5_readTest_X10_firstLetterHighest_n99 rfl rfl rfl (ml_12 hK) fl1 (by decide +kernel) ⟨Nat.le_of_ble_eq_true rfl, Nat.le_of_ble_eq_true rfl⟩), fl2, trivial⟩ (th_PS hK hH) rfl rfl hl.1 rfl (lv_room (Nat.le_of_ble_eq_true rfl)) dX5_readTest_168 ⟨Nat.le_of_ble_eq_true rfl, Nat.le_of_ble_eq_true rfl⟩) hS (fun z_934 σ_s_933 H locs rz_934 hw_932 hH hS => ?_)
                obtain ⟨e9, hw_932⟩ := hw_932
                replace e9 := e9.symm
                subst e9
                obtain ⟨_, hc_935⟩ := hO.cell h_b (by decide) (ci := 4) rfl
                refine th_callv (va_runV (As := [.int (I z_489), .int (I 1), .int (I z_934)]) (rest := []) ⟨hx, hb, hml, hown, hts⟩ (p6_addTest l G y b0 σ_s_904 E hO b h_b z_489 (show rng z_489 from rz_489) 1 (show rng 1 from (show rng 1 from ⟨by decide, by decide⟩)) z_934 (show rng z_934 from rz_934)) (cwV 3 hts gX5_readTest_X4_addTest rfl rfl rfl (by decide +kernel) ⟨Nat.le_of_ble_eq_true rfl, Nat.le_of_ble_eq_true rfl⟩) (th_PV hK hH rfl hc_935) rfl rfl hl.1 rfl (lv_room (Nat.le_of_ble_eq_true rfl)) dX5_readTest_171 ⟨Nat.le_of_ble_eq_true rfl, Nat.le_of_ble_eq_true rfl⟩) hS (fun σ_s_937 H locs hw_936 hH hS => ?_)
                obtain ⟨hO9, hF9, hw_936⟩ := hw_936
                have e_938 : gI σ_s_937 (ad E a 0) 6 = 260 := (fr.ki hO hF9 hkt (by decide) (by decide) _).trans e_929
                have hT_939 : TSt E σ_s_937 (ad E a 0) T cc_908 (jqq483 + 1) := TSt.mv hO hF9 hkt (by decide) hT_910
                have hUhT_939 := hT_939.2.2
                replace hO := hO9
                replace hF := hF.tu hF9 (by decide)
                replace hw_936 : (gI σ_s_904 b 13 < 12 → gI σ_s_937 b 13 = gI σ_s_904 b 13 + 1) ∧ (¬ gI σ_s_904 b 13 < 12 → gI σ_s_937 b 13 = gI σ_s_904 b 13) ∧ gI σ_s_937 b 3 = gI σ_s_904 b 3 := hw_936
                try replace hUhT_910 := hid.mk hUhT_910
                try replace hw_903 := hid.mk hw_903
                try simp only [h0_911, ne_eq, not_true_eq_false, not_false_eq_true, false_implies, true_implies, true_and, and_true, eq_self, false_or, or_false, false_and, and_false] at hUhT_939
                have e_940 : gI σ_s_937 (ad E a 0) 6 = 260 := by omega
                have e_941 : gI σ_s_937 b 3 = b30 := by omega
                obtain ⟨z_942, e_943, rz_942, lz_942, uz_942⟩ := hO.gi h_b (by decide) k4_13
                refine lv_goto (tgt := 190) hx hb dX5_readTest_174 (by decide) ?_
                exact th_vret hx hb hr hlocks hH hS ⟨hO, hF, ⟨cc_908, (jqq483 + 1), hT_939, (fun h9 => absurd rfl h9), fun _ => ⟨by omega, hG_931.was h0_911⟩, by omega, by omega⟩⟩ dX5_readTest_190
          · replace c_849 := mt (I_eq (a := z_489) (b := 62) rz_489 (show rng 62 from ⟨by decide, by decide⟩)).mpr c_849
            refine lv_aload_n hx hb dX5_readTest_130 rfl (lv_at hl 2 rfl) ?_
            refine lv_iconst (v := I 0) hx hb dX5_readTest_131 (by decide) ?_
            refine lv_iconst (v := I (-1)) hx hb dX5_readTest_132 (by decide) ?_
            refine lv_iconst (v := I 0) hx hb dX5_readTest_133 (by decide) ?_
            obtain ⟨_, hc_944⟩ := hO.cell h_b (by decide) (ci := 4) rfl
            refine th_callv (va_runV (As := [.int (I 0), .int (I (-1)), .int (I 0)]) (rest := []) ⟨hx, hb, hml, hown, hts⟩ (p6_addTest l G y b0 σ_J_485 E hO b h_b 0 (show rng 0 from (show rng 0 from ⟨by decide, by decide⟩)) (-1) (show rng (-1) from (show rng (-1) from ⟨by decide, by decide⟩)) 0 (show rng 0 from (show rng 0 from ⟨by decide, by decide⟩))) (cwV 3 hts gX5_readTest_X4_addTest rfl rfl rfl (by decide +kernel) ⟨Nat.le_of_ble_eq_true rfl, Nat.le_of_ble_eq_true rfl⟩) (th_PV hK hH rfl hc_944) rfl rfl hl.1 rfl (lv_room (Nat.le_of_ble_eq_true rfl)) dX5_readTest_134 ⟨Nat.le_of_ble_eq_true rfl, Nat.le_of_ble_eq_true rfl⟩) hS (fun σ_s_946 H locs hw_945 hH hS => ?_)
            obtain ⟨hO9, hF9, hw_945⟩ := hw_945
            have e_947 : gI σ_s_946 (ad E a 0) 7 = 0 := (fr.ki hO hF9 hkt (by decide) (by decide) _).trans e_486
            have e_948 : gI σ_s_946 (ad E a 0) 6 = z_489 := (fr.ki hO hF9 hkt (by decide) (by decide) _).trans e_490
            have hT_949 : TSt E σ_s_946 (ad E a 0) T 0 jqq483 := TSt.mv hO hF9 hkt (by decide) J_485_6
            have hUhT_949 := hT_949.2.2
            replace hO := hO9
            replace hF := hF.tu hF9 (by decide)
            replace hw_945 : (gI σ_J_485 b 13 < 12 → gI σ_s_946 b 13 = gI σ_J_485 b 13 + 1) ∧ (¬ gI σ_J_485 b 13 < 12 → gI σ_s_946 b 13 = gI σ_J_485 b 13) ∧ gI σ_s_946 b 3 = gI σ_J_485 b 3 := hw_945
            try replace hUJ_485_6 := hid.mk hUJ_485_6
            try simp only [ne_eq, not_true_eq_false, not_false_eq_true, false_implies, true_implies, true_and, and_true, eq_self, false_or, or_false, false_and, and_false] at hUhT_949
            have e_950 : gI σ_s_946 (ad E a 0) 7 = 0 := by omega
            have hk_951 : gI σ_s_946 (ad E a 0) 6 = tK T jqq483 := by omega
            have e_952 : gI σ_s_946 b 3 = b30 := by omega
            obtain ⟨z_953, e_954, rz_953, lz_953, uz_953⟩ := hO.gi h_b (by decide) k4_13
            have hG_955 := J_485_7.lend (fun _ => by omega)
            exact th_vret hx hb hr hlocks hH hS ⟨hO, hF, ⟨0, jqq483, hT_949, (fun h9 => absurd rfl h9), fun _ => ⟨by omega, hG_955⟩, by omega, by omega⟩⟩ dX5_readTest_137
    · replace c_658 := (I_eq (a := z_489) (b := 91) rz_489 (show rng 91 from ⟨by decide, by decide⟩)).mp c_658
      refine lv_iload_n hx hb dX5_readTest_26 rfl (lv_at hl 2 rfl) ?_
      refine lv_sipush (v := I 400) hx hb dX5_readTest_27 (by decide) ?_
      refine lv_icmp_ge (tgt := 104) hx hb dX5_readTest_30 (by decide) (fun c_956 => ?_) (fun c_956 => ?_)
      · replace c_956 := (I_le (a := 400) (b := v2q484) (show rng 400 from ⟨by decide, by decide⟩) rv2q484).mp c_956
        exfalso; omega
      · replace c_956 := mt (I_le (a := 400) (b := v2q484) (show rng 400 from ⟨by decide, by decide⟩) rv2q484).mpr c_956
        refine lv_aload_n hx hb dX5_readTest_33 rfl (lv_at hl 0 rfl) ?_
        refine ok.getR hO h_a (by decide) k11_0 (by decide) (fun _ _ he hv kk => th_get (ci := 5) (C := RX5) (T := TX5) (N := 1) hx hb hts inX5 hown hK hH he rfl 0 (by decide) fl0 hv dX5_readTest_34 kk) ?_
        refine ok.getIc hO hp_488 (by decide) k3_6 e_490 (fun _ _ he hv kk => th_getN (ci := 8) (C := RX8) (T := TX8) (N := 9) hx hb hts inX8 hown hK hH he rfl 6 (by decide) (nl_5 hK) hv dX5_readTest_37 kk) ?_
        refine lv_bipush (v := I 46) hx hb dX5_readTest_40 (by decide) ?_
        refine lv_icmp_ne (tgt := 49) hx hb dX5_readTest_42 (by decide) (fun c_957 => ?_) (fun c_957 => ?_)
        · replace c_957 := mt (I_eq (a := z_489) (b := 46) rz_489 (show rng 46 from ⟨by decide, by decide⟩)).mpr c_957
          refine lv_iconst (v := I 0) hx hb dX5_readTest_49 (by decide) ?_
          refine lv_istore_n (lv' := [(3, .int (I 0)), (0, .ref a), (1, .ref b), (2, .int (I v2q484))]) hx hb dX5_readTest_50 rfl hl (by decide) rfl (fun ls hl => ?_)
          refine lv_aload_n hx hb dX5_readTest_51 rfl (lv_at hl 1 rfl) ?_
          refine ok.getR hO h_a (by decide) k11_0 (by decide) (fun _ _ he hv kk => th_get (ci := 5) (C := RX5) (T := TX5) (N := 1) hx hb hts inX5 hown hK hH he rfl 0 (by decide) fl0 hv dX5_readTest_52 kk) ?_
          obtain ⟨_, hc_958⟩ := hO.cell hp_488 (by decide) (ci := 8) rfl
          refine th_callv (va_runV (As := []) (rest := []) ⟨hx, hb, hml, hown, hts⟩ (f_step l G y b0 σ_J_485 E hO (ad E a 0) hp_488 T 0 jqq483 J_485_6) (cwV 0 hts gX5_readTest_X8_step rfl rfl rfl (by decide +kernel) ⟨Nat.le_of_ble_eq_true rfl, Nat.le_of_ble_eq_true rfl⟩) (th_PV hK hH rfl hc_958) rfl rfl hl.1 rfl (lv_room (Nat.le_of_ble_eq_true rfl)) dX5_readTest_55 ⟨Nat.le_of_ble_eq_true rfl, Nat.le_of_ble_eq_true rfl⟩) hS (fun σ_s_960 H locs hw_959 hH hS => ?_)
          obtain ⟨hO9, hF9, hw_959⟩ := hw_959
          have e_961 : gI σ_s_960 b 3 = b30 := (fr.ki hO hF9 h_b (by decide) (by decide) _).trans J_485_8
          have e_962 : gI σ_s_960 b 13 = b130 := (fr.ki hO hF9 h_b (by decide) (by decide) _).trans J_485_9
          replace hO := hO9
          replace hF := hF.tu hF9 (by decide)
          replace hw_959 : ∃ c1 j1, TSt E σ_s_960 (ad E a 0) T c1 j1 ∧ c1 = 0 ∧ ((0 : Int) ≠ 0 → j1 = jqq483) ∧ ((0 : Int) = 0 → tK T jqq483 ≠ 259 → j1 = jqq483 + 1) := hw_959
          obtain ⟨cc_963, jj_964, hT_965, hw_959⟩ := hw_959
          have hUhT_965 := hT_965.2.2
          try replace hUJ_485_6 := hid.mk hUJ_485_6
          have h0_966 : cc_963 = 0 := by omega
          subst h0_966
          try simp only [ne_eq, not_true_eq_false, not_false_eq_true, false_implies, true_implies, true_and, and_true, eq_self, false_or, or_false, false_and, and_false] at hUhT_965
          have e_967 : gI σ_s_960 (ad E a 0) 7 = 0 := by omega
          have hk_968 : gI σ_s_960 (ad E a 0) 6 = tK T jj_964 := by omega
          have hj_969 : jqq483 + 1 = jj_964 := by omega
          subst hj_969
          have hG_970 := J_485_7.lplace (by omega)
          refine lv_iload_n hx hb dX5_readTest_58 rfl (lv_at hl 0 rfl) ?_
          refine lv_if_eq (tgt := 77) hx hb dX5_readTest_59 (by decide) (fun _ => ?_) (fun c_971 => absurd (by decide) c_971)
          refine lv_aload_n hx hb dX5_readTest_77 rfl (lv_at hl 2 rfl) ?_
          refine lv_iconst (v := I 0) hx hb dX5_readTest_78 (by decide) ?_
          refine lv_aload_n hx hb dX5_readTest_79 rfl (lv_at hl 1 rfl) ?_
          refine ok.getR hO h_a (by decide) k11_0 (by decide) (fun _ _ he hv kk => th_get (ci := 5) (C := RX5) (T := TX5) (N := 1) hx hb hts inX5 hown hK hH he rfl 0 (by decide) fl0 hv dX5_readTest_80 kk) ?_
          obtain ⟨_, hc_972⟩ := hO.cell hp_488 (by decide) (ci := 8) rfl
          refine th_calli (va_runV (As := []) (rest := [.int (I 0), .ref b]) ⟨hx, hb, hml, hown, hts⟩ (f_number l G y b0 σ_s_960 E hO (ad E a 0) hp_488 T 0 (jqq483 + 1) hT_965) (cwV 0 hts gX5_readTest_X8_takeNumber rfl rfl rfl (by decide +kernel) ⟨Nat.le_of_ble_eq_true rfl, Nat.le_of_ble_eq_true rfl⟩) (th_PV hK hH rfl hc_972) rfl rfl hl.1 rfl (lv_room (Nat.le_of_ble_eq_true rfl)) dX5_readTest_83 ⟨Nat.le_of_ble_eq_true rfl, Nat.le_of_ble_eq_true rfl⟩) hS (fun z_975 σ_s_974 H locs rz_975 hw_973 hH hS => ?_)
          obtain ⟨hO9, hF9, hw_973⟩ := hw_973
          have e_976 : gI σ_s_974 b 3 = b30 := (fr.ki hO hF9 h_b (by decide) (by decide) _).trans e_961
          have e_977 : gI σ_s_974 b 13 = b130 := (fr.ki hO hF9 h_b (by decide) (by decide) _).trans e_962
          replace hO := hO9
          replace hF := hF.tu hF9 (by decide)
          replace hw_973 : ∃ c1 j1, TSt E σ_s_974 (ad E a 0) T c1 j1 ∧ ((0 : Int) ≠ 0 → c1 = 0 ∧ j1 = (jqq483 + 1)) ∧ ((0 : Int) = 0 → nuR T (jqq483 + 1) c1 j1) := hw_973
          obtain ⟨cc_978, jj_979, hT_980, hw_973⟩ := hw_973
          have hUhT_980 := hT_980.2.2
          try replace hUhT_965 := hid.mk hUhT_965
          try replace hw_959 := hid.mk hw_959
          have hb_981 := (hw_973.2 rfl).le
          rcases Classical.em (cc_978 = 0) with h0_982 | h0_982
          · subst h0_982
            try simp only [ne_eq, not_true_eq_false, not_false_eq_true, false_implies, true_implies, true_and, and_true, eq_self, false_or, or_false, false_and, and_false] at hUhT_980
            have e_983 : gI σ_s_974 (ad E a 0) 7 = 0 := by omega
            have hk_984 : gI σ_s_974 (ad E a 0) 6 = tK T jj_979 := by omega
            have hG_985 := hG_970.num (c2 := 0) (j2 := jj_979) (fun h9 => absurd rfl h9) (fun _ => hw_973.2 rfl)
            obtain ⟨_, hc_986⟩ := hO.cell h_b (by decide) (ci := 4) rfl
            refine th_callv (va_runV (As := [.int (I 0), .int (I z_975)]) (rest := []) ⟨hx, hb, hml, hown, hts⟩ (p6_addLittle l G y b0 σ_s_974 E hO b h_b 0 (show rng 0 from (show rng 0 from ⟨by decide, by decide⟩)) (by omega) (by omega) z_975 (show rng z_975 from rz_975)) (cwV 2 hts gX5_readTest_X4_addLittle rfl rfl rfl (by decide +kernel) ⟨Nat.le_of_ble_eq_true rfl, Nat.le_of_ble_eq_true rfl⟩) (th_PV hK hH rfl hc_986) rfl rfl hl.1 rfl (lv_room (Nat.le_of_ble_eq_true rfl)) dX5_readTest_86 ⟨Nat.le_of_ble_eq_true rfl, Nat.le_of_ble_eq_true rfl⟩) hS (fun σ_s_988 H locs hw_987 hH hS => ?_)
            obtain ⟨hO9, hF9, hw_987⟩ := hw_987
            have e_989 : gI σ_s_988 (ad E a 0) 7 = 0 := (fr.ki hO hF9 hkt (by decide) (by decide) _).trans e_983
            have hT_990 : TSt E σ_s_988 (ad E a 0) T 0 jj_979 := TSt.mv hO hF9 hkt (by decide) hT_980
            have hUhT_990 := hT_990.2.2
            replace hO := hO9
            replace hF := hF.tu hF9 (by decide)
            replace hw_987 : gI σ_s_988 b 13 = gI σ_s_974 b 13 ∧ gI σ_s_988 b 3 = gI σ_s_974 b 3 := hw_987
            try replace hUhT_980 := hid.mk hUhT_980
            try replace hw_973 := hid.mk hw_973
            try simp only [ne_eq, not_true_eq_false, not_false_eq_true, false_implies, true_implies, true_and, and_true, eq_self, false_or, or_false, false_and, and_false] at hUhT_990
            have e_991 : gI σ_s_988 (ad E a 0) 7 = 0 := by omega
            have hk_992 : gI σ_s_988 (ad E a 0) 6 = tK T jj_979 := by omega
            have e_993 : gI σ_s_988 b 3 = b30 := by omega
            have e_994 : gI σ_s_988 b 13 = b130 := by omega
            refine lv_aload_n hx hb dX5_readTest_89 rfl (lv_at hl 1 rfl) ?_
            refine ok.getR hO h_a (by decide) k11_0 (by decide) (fun _ _ he hv kk => th_get (ci := 5) (C := RX5) (T := TX5) (N := 1) hx hb hts inX5 hown hK hH he rfl 0 (by decide) fl0 hv dX5_readTest_90 kk) ?_
            refine lv_bipush (v := I 93) hx hb dX5_readTest_93 (by decide) ?_
            obtain ⟨_, hc_995⟩ := hO.cell hp_488 (by decide) (ci := 8) rfl
            refine th_callv (va_runV (As := [.int (I 93)]) (rest := []) ⟨hx, hb, hml, hown, hts⟩ (f_expect l G y b0 σ_s_988 E hO (ad E a 0) hp_488 93 (show rng 93 from (show rng 93 from ⟨by decide, by decide⟩)) (by omega) (by omega) T 0 jj_979 hT_990) (cwV 1 hts gX5_readTest_X8_expect rfl rfl rfl (by decide +kernel) ⟨Nat.le_of_ble_eq_true rfl, Nat.le_of_ble_eq_true rfl⟩) (th_PV hK hH rfl hc_995) rfl rfl hl.1 rfl (lv_room (Nat.le_of_ble_eq_true rfl)) dX5_readTest_95 ⟨Nat.le_of_ble_eq_true rfl, Nat.le_of_ble_eq_true rfl⟩) hS (fun σ_s_997 H locs hw_996 hH hS => ?_)
            obtain ⟨hO9, hF9, hw_996⟩ := hw_996
            have e_998 : gI σ_s_997 b 3 = b30 := (fr.ki hO hF9 h_b (by decide) (by decide) _).trans e_993
            have e_999 : gI σ_s_997 b 13 = b130 := (fr.ki hO hF9 h_b (by decide) (by decide) _).trans e_994
            replace hO := hO9
            replace hF := hF.tu hF9 (by decide)
            replace hw_996 : ∃ c1 j1, TSt E σ_s_997 (ad E a 0) T c1 j1 ∧ ((0 : Int) ≠ 0 → c1 = 0 ∧ j1 = jj_979) ∧ ((0 : Int) = 0 → (tK T jj_979 = 93 ∧ c1 = 0 ∧ j1 = jj_979 + 1) ∨ (tK T jj_979 ≠ 93 ∧ c1 = 1 ∧ j1 = jj_979)) := hw_996
            obtain ⟨cc_1000, jj_1001, hT_1002, hw_996⟩ := hw_996
            have hUhT_1002 := hT_1002.2.2
            try replace hUhT_990 := hid.mk hUhT_990
            try replace hw_987 := hid.mk hw_987
            rcases Classical.em (cc_1000 = 0) with h0_1003 | h0_1003
            · subst h0_1003
              try simp only [ne_eq, not_true_eq_false, not_false_eq_true, false_implies, true_implies, true_and, and_true, eq_self, false_or, or_false, false_and, and_false] at hUhT_1002
              have e_1004 : gI σ_s_997 (ad E a 0) 7 = 0 := by omega
              have hk_1005 : gI σ_s_997 (ad E a 0) 6 = tK T jj_1001 := by omega
              have hj_1006 : jj_979 + 1 = jj_1001 := by omega
              subst hj_1006
              have hG_1007 := hG_985.need (c2 := 0) (j2 := (jj_979 + 1)) (fun h9 => absurd rfl h9) (fun _ => by omega)
              refine lv_iinc (v := I (v2q484 + 1)) (lv' := [(2, .int (I (v2q484 + 1))), (3, .int (I 0)), (0, .ref a), (1, .ref b)]) hx hb dX5_readTest_98 hl (k := 3) rfl (I_add _ _) (by decide) rfl (fun ls hl => ?_)
              refine lv_goto (tgt := 2) hx hb dX5_readTest_101 (by decide) ?_
              replace hl : lv_has ls 4 [(2, .int (I (v2q484 + 1))), (0, .ref a), (1, .ref b)] := lv_sub hl [0, 2, 3] rfl
              exact ihJ_485 (v2q484 + 1, (jj_979 + 1)) σ_s_997 _ _ _ (by first | (dsimp only; omega) | omega) ⟨hO, hF, hH, hS, lv_sub hl [1, 2, 0] rfl, ⟨by first | (dsimp only; omega) | omega, by first | (dsimp only; omega) | omega⟩, by first | (dsimp only; omega) | omega, by first | (dsimp only; omega) | omega, by first | (dsimp only; omega) | omega, by first | (dsimp only; omega) | omega, by first | (dsimp only; omega) | omega, by first | (dsimp only; omega) | omega, hT_1002, (hG_1007.ec rfl rfl (fun _ => by omega)), e_998, e_999⟩
            · try simp only [h0_1003, ne_eq, not_true_eq_false, not_false_eq_true, false_implies, true_implies, true_and, and_true, eq_self, false_or, or_false, false_and, and_false] at hUhT_1002
              have e_1008 : gI σ_s_997 (ad E a 0) 6 = 260 := by omega
              have hj_1009 : jj_979 = jj_1001 := by omega
              subst hj_1009
              have hG_1010 := hG_985.need (c2 := cc_1000) (j2 := jj_979) (fun h9 => absurd rfl h9) (fun _ => by omega)
              refine lv_iinc (v := I (v2q484 + 1)) (lv' := [(2, .int (I (v2q484 + 1))), (3, .int (I 0)), (0, .ref a), (1, .ref b)]) hx hb dX5_readTest_98 hl (k := 3) rfl (I_add _ _) (by decide) rfl (fun ls hl => ?_)
              refine lv_goto (tgt := 2) hx hb dX5_readTest_101 (by decide) ?_
              refine lv_aload_n hx hb dX5_readTest_2 rfl (lv_at hl 2 rfl) ?_
              refine ok.getR hO h_a (by decide) k11_0 (by decide) (fun _ _ he hv kk => th_get (ci := 5) (C := RX5) (T := TX5) (N := 1) hx hb hts inX5 hown hK hH he rfl 0 (by decide) fl0 hv dX5_readTest_3 kk) ?_
              refine ok.getIc hO hp_488 (by decide) k3_6 e_1008 (fun _ _ he hv kk => th_getN (ci := 8) (C := RX8) (T := TX8) (N := 9) hx hb hts inX8 hown hK hH he rfl 6 (by decide) (nl_5 hK) hv dX5_readTest_6 kk) ?_
              refine lv_bipush (v := I 46) hx hb dX5_readTest_9 (by decide) ?_
              refine lv_icmp_eq (tgt := 26) hx hb dX5_readTest_11 (by decide) (fun c_1011 => absurd c_1011 (by decide)) (fun _ => ?_)
              refine lv_aload_n hx hb dX5_readTest_14 rfl (lv_at hl 2 rfl) ?_
              refine ok.getR hO h_a (by decide) k11_0 (by decide) (fun _ _ he hv kk => th_get (ci := 5) (C := RX5) (T := TX5) (N := 1) hx hb hts inX5 hown hK hH he rfl 0 (by decide) fl0 hv dX5_readTest_15 kk) ?_
              refine ok.getIc hO hp_488 (by decide) k3_6 e_1008 (fun _ _ he hv kk => th_getN (ci := 8) (C := RX8) (T := TX8) (N := 9) hx hb hts inX8 hown hK hH he rfl 6 (by decide) (nl_5 hK) hv dX5_readTest_18 kk) ?_
              refine lv_bipush (v := I 91) hx hb dX5_readTest_21 (by decide) ?_
              refine lv_icmp_ne (tgt := 104) hx hb dX5_readTest_23 (by decide) (fun _ => ?_) (fun c_1012 => absurd c_1012 (by decide))
              refine lv_aload_n hx hb dX5_readTest_104 rfl (lv_at hl 2 rfl) ?_
              refine ok.getR hO h_a (by decide) k11_0 (by decide) (fun _ _ he hv kk => th_get (ci := 5) (C := RX5) (T := TX5) (N := 1) hx hb hts inX5 hown hK hH he rfl 0 (by decide) fl0 hv dX5_readTest_105 kk) ?_
              refine ok.getIc hO hp_488 (by decide) k3_6 e_1008 (fun _ _ he hv kk => th_getN (ci := 8) (C := RX8) (T := TX8) (N := 9) hx hb hts inX8 hown hK hH he rfl 6 (by decide) (nl_5 hK) hv dX5_readTest_108 kk) ?_
              refine lv_istore_n (lv' := [(2, .int (I 260)), (3, .int (I 0)), (0, .ref a), (1, .ref b)]) hx hb dX5_readTest_111 rfl hl (by decide) rfl (fun ls hl => ?_)
              refine lv_iload_n hx hb dX5_readTest_112 rfl (lv_at hl 0 rfl) ?_
              refine lv_bipush (v := I 61) hx hb dX5_readTest_113 (by decide) ?_
              refine lv_icmp_eq (tgt := 138) hx hb dX5_readTest_115 (by decide) (fun c_1013 => absurd c_1013 (by decide)) (fun _ => ?_)
              refine lv_iload_n hx hb dX5_readTest_118 rfl (lv_at hl 0 rfl) ?_
              refine lv_bipush (v := I 60) hx hb dX5_readTest_119 (by decide) ?_
              refine lv_icmp_eq (tgt := 138) hx hb dX5_readTest_121 (by decide) (fun c_1014 => absurd c_1014 (by decide)) (fun _ => ?_)
              refine lv_iload_n hx hb dX5_readTest_124 rfl (lv_at hl 0 rfl) ?_
              refine lv_bipush (v := I 62) hx hb dX5_readTest_125 (by decide) ?_
              refine lv_icmp_eq (tgt := 138) hx hb dX5_readTest_127 (by decide) (fun c_1015 => absurd c_1015 (by decide)) (fun _ => ?_)
              refine lv_aload_n hx hb dX5_readTest_130 rfl (lv_at hl 3 rfl) ?_
              refine lv_iconst (v := I 0) hx hb dX5_readTest_131 (by decide) ?_
              refine lv_iconst (v := I (-1)) hx hb dX5_readTest_132 (by decide) ?_
              refine lv_iconst (v := I 0) hx hb dX5_readTest_133 (by decide) ?_
              obtain ⟨_, hc_1016⟩ := hO.cell h_b (by decide) (ci := 4) rfl
              refine th_callv (va_runV (As := [.int (I 0), .int (I (-1)), .int (I 0)]) (rest := []) ⟨hx, hb, hml, hown, hts⟩ (p6_addTest l G y b0 σ_s_997 E hO b h_b 0 (show rng 0 from (show rng 0 from ⟨by decide, by decide⟩)) (-1) (show rng (-1) from (show rng (-1) from ⟨by decide, by decide⟩)) 0 (show rng 0 from (show rng 0 from ⟨by decide, by decide⟩))) (cwV 3 hts gX5_readTest_X4_addTest rfl rfl rfl (by decide +kernel) ⟨Nat.le_of_ble_eq_true rfl, Nat.le_of_ble_eq_true rfl⟩) (th_PV hK hH rfl hc_1016) rfl rfl hl.1 rfl (lv_room (Nat.le_of_ble_eq_true rfl)) dX5_readTest_134 ⟨Nat.le_of_ble_eq_true rfl, Nat.le_of_ble_eq_true rfl⟩) hS (fun σ_s_1018 H locs hw_1017 hH hS => ?_)
              obtain ⟨hO9, hF9, hw_1017⟩ := hw_1017
              have e_1019 : gI σ_s_1018 (ad E a 0) 6 = 260 := (fr.ki hO hF9 hkt (by decide) (by decide) _).trans e_1008
              have hT_1020 : TSt E σ_s_1018 (ad E a 0) T cc_1000 jj_979 := TSt.mv hO hF9 hkt (by decide) hT_1002
              have hUhT_1020 := hT_1020.2.2
              replace hO := hO9
              replace hF := hF.tu hF9 (by decide)
              replace hw_1017 : (gI σ_s_997 b 13 < 12 → gI σ_s_1018 b 13 = gI σ_s_997 b 13 + 1) ∧ (¬ gI σ_s_997 b 13 < 12 → gI σ_s_1018 b 13 = gI σ_s_997 b 13) ∧ gI σ_s_1018 b 3 = gI σ_s_997 b 3 := hw_1017
              try replace hUhT_1002 := hid.mk hUhT_1002
              try replace hw_996 := hid.mk hw_996
              try simp only [h0_1003, ne_eq, not_true_eq_false, not_false_eq_true, false_implies, true_implies, true_and, and_true, eq_self, false_or, or_false, false_and, and_false] at hUhT_1020
              have e_1021 : gI σ_s_1018 (ad E a 0) 6 = 260 := by omega
              have e_1022 : gI σ_s_1018 b 3 = b30 := by omega
              obtain ⟨z_1023, e_1024, rz_1023, lz_1023, uz_1023⟩ := hO.gi h_b (by decide) k4_13
              exact th_vret hx hb hr hlocks hH hS ⟨hO, hF, ⟨cc_1000, jj_979, hT_1020, (fun h9 => absurd rfl h9), fun _ => ⟨by omega, hG_1010.was h0_1003⟩, by omega, by omega⟩⟩ dX5_readTest_137
          · try simp only [h0_982, ne_eq, not_true_eq_false, not_false_eq_true, false_implies, true_implies, true_and, and_true, eq_self, false_or, or_false, false_and, and_false] at hUhT_980
            have e_1025 : gI σ_s_974 (ad E a 0) 6 = 260 := by omega
            have hG_1026 := hG_970.num (c2 := cc_978) (j2 := jj_979) (fun h9 => absurd rfl h9) (fun _ => hw_973.2 rfl)
            obtain ⟨_, hc_1027⟩ := hO.cell h_b (by decide) (ci := 4) rfl
            refine th_callv (va_runV (As := [.int (I 0), .int (I z_975)]) (rest := []) ⟨hx, hb, hml, hown, hts⟩ (p6_addLittle l G y b0 σ_s_974 E hO b h_b 0 (show rng 0 from (show rng 0 from ⟨by decide, by decide⟩)) (by omega) (by omega) z_975 (show rng z_975 from rz_975)) (cwV 2 hts gX5_readTest_X4_addLittle rfl rfl rfl (by decide +kernel) ⟨Nat.le_of_ble_eq_true rfl, Nat.le_of_ble_eq_true rfl⟩) (th_PV hK hH rfl hc_1027) rfl rfl hl.1 rfl (lv_room (Nat.le_of_ble_eq_true rfl)) dX5_readTest_86 ⟨Nat.le_of_ble_eq_true rfl, Nat.le_of_ble_eq_true rfl⟩) hS (fun σ_s_1029 H locs hw_1028 hH hS => ?_)
            obtain ⟨hO9, hF9, hw_1028⟩ := hw_1028
            have e_1030 : gI σ_s_1029 (ad E a 0) 6 = 260 := (fr.ki hO hF9 hkt (by decide) (by decide) _).trans e_1025
            have hT_1031 : TSt E σ_s_1029 (ad E a 0) T cc_978 jj_979 := TSt.mv hO hF9 hkt (by decide) hT_980
            have hUhT_1031 := hT_1031.2.2
            replace hO := hO9
            replace hF := hF.tu hF9 (by decide)
            replace hw_1028 : gI σ_s_1029 b 13 = gI σ_s_974 b 13 ∧ gI σ_s_1029 b 3 = gI σ_s_974 b 3 := hw_1028
            try replace hUhT_980 := hid.mk hUhT_980
            try replace hw_973 := hid.mk hw_973
            try simp only [h0_982, ne_eq, not_true_eq_false, not_false_eq_true, false_implies, true_implies, true_and, and_true, eq_self, false_or, or_false, false_and, and_false] at hUhT_1031
            have e_1032 : gI σ_s_1029 (ad E a 0) 6 = 260 := by omega
            have e_1033 : gI σ_s_1029 b 3 = b30 := by omega
            have e_1034 : gI σ_s_1029 b 13 = b130 := by omega
            refine lv_aload_n hx hb dX5_readTest_89 rfl (lv_at hl 1 rfl) ?_
            refine ok.getR hO h_a (by decide) k11_0 (by decide) (fun _ _ he hv kk => th_get (ci := 5) (C := RX5) (T := TX5) (N := 1) hx hb hts inX5 hown hK hH he rfl 0 (by decide) fl0 hv dX5_readTest_90 kk) ?_
            refine lv_bipush (v := I 93) hx hb dX5_readTest_93 (by decide) ?_
            obtain ⟨_, hc_1035⟩ := hO.cell hp_488 (by decide) (ci := 8) rfl
            refine th_callv (va_runV (As := [.int (I 93)]) (rest := []) ⟨hx, hb, hml, hown, hts⟩ (f_expect l G y b0 σ_s_1029 E hO (ad E a 0) hp_488 93 (show rng 93 from (show rng 93 from ⟨by decide, by decide⟩)) (by omega) (by omega) T cc_978 jj_979 hT_1031) (cwV 1 hts gX5_readTest_X8_expect rfl rfl rfl (by decide +kernel) ⟨Nat.le_of_ble_eq_true rfl, Nat.le_of_ble_eq_true rfl⟩) (th_PV hK hH rfl hc_1035) rfl rfl hl.1 rfl (lv_room (Nat.le_of_ble_eq_true rfl)) dX5_readTest_95 ⟨Nat.le_of_ble_eq_true rfl, Nat.le_of_ble_eq_true rfl⟩) hS (fun σ_s_1037 H locs hw_1036 hH hS => ?_)
            obtain ⟨hO9, hF9, hw_1036⟩ := hw_1036
            have e_1038 : gI σ_s_1037 b 3 = b30 := (fr.ki hO hF9 h_b (by decide) (by decide) _).trans e_1033
            have e_1039 : gI σ_s_1037 b 13 = b130 := (fr.ki hO hF9 h_b (by decide) (by decide) _).trans e_1034
            replace hO := hO9
            replace hF := hF.tu hF9 (by decide)
            replace hw_1036 : ∃ c1 j1, TSt E σ_s_1037 (ad E a 0) T c1 j1 ∧ (cc_978 ≠ 0 → c1 = cc_978 ∧ j1 = jj_979) ∧ (cc_978 = 0 → (tK T jj_979 = 93 ∧ c1 = 0 ∧ j1 = jj_979 + 1) ∨ (tK T jj_979 ≠ 93 ∧ c1 = 1 ∧ j1 = jj_979)) := hw_1036
            obtain ⟨cc_1040, jj_1041, hT_1042, hw_1036⟩ := hw_1036
            have hUhT_1042 := hT_1042.2.2
            try replace hUhT_1031 := hid.mk hUhT_1031
            try replace hw_1028 := hid.mk hw_1028
            have hc_1043 : cc_978 = cc_1040 := by omega
            subst hc_1043
            have hc_1044 : jj_979 = jj_1041 := by omega
            subst hc_1044
            try simp only [h0_982, ne_eq, not_true_eq_false, not_false_eq_true, false_implies, true_implies, true_and, and_true, eq_self, false_or, or_false, false_and, and_false] at hUhT_1042
            have e_1045 : gI σ_s_1037 (ad E a 0) 6 = 260 := by omega
            refine lv_iinc (v := I (v2q484 + 1)) (lv' := [(2, .int (I (v2q484 + 1))), (3, .int (I 0)), (0, .ref a), (1, .ref b)]) hx hb dX5_readTest_98 hl (k := 3) rfl (I_add _ _) (by decide) rfl (fun ls hl => ?_)
            refine lv_goto (tgt := 2) hx hb dX5_readTest_101 (by decide) ?_
            refine lv_aload_n hx hb dX5_readTest_2 rfl (lv_at hl 2 rfl) ?_
            refine ok.getR hO h_a (by decide) k11_0 (by decide) (fun _ _ he hv kk => th_get (ci := 5) (C := RX5) (T := TX5) (N := 1) hx hb hts inX5 hown hK hH he rfl 0 (by decide) fl0 hv dX5_readTest_3 kk) ?_
            refine ok.getIc hO hp_488 (by decide) k3_6 e_1045 (fun _ _ he hv kk => th_getN (ci := 8) (C := RX8) (T := TX8) (N := 9) hx hb hts inX8 hown hK hH he rfl 6 (by decide) (nl_5 hK) hv dX5_readTest_6 kk) ?_
            refine lv_bipush (v := I 46) hx hb dX5_readTest_9 (by decide) ?_
            refine lv_icmp_eq (tgt := 26) hx hb dX5_readTest_11 (by decide) (fun c_1046 => absurd c_1046 (by decide)) (fun _ => ?_)
            refine lv_aload_n hx hb dX5_readTest_14 rfl (lv_at hl 2 rfl) ?_
            refine ok.getR hO h_a (by decide) k11_0 (by decide) (fun _ _ he hv kk => th_get (ci := 5) (C := RX5) (T := TX5) (N := 1) hx hb hts inX5 hown hK hH he rfl 0 (by decide) fl0 hv dX5_readTest_15 kk) ?_
            refine ok.getIc hO hp_488 (by decide) k3_6 e_1045 (fun _ _ he hv kk => th_getN (ci := 8) (C := RX8) (T := TX8) (N := 9) hx hb hts inX8 hown hK hH he rfl 6 (by decide) (nl_5 hK) hv dX5_readTest_18 kk) ?_
            refine lv_bipush (v := I 91) hx hb dX5_readTest_21 (by decide) ?_
            refine lv_icmp_ne (tgt := 104) hx hb dX5_readTest_23 (by decide) (fun _ => ?_) (fun c_1047 => absurd c_1047 (by decide))
            refine lv_aload_n hx hb dX5_readTest_104 rfl (lv_at hl 2 rfl) ?_
            refine ok.getR hO h_a (by decide) k11_0 (by decide) (fun _ _ he hv kk => th_get (ci := 5) (C := RX5) (T := TX5) (N := 1) hx hb hts inX5 hown hK hH he rfl 0 (by decide) fl0 hv dX5_readTest_105 kk) ?_
            refine ok.getIc hO hp_488 (by decide) k3_6 e_1045 (fun _ _ he hv kk => th_getN (ci := 8) (C := RX8) (T := TX8) (N := 9) hx hb hts inX8 hown hK hH he rfl 6 (by decide) (nl_5 hK) hv dX5_readTest_108 kk) ?_
            refine lv_istore_n (lv' := [(2, .int (I 260)), (3, .int (I 0)), (0, .ref a), (1, .ref b)]) hx hb dX5_readTest_111 rfl hl (by decide) rfl (fun ls hl => ?_)
            refine lv_iload_n hx hb dX5_readTest_112 rfl (lv_at hl 0 rfl) ?_
            refine lv_bipush (v := I 61) hx hb dX5_readTest_113 (by decide) ?_
            refine lv_icmp_eq (tgt := 138) hx hb dX5_readTest_115 (by decide) (fun c_1048 => absurd c_1048 (by decide)) (fun _ => ?_)
            refine lv_iload_n hx hb dX5_readTest_118 rfl (lv_at hl 0 rfl) ?_
            refine lv_bipush (v := I 60) hx hb dX5_readTest_119 (by decide) ?_
            refine lv_icmp_eq (tgt := 138) hx hb dX5_readTest_121 (by decide) (fun c_1049 => absurd c_1049 (by decide)) (fun _ => ?_)
            refine lv_iload_n hx hb dX5_readTest_124 rfl (lv_at hl 0 rfl) ?_
            refine lv_bipush (v := I 62) hx hb dX5_readTest_125 (by decide) ?_
            refine lv_icmp_eq (tgt := 138) hx hb dX5_readTest_127 (by decide) (fun c_1050 => absurd c_1050 (by decide)) (fun _ => ?_)
            refine lv_aload_n hx hb dX5_readTest_130 rfl (lv_at hl 3 rfl) ?_
            refine lv_iconst (v := I 0) hx hb dX5_readTest_131 (by decide) ?_
            refine lv_iconst (v := I (-1)) hx hb dX5_readTest_132 (by decide) ?_
            refine lv_iconst (v := I 0) hx hb dX5_readTest_133 (by decide) ?_
            obtain ⟨_, hc_1051⟩ := hO.cell h_b (by decide) (ci := 4) rfl
            refine th_callv (va_runV (As := [.int (I 0), .int (I (-1)), .int (I 0)]) (rest := []) ⟨hx, hb, hml, hown, hts⟩ (p6_addTest l G y b0 σ_s_1037 E hO b h_b 0 (show rng 0 from (show rng 0 from ⟨by decide, by decide⟩)) (-1) (show rng (-1) from (show rng (-1) from ⟨by decide, by decide⟩)) 0 (show rng 0 from (show rng 0 from ⟨by decide, by decide⟩))) (cwV 3 hts gX5_readTest_X4_addTest rfl rfl rfl (by decide +kernel) ⟨Nat.le_of_ble_eq_true rfl, Nat.le_of_ble_eq_true rfl⟩) (th_PV hK hH rfl hc_1051) rfl rfl hl.1 rfl (lv_room (Nat.le_of_ble_eq_true rfl)) dX5_readTest_134 ⟨Nat.le_of_ble_eq_true rfl, Nat.le_of_ble_eq_true rfl⟩) hS (fun σ_s_1053 H locs hw_1052 hH hS => ?_)
            obtain ⟨hO9, hF9, hw_1052⟩ := hw_1052
            have e_1054 : gI σ_s_1053 (ad E a 0) 6 = 260 := (fr.ki hO hF9 hkt (by decide) (by decide) _).trans e_1045
            have hT_1055 : TSt E σ_s_1053 (ad E a 0) T cc_978 jj_979 := TSt.mv hO hF9 hkt (by decide) hT_1042
            have hUhT_1055 := hT_1055.2.2
            replace hO := hO9
            replace hF := hF.tu hF9 (by decide)
            replace hw_1052 : (gI σ_s_1037 b 13 < 12 → gI σ_s_1053 b 13 = gI σ_s_1037 b 13 + 1) ∧ (¬ gI σ_s_1037 b 13 < 12 → gI σ_s_1053 b 13 = gI σ_s_1037 b 13) ∧ gI σ_s_1053 b 3 = gI σ_s_1037 b 3 := hw_1052
            try replace hUhT_1042 := hid.mk hUhT_1042
            try replace hw_1036 := hid.mk hw_1036
            try simp only [h0_982, ne_eq, not_true_eq_false, not_false_eq_true, false_implies, true_implies, true_and, and_true, eq_self, false_or, or_false, false_and, and_false] at hUhT_1055
            have e_1056 : gI σ_s_1053 (ad E a 0) 6 = 260 := by omega
            have e_1057 : gI σ_s_1053 b 3 = b30 := by omega
            obtain ⟨z_1058, e_1059, rz_1058, lz_1058, uz_1058⟩ := hO.gi h_b (by decide) k4_13
            exact th_vret hx hb hr hlocks hH hS ⟨hO, hF, ⟨cc_978, jj_979, hT_1055, (fun h9 => absurd rfl h9), fun _ => ⟨by omega, hG_1026.was h0_982⟩, by omega, by omega⟩⟩ dX5_readTest_137
        · replace c_957 := (I_eq (a := z_489) (b := 46) rz_489 (show rng 46 from ⟨by decide, by decide⟩)).mp c_957
          refine lv_iconst (v := I 1) hx hb dX5_readTest_45 (by decide) ?_
          refine lv_goto (tgt := 50) hx hb dX5_readTest_46 (by decide) ?_
          refine lv_istore_n (lv' := [(3, .int (I 1)), (0, .ref a), (1, .ref b), (2, .int (I v2q484))]) hx hb dX5_readTest_50 rfl hl (by decide) rfl (fun ls hl => ?_)
          refine lv_aload_n hx hb dX5_readTest_51 rfl (lv_at hl 1 rfl) ?_
          refine ok.getR hO h_a (by decide) k11_0 (by decide) (fun _ _ he hv kk => th_get (ci := 5) (C := RX5) (T := TX5) (N := 1) hx hb hts inX5 hown hK hH he rfl 0 (by decide) fl0 hv dX5_readTest_52 kk) ?_
          obtain ⟨_, hc_1060⟩ := hO.cell hp_488 (by decide) (ci := 8) rfl
          refine th_callv (va_runV (As := []) (rest := []) ⟨hx, hb, hml, hown, hts⟩ (f_step l G y b0 σ_J_485 E hO (ad E a 0) hp_488 T 0 jqq483 J_485_6) (cwV 0 hts gX5_readTest_X8_step rfl rfl rfl (by decide +kernel) ⟨Nat.le_of_ble_eq_true rfl, Nat.le_of_ble_eq_true rfl⟩) (th_PV hK hH rfl hc_1060) rfl rfl hl.1 rfl (lv_room (Nat.le_of_ble_eq_true rfl)) dX5_readTest_55 ⟨Nat.le_of_ble_eq_true rfl, Nat.le_of_ble_eq_true rfl⟩) hS (fun σ_s_1062 H locs hw_1061 hH hS => ?_)
          obtain ⟨hO9, hF9, hw_1061⟩ := hw_1061
          have e_1063 : gI σ_s_1062 b 3 = b30 := (fr.ki hO hF9 h_b (by decide) (by decide) _).trans J_485_8
          have e_1064 : gI σ_s_1062 b 13 = b130 := (fr.ki hO hF9 h_b (by decide) (by decide) _).trans J_485_9
          replace hO := hO9
          replace hF := hF.tu hF9 (by decide)
          replace hw_1061 : ∃ c1 j1, TSt E σ_s_1062 (ad E a 0) T c1 j1 ∧ c1 = 0 ∧ ((0 : Int) ≠ 0 → j1 = jqq483) ∧ ((0 : Int) = 0 → tK T jqq483 ≠ 259 → j1 = jqq483 + 1) := hw_1061
          obtain ⟨cc_1065, jj_1066, hT_1067, hw_1061⟩ := hw_1061
          have hUhT_1067 := hT_1067.2.2
          try replace hUJ_485_6 := hid.mk hUJ_485_6
          have h0_1068 : cc_1065 = 0 := by omega
          subst h0_1068
          try simp only [ne_eq, not_true_eq_false, not_false_eq_true, false_implies, true_implies, true_and, and_true, eq_self, false_or, or_false, false_and, and_false] at hUhT_1067
          have e_1069 : gI σ_s_1062 (ad E a 0) 7 = 0 := by omega
          have hk_1070 : gI σ_s_1062 (ad E a 0) 6 = tK T jj_1066 := by omega
          have hj_1071 : jqq483 + 1 = jj_1066 := by omega
          subst hj_1071
          have hG_1072 := J_485_7.lkey (by omega)
          refine lv_iload_n hx hb dX5_readTest_58 rfl (lv_at hl 0 rfl) ?_
          refine lv_if_eq (tgt := 77) hx hb dX5_readTest_59 (by decide) (fun c_1073 => absurd c_1073 (by decide)) (fun _ => ?_)
          refine lv_aload_n hx hb dX5_readTest_62 rfl (lv_at hl 2 rfl) ?_
          refine lv_iconst (v := I 1) hx hb dX5_readTest_63 (by decide) ?_
          refine lv_aload_n hx hb dX5_readTest_64 rfl (lv_at hl 1 rfl) ?_
          refine ok.getR hO h_a (by decide) k11_0 (by decide) (fun _ _ he hv kk => th_get (ci := 5) (C := RX5) (T := TX5) (N := 1) hx hb hts inX5 hown hK hH he rfl 0 (by decide) fl0 hv dX5_readTest_65 kk) ?_
          obtain ⟨_, hc_1074⟩ := hO.cell hp_488 (by decide) (ci := 8) rfl
          refine th_calli (va_runV (As := []) (rest := [.int (I 1), .ref b]) ⟨hx, hb, hml, hown, hts⟩ (f_letters l G y b0 σ_s_1062 E hO (ad E a 0) hp_488 T 0 (jqq483 + 1) hT_1067) (cwV 0 hts gX5_readTest_X8_takeLetters rfl rfl rfl (by decide +kernel) ⟨Nat.le_of_ble_eq_true rfl, Nat.le_of_ble_eq_true rfl⟩) (th_PV hK hH rfl hc_1074) rfl rfl hl.1 rfl (lv_room (Nat.le_of_ble_eq_true rfl)) dX5_readTest_68 ⟨Nat.le_of_ble_eq_true rfl, Nat.le_of_ble_eq_true rfl⟩) hS (fun z_1077 σ_s_1076 H locs rz_1077 hw_1075 hH hS => ?_)
          obtain ⟨hO9, hF9, hw_1075⟩ := hw_1075
          have e_1078 : gI σ_s_1076 b 3 = b30 := (fr.ki hO hF9 h_b (by decide) (by decide) _).trans e_1063
          have e_1079 : gI σ_s_1076 b 13 = b130 := (fr.ki hO hF9 h_b (by decide) (by decide) _).trans e_1064
          replace hO := hO9
          replace hF := hF.tu hF9 (by decide)
          replace hw_1075 : ∃ c1 j1, TSt E σ_s_1076 (ad E a 0) T c1 j1 ∧ ((0 : Int) ≠ 0 → c1 = 0 ∧ j1 = (jqq483 + 1)) ∧ ((0 : Int) = 0 → (tK T (jqq483 + 1) ≠ 256 ∧ c1 = 1 ∧ j1 = (jqq483 + 1)) ∨ (tK T (jqq483 + 1) = 256 ∧ 6 < tL T (jqq483 + 1) ∧ c1 = 2 ∧ j1 = (jqq483 + 1)) ∨ (tK T (jqq483 + 1) = 256 ∧ tL T (jqq483 + 1) ≤ 6 ∧ c1 = 0 ∧ j1 = (jqq483 + 1) + 1 ∧ z_1077 = tV T (jqq483 + 1))) := hw_1075
          obtain ⟨cc_1080, jj_1081, hT_1082, hw_1075⟩ := hw_1075
          have hUhT_1082 := hT_1082.2.2
          try replace hUhT_1067 := hid.mk hUhT_1067
          try replace hw_1061 := hid.mk hw_1061
          rcases Classical.em (cc_1080 = 0) with h0_1083 | h0_1083
          · subst h0_1083
            try simp only [ne_eq, not_true_eq_false, not_false_eq_true, false_implies, true_implies, true_and, and_true, eq_self, false_or, or_false, false_and, and_false] at hUhT_1082
            have e_1084 : gI σ_s_1076 (ad E a 0) 7 = 0 := by omega
            have hk_1085 : gI σ_s_1076 (ad E a 0) 6 = tK T jj_1081 := by omega
            have hj_1086 : (jqq483 + 1) + 1 = jj_1081 := by omega
            subst hj_1086
            have hG_1087 := hG_1072.word (c2 := 0) (j2 := ((jqq483 + 1) + 1)) (fun h9 => absurd rfl h9) (fun _ => by omega)
            obtain ⟨_, hc_1088⟩ := hO.cell h_b (by decide) (ci := 4) rfl
            refine th_callv (va_runV (As := [.int (I 1), .int (I z_1077)]) (rest := []) ⟨hx, hb, hml, hown, hts⟩ (p6_addLittle l G y b0 σ_s_1076 E hO b h_b 1 (show rng 1 from (show rng 1 from ⟨by decide, by decide⟩)) (by omega) (by omega) z_1077 (show rng z_1077 from rz_1077)) (cwV 2 hts gX5_readTest_X4_addLittle rfl rfl rfl (by decide +kernel) ⟨Nat.le_of_ble_eq_true rfl, Nat.le_of_ble_eq_true rfl⟩) (th_PV hK hH rfl hc_1088) rfl rfl hl.1 rfl (lv_room (Nat.le_of_ble_eq_true rfl)) dX5_readTest_71 ⟨Nat.le_of_ble_eq_true rfl, Nat.le_of_ble_eq_true rfl⟩) hS (fun σ_s_1090 H locs hw_1089 hH hS => ?_)
            obtain ⟨hO9, hF9, hw_1089⟩ := hw_1089
            have e_1091 : gI σ_s_1090 (ad E a 0) 7 = 0 := (fr.ki hO hF9 hkt (by decide) (by decide) _).trans e_1084
            have hT_1092 : TSt E σ_s_1090 (ad E a 0) T 0 ((jqq483 + 1) + 1) := TSt.mv hO hF9 hkt (by decide) hT_1082
            have hUhT_1092 := hT_1092.2.2
            replace hO := hO9
            replace hF := hF.tu hF9 (by decide)
            replace hw_1089 : gI σ_s_1090 b 13 = gI σ_s_1076 b 13 ∧ gI σ_s_1090 b 3 = gI σ_s_1076 b 3 := hw_1089
            try replace hUhT_1082 := hid.mk hUhT_1082
            try replace hw_1075 := hid.mk hw_1075
            try simp only [ne_eq, not_true_eq_false, not_false_eq_true, false_implies, true_implies, true_and, and_true, eq_self, false_or, or_false, false_and, and_false] at hUhT_1092
            have e_1093 : gI σ_s_1090 (ad E a 0) 7 = 0 := by omega
            have hk_1094 : gI σ_s_1090 (ad E a 0) 6 = tK T ((jqq483 + 1) + 1) := by omega
            have e_1095 : gI σ_s_1090 b 3 = b30 := by omega
            have e_1096 : gI σ_s_1090 b 13 = b130 := by omega
            refine lv_goto (tgt := 98) hx hb dX5_readTest_74 (by decide) ?_
            refine lv_iinc (v := I (v2q484 + 1)) (lv' := [(2, .int (I (v2q484 + 1))), (3, .int (I 1)), (0, .ref a), (1, .ref b)]) hx hb dX5_readTest_98 hl (k := 3) rfl (I_add _ _) (by decide) rfl (fun ls hl => ?_)
            refine lv_goto (tgt := 2) hx hb dX5_readTest_101 (by decide) ?_
            replace hl : lv_has ls 4 [(2, .int (I (v2q484 + 1))), (0, .ref a), (1, .ref b)] := lv_sub hl [0, 2, 3] rfl
            exact ihJ_485 (v2q484 + 1, ((jqq483 + 1) + 1)) σ_s_1090 _ _ _ (by first | (dsimp only; omega) | omega) ⟨hO, hF, hH, hS, lv_sub hl [1, 2, 0] rfl, ⟨by first | (dsimp only; omega) | omega, by first | (dsimp only; omega) | omega⟩, by first | (dsimp only; omega) | omega, by first | (dsimp only; omega) | omega, by first | (dsimp only; omega) | omega, by first | (dsimp only; omega) | omega, by first | (dsimp only; omega) | omega, by first | (dsimp only; omega) | omega, hT_1092, (hG_1087.ec rfl rfl (fun _ => by omega)), e_1095, e_1096⟩
          · try simp only [h0_1083, ne_eq, not_true_eq_false, not_false_eq_true, false_implies, true_implies, true_and, and_true, eq_self, false_or, or_false, false_and, and_false] at hUhT_1082
            have e_1097 : gI σ_s_1076 (ad E a 0) 6 = 260 := by omega
            have hj_1098 : jqq483 + 1 = jj_1081 := by omega
            subst hj_1098
            have hG_1099 := hG_1072.word (c2 := cc_1080) (j2 := (jqq483 + 1)) (fun h9 => absurd rfl h9) (fun _ => by omega)
            obtain ⟨_, hc_1100⟩ := hO.cell h_b (by decide) (ci := 4) rfl
            refine th_callv (va_runV (As := [.int (I 1), .int (I z_1077)]) (rest := []) ⟨hx, hb, hml, hown, hts⟩ (p6_addLittle l G y b0 σ_s_1076 E hO b h_b 1 (show rng 1 from (show rng 1 from ⟨by decide, by decide⟩)) (by omega) (by omega) z_1077 (show rng z_1077 from rz_1077)) (cwV 2 hts gX5_readTest_X4_addLittle rfl rfl rfl (by decide +kernel) ⟨Nat.le_of_ble_eq_true rfl, Nat.le_of_ble_eq_true rfl⟩) (th_PV hK hH rfl hc_1100) rfl rfl hl.1 rfl (lv_room (Nat.le_of_ble_eq_true rfl)) dX5_readTest_71 ⟨Nat.le_of_ble_eq_true rfl, Nat.le_of_ble_eq_true rfl⟩) hS (fun σ_s_1102 H locs hw_1101 hH hS => ?_)
            obtain ⟨hO9, hF9, hw_1101⟩ := hw_1101
            have e_1103 : gI σ_s_1102 (ad E a 0) 6 = 260 := (fr.ki hO hF9 hkt (by decide) (by decide) _).trans e_1097
            have hT_1104 : TSt E σ_s_1102 (ad E a 0) T cc_1080 (jqq483 + 1) := TSt.mv hO hF9 hkt (by decide) hT_1082
            have hUhT_1104 := hT_1104.2.2
            replace hO := hO9
            replace hF := hF.tu hF9 (by decide)
            replace hw_1101 : gI σ_s_1102 b 13 = gI σ_s_1076 b 13 ∧ gI σ_s_1102 b 3 = gI σ_s_1076 b 3 := hw_1101
            try replace hUhT_1082 := hid.mk hUhT_1082
            try replace hw_1075 := hid.mk hw_1075
            try simp only [h0_1083, ne_eq, not_true_eq_false, not_false_eq_true, false_implies, true_implies, true_and, and_true, eq_self, false_or, or_false, false_and, and_false] at hUhT_1104
            have e_1105 : gI σ_s_1102 (ad E a 0) 6 = 260 := by omega
            have e_1106 : gI σ_s_1102 b 3 = b30 := by omega
            have e_1107 : gI σ_s_1102 b 13 = b130 := by omega
            refine lv_goto (tgt := 98) hx hb dX5_readTest_74 (by decide) ?_
            refine lv_iinc (v := I (v2q484 + 1)) (lv' := [(2, .int (I (v2q484 + 1))), (3, .int (I 1)), (0, .ref a), (1, .ref b)]) hx hb dX5_readTest_98 hl (k := 3) rfl (I_add _ _) (by decide) rfl (fun ls hl => ?_)
            refine lv_goto (tgt := 2) hx hb dX5_readTest_101 (by decide) ?_
            refine lv_aload_n hx hb dX5_readTest_2 rfl (lv_at hl 2 rfl) ?_
            refine ok.getR hO h_a (by decide) k11_0 (by decide) (fun _ _ he hv kk => th_get (ci := 5) (C := RX5) (T := TX5) (N := 1) hx hb hts inX5 hown hK hH he rfl 0 (by decide) fl0 hv dX5_readTest_3 kk) ?_
            refine ok.getIc hO hp_488 (by decide) k3_6 e_1105 (fun _ _ he hv kk => th_getN (ci := 8) (C := RX8) (T := TX8) (N := 9) hx hb hts inX8 hown hK hH he rfl 6 (by decide) (nl_5 hK) hv dX5_readTest_6 kk) ?_
            refine lv_bipush (v := I 46) hx hb dX5_readTest_9 (by decide) ?_
            refine lv_icmp_eq (tgt := 26) hx hb dX5_readTest_11 (by decide) (fun c_1108 => absurd c_1108 (by decide)) (fun _ => ?_)
            refine lv_aload_n hx hb dX5_readTest_14 rfl (lv_at hl 2 rfl) ?_
            refine ok.getR hO h_a (by decide) k11_0 (by decide) (fun _ _ he hv kk => th_get (ci := 5) (C := RX5) (T := TX5) (N := 1) hx hb hts inX5 hown hK hH he rfl 0 (by decide) fl0 hv dX5_readTest_15 kk) ?_
            refine ok.getIc hO hp_488 (by decide) k3_6 e_1105 (fun _ _ he hv kk => th_getN (ci := 8) (C := RX8) (T := TX8) (N := 9) hx hb hts inX8 hown hK hH he rfl 6 (by decide) (nl_5 hK) hv dX5_readTest_18 kk) ?_
            refine lv_bipush (v := I 91) hx hb dX5_readTest_21 (by decide) ?_
            refine lv_icmp_ne (tgt := 104) hx hb dX5_readTest_23 (by decide) (fun _ => ?_) (fun c_1109 => absurd c_1109 (by decide))
            refine lv_aload_n hx hb dX5_readTest_104 rfl (lv_at hl 2 rfl) ?_
            refine ok.getR hO h_a (by decide) k11_0 (by decide) (fun _ _ he hv kk => th_get (ci := 5) (C := RX5) (T := TX5) (N := 1) hx hb hts inX5 hown hK hH he rfl 0 (by decide) fl0 hv dX5_readTest_105 kk) ?_
            refine ok.getIc hO hp_488 (by decide) k3_6 e_1105 (fun _ _ he hv kk => th_getN (ci := 8) (C := RX8) (T := TX8) (N := 9) hx hb hts inX8 hown hK hH he rfl 6 (by decide) (nl_5 hK) hv dX5_readTest_108 kk) ?_
            refine lv_istore_n (lv' := [(2, .int (I 260)), (3, .int (I 1)), (0, .ref a), (1, .ref b)]) hx hb dX5_readTest_111 rfl hl (by decide) rfl (fun ls hl => ?_)
            refine lv_iload_n hx hb dX5_readTest_112 rfl (lv_at hl 0 rfl) ?_
            refine lv_bipush (v := I 61) hx hb dX5_readTest_113 (by decide) ?_
            refine lv_icmp_eq (tgt := 138) hx hb dX5_readTest_115 (by decide) (fun c_1110 => absurd c_1110 (by decide)) (fun _ => ?_)
            refine lv_iload_n hx hb dX5_readTest_118 rfl (lv_at hl 0 rfl) ?_
            refine lv_bipush (v := I 60) hx hb dX5_readTest_119 (by decide) ?_
            refine lv_icmp_eq (tgt := 138) hx hb dX5_readTest_121 (by decide) (fun c_1111 => absurd c_1111 (by decide)) (fun _ => ?_)
            refine lv_iload_n hx hb dX5_readTest_124 rfl (lv_at hl 0 rfl) ?_
            refine lv_bipush (v := I 62) hx hb dX5_readTest_125 (by decide) ?_
            refine lv_icmp_eq (tgt := 138) hx hb dX5_readTest_127 (by decide) (fun c_1112 => absurd c_1112 (by decide)) (fun _ => ?_)
            refine lv_aload_n hx hb dX5_readTest_130 rfl (lv_at hl 3 rfl) ?_
            refine lv_iconst (v := I 0) hx hb dX5_readTest_131 (by decide) ?_
            refine lv_iconst (v := I (-1)) hx hb dX5_readTest_132 (by decide) ?_
            refine lv_iconst (v := I 0) hx hb dX5_readTest_133 (by decide) ?_
            obtain ⟨_, hc_1113⟩ := hO.cell h_b (by decide) (ci := 4) rfl
            refine th_callv (va_runV (As := [.int (I 0), .int (I (-1)), .int (I 0)]) (rest := []) ⟨hx, hb, hml, hown, hts⟩ (p6_addTest l G y b0 σ_s_1102 E hO b h_b 0 (show rng 0 from (show rng 0 from ⟨by decide, by decide⟩)) (-1) (show rng (-1) from (show rng (-1) from ⟨by decide, by decide⟩)) 0 (show rng 0 from (show rng 0 from ⟨by decide, by decide⟩))) (cwV 3 hts gX5_readTest_X4_addTest rfl rfl rfl (by decide +kernel) ⟨Nat.le_of_ble_eq_true rfl, Nat.le_of_ble_eq_true rfl⟩) (th_PV hK hH rfl hc_1113) rfl rfl hl.1 rfl (lv_room (Nat.le_of_ble_eq_true rfl)) dX5_readTest_134 ⟨Nat.le_of_ble_eq_true rfl, Nat.le_of_ble_eq_true rfl⟩) hS (fun σ_s_1115 H locs hw_1114 hH hS => ?_)
            obtain ⟨hO9, hF9, hw_1114⟩ := hw_1114
            have e_1116 : gI σ_s_1115 (ad E a 0) 6 = 260 := (fr.ki hO hF9 hkt (by decide) (by decide) _).trans e_1105
            have hT_1117 : TSt E σ_s_1115 (ad E a 0) T cc_1080 (jqq483 + 1) := TSt.mv hO hF9 hkt (by decide) hT_1104
            have hUhT_1117 := hT_1117.2.2
            replace hO := hO9
            replace hF := hF.tu hF9 (by decide)
            replace hw_1114 : (gI σ_s_1102 b 13 < 12 → gI σ_s_1115 b 13 = gI σ_s_1102 b 13 + 1) ∧ (¬ gI σ_s_1102 b 13 < 12 → gI σ_s_1115 b 13 = gI σ_s_1102 b 13) ∧ gI σ_s_1115 b 3 = gI σ_s_1102 b 3 := hw_1114
            try replace hUhT_1104 := hid.mk hUhT_1104
            try replace hw_1101 := hid.mk hw_1101
            try simp only [h0_1083, ne_eq, not_true_eq_false, not_false_eq_true, false_implies, true_implies, true_and, and_true, eq_self, false_or, or_false, false_and, and_false] at hUhT_1117
            have e_1118 : gI σ_s_1115 (ad E a 0) 6 = 260 := by omega
            have e_1119 : gI σ_s_1115 b 3 = b30 := by omega
            obtain ⟨z_1120, e_1121, rz_1120, lz_1120, uz_1120⟩ := hO.gi h_b (by decide) k4_13
            exact th_vret hx hb hr hlocks hH hS ⟨hO, hF, ⟨cc_1080, (jqq483 + 1), hT_1117, (fun h9 => absurd rfl h9), fun _ => ⟨by omega, hG_1099.was h0_1083⟩, by omega, by omega⟩⟩ dX5_readTest_137
