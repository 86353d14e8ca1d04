set_option maxHeartbeats 20000000 in
set_option maxRecDepth 100000 in
theorem s6_readName (l : Launch) (G : va_G) (y : Nat → ClassId) (b0 : Nat) (σ : th_M) (E : th_E) (hO : ok y E σ) (a : Nat) (h_a : kd E a = 11) (b : Nat) (h_b : kd E b = 4) (T : tkT) (fc jt : Int) (hT0 : TSt E σ (ad E a 0) T fc jt) (hy0 : fc = 0) : Met l yX5_readName wsX5_readName ({ frames := 2, cells := 0, slots := 0, locals := 50 }) (th_P G y b0 σ [.ref a, .ref b]) (th_Qv G b0 (fun σ1 => ok y E σ1 ∧ fr [3, 4] E σ σ1 ∧ (∃ c1 j1, TSt E σ1 (ad E a 0) T c1 j1 ∧ (fc ≠ 0 → c1 = fc ∧ j1 = jt) ∧ (fc = 0 → jt ≤ j1 ∧ (c1 = 0 → jt < j1) ∧ GS T [(13, 0)] jt (gI σ b 13) [] c1 j1 (gI σ1 b 13)) ∧ gI σ1 b 13 = gI σ b 13 ∧ (0 ≤ gI σ b 3 ∧ gI σ b 3 < 8 → gI σ1 b 3 = gI σ b 3 + 1)))) 0 0 (th_A b0) := by
  refine Met.ofW (cc := cX5_readName) (maxL := 2) (ret := none) (by decide) rfl ?_
  intro p e s m args below meth c s₁ B hml hv
  obtain ⟨rfl, hH, hK⟩ := hv
  have hx := B.exec
  have hb := B.bytes
  have hr := B.returns
  have hts := atoms_spec (ws := wsX5_readName) B.pre
  have hown : s.vm.findClass RX5 = some m.cls := findClass_of_methodNamed B.named
  have hlocks := B.notSynchronized
  have h00 : b0 ≤ s.heap.size := hH.1
  have hS : va_S (th_A b0) s.heap s.heap [] := va_S.rf
  have hF : fr [3, 4] E σ σ := fr.rf
  have inX5 : ∀ w ∈ wsX50, w ∈ wsX5_readName := by decide +kernel
  have inX8 : ∀ w ∈ wsX80, w ∈ wsX5_readName := by decide +kernel
  have fl0 := hts (.fieldLink RX5 9 "NestQuery$PathReader" "tokens" "LNestQuery$Tokens;") (by decide +kernel)
  have hl := lv_entry ([.ref a, .ref b]) (n := 2) (Nat.le_of_ble_eq_true rfl)
  rw [lg_entry_eq]
  generalize (lg_sl ([.ref a, .ref b]) ++ List.replicate (2 - (lg_sl ([.ref a, .ref b])).length) Slot.unset).toArray = ls at hl ⊢
  have hl : lv_has ls 2 [(0, .ref a), (1, .ref b)] := hl
  obtain ⟨b30, eb30, rb30, lb30, ub30⟩ := hO.gi h_b (by decide) k4_3
  obtain ⟨b130, eb130, rb130, lb130, ub130⟩ := hO.gi h_b (by decide) k4_13
  have hU0 := hT0.2.2
  have hkt : kd E (ad E a 0) = 3 := ok.pk hO h_a (by decide) k11_0 rfl
  have h0_1 : fc = 0 := by omega
  subst h0_1
  try simp only [ne_eq, not_true_eq_false, not_false_eq_true, false_implies, true_implies, true_and, and_true, eq_self, false_or, or_false, false_and, and_false] at hU0
  have e_2 : gI σ (ad E a 0) 7 = 0 := by omega
  have hk_3 : gI σ (ad E a 0) 6 = tK T jt := by omega
  have hG_4 := GS.start (T := T) (e := [(13, 0)]) (j := jt) (t := gI σ b 13)
  refine lv_aload_n hx hb dX5_readName_0 rfl (lv_at hl 0 rfl) ?_
  have hp_5 : kd E (ad E a 0) = 3 := ok.pk hO h_a (by decide) k11_0 rfl
  refine ok.getR hO h_a (by decide) k11_0 (by decide) (fun _ _ he hv kk => th_get (ci := 5) (C := RX5) (T := TX5) (N := 1) hx hb hts inX5 hown hK hH he rfl 0 (by decide) fl0 hv dX5_readName_1 kk) ?_
  refine ok.getI hO hp_5 (by decide) k3_6 (fun _ _ he hv kk => th_getN (ci := 8) (C := RX8) (T := TX8) (N := 9) hx hb hts inX8 hown hK hH he rfl 6 (by decide) (nl_5 hK) hv dX5_readName_4 kk) (fun z_6 e_7 rz_6 lz_6 uz_6 => ?_)
  refine lv_bipush (v := I 42) hx hb dX5_readName_7 (by decide) ?_
  refine lv_icmp_ne (tgt := 29) hx hb dX5_readName_9 (by decide) (fun c_8 => ?_) (fun c_8 => ?_)
  · replace c_8 := mt (I_eq (a := z_6) (b := 42) rz_6 (show rng 42 from ⟨by decide, by decide⟩)).mpr c_8
    have hG_9 := hG_4.name (by omega)
    refine lv_aload_n hx hb dX5_readName_29 rfl (lv_at hl 1 rfl) ?_
    refine lv_iconst (v := I 0) hx hb dX5_readName_30 (by decide) ?_
    refine lv_aload_n hx hb dX5_readName_31 rfl (lv_at hl 0 rfl) ?_
    refine ok.getR hO h_a (by decide) k11_0 (by decide) (fun _ _ he hv kk => th_get (ci := 5) (C := RX5) (T := TX5) (N := 1) hx hb hts inX5 hown hK hH he rfl 0 (by decide) fl0 hv dX5_readName_32 kk) ?_
    obtain ⟨_, hc_10⟩ := hO.cell hp_5 (by decide) (ci := 8) rfl
    refine th_calli (va_runV (As := []) (rest := [.int (I 0), .ref b]) ⟨hx, hb, hml, hown, hts⟩ (f_letters l G y b0 σ E hO (ad E a 0) hp_5 T 0 jt hT0) (cwV 0 hts gX5_readName_X8_takeLetters rfl rfl rfl (by decide +kernel) ⟨Nat.le_of_ble_eq_true rfl, Nat.le_of_ble_eq_true rfl⟩) (th_PV hK hH rfl hc_10) rfl rfl hl.1 rfl (lv_room (Nat.le_of_ble_eq_true rfl)) dX5_readName_35 ⟨Nat.le_of_ble_eq_true rfl, Nat.le_of_ble_eq_true rfl⟩) hS (fun z_13 σ_s_12 H locs rz_13 hw_11 hH hS => ?_)
    obtain ⟨hO9, hF9, hw_11⟩ := hw_11
    have e_14 : gI σ_s_12 b 3 = b30 := (fr.ki hO hF9 h_b (by decide) (by decide) _).trans eb30
    have e_15 : gI σ_s_12 b 13 = b130 := (fr.ki hO hF9 h_b (by decide) (by decide) _).trans eb130
    replace hO := hO9
    replace hF := hF.tu hF9 (by decide)
    replace hw_11 : ∃ c1 j1, TSt E σ_s_12 (ad E a 0) T c1 j1 ∧ ((0 : Int) ≠ 0 → c1 = 0 ∧ j1 = jt) ∧ ((0 : Int) = 0 → (tK T jt ≠ 256 ∧ c1 = 1 ∧ j1 = jt) ∨ (tK T jt = 256 ∧ 6 < tL T jt ∧ c1 = 2 ∧ j1 = jt) ∨ (tK T jt = 256 ∧ tL T jt ≤ 6 ∧ c1 = 0 ∧ j1 = jt + 1 ∧ z_13 = tV T jt)) := hw_11
    obtain ⟨cc_16, jj_17, hT_18, hw_11⟩ := hw_11
    have hUhT_18 := hT_18.2.2
    try replace hU0 := hid.mk hU0
    rcases Classical.em (cc_16 = 0) with h0_19 | h0_19
    · subst h0_19
      try simp only [ne_eq, not_true_eq_false, not_false_eq_true, false_implies, true_implies, true_and, and_true, eq_self, false_or, or_false, false_and, and_false] at hUhT_18
      have e_20 : gI σ_s_12 (ad E a 0) 7 = 0 := by omega
      have hk_21 : gI σ_s_12 (ad E a 0) 6 = tK T jj_17 := by omega
      have hj_22 : jt + 1 = jj_17 := by omega
      subst hj_22
      have hG_23 := hG_9.word (c2 := 0) (j2 := (jt + 1)) (fun h9 => absurd rfl h9) (fun _ => by omega)
      refine lv_iconst (v := I 0) hx hb dX5_readName_38 (by decide) ?_
      obtain ⟨_, hc_24⟩ := hO.cell h_b (by decide) (ci := 4) rfl
      refine th_callv (va_runV (As := [.int (I 0), .int (I z_13), .int (I 0)]) (rest := []) ⟨hx, hb, hml, hown, hts⟩ (p6_addStep l G y b0 σ_s_12 E hO b h_b 0 (show rng 0 from (show rng 0 from ⟨by decide, by decide⟩)) z_13 (show rng z_13 from rz_13) 0 (show rng 0 from (show rng 0 from ⟨by decide, by decide⟩))) (cwV 3 hts gX5_readName_X4_addStep rfl rfl rfl (by decide +kernel) ⟨Nat.le_of_ble_eq_true rfl, Nat.le_of_ble_eq_true rfl⟩) (th_PV hK hH rfl hc_24) rfl rfl hl.1 rfl (lv_room (Nat.le_of_ble_eq_true rfl)) dX5_readName_39 ⟨Nat.le_of_ble_eq_true rfl, Nat.le_of_ble_eq_true rfl⟩) hS (fun σ_s_26 H locs hw_25 hH hS => ?_)
      obtain ⟨hO9, hF9, hw_25⟩ := hw_25
      have e_27 : gI σ_s_26 (ad E a 0) 7 = 0 := (fr.ki hO hF9 hkt (by decide) (by decide) _).trans e_20
      have hT_28 : TSt E σ_s_26 (ad E a 0) T 0 (jt + 1) := TSt.mv hO hF9 hkt (by decide) hT_18
      have hUhT_28 := hT_28.2.2
      replace hO := hO9
      replace hF := hF.tu hF9 (by decide)
      replace hw_25 : gI σ_s_26 b 13 = gI σ_s_12 b 13 ∧ (0 ≤ gI σ_s_12 b 3 ∧ gI σ_s_12 b 3 < 8 → gI σ_s_26 b 3 = gI σ_s_12 b 3 + 1) ∧ (¬ (0 ≤ gI σ_s_12 b 3 ∧ gI σ_s_12 b 3 < 8) → gI σ_s_26 b 3 = gI σ_s_12 b 3) := hw_25
      try replace hUhT_18 := hid.mk hUhT_18
      try replace hw_11 := hid.mk hw_11
      try simp only [ne_eq, not_true_eq_false, not_false_eq_true, false_implies, true_implies, true_and, and_true, eq_self, false_or, or_false, false_and, and_false] at hUhT_28
      have e_29 : gI σ_s_26 (ad E a 0) 7 = 0 := by omega
      have hk_30 : gI σ_s_26 (ad E a 0) 6 = tK T (jt + 1) := by omega
      obtain ⟨z_31, e_32, rz_31, lz_31, uz_31⟩ := hO.gi h_b (by decide) k4_3
      obtain ⟨z_33, e_34, rz_33, lz_33, uz_33⟩ := hO.gi h_b (by decide) k4_13
      exact th_vret hx hb hr hlocks hH hS ⟨hO, hF, ⟨0, (jt + 1), hT_28, (fun h9 => absurd rfl h9), fun _ => ⟨by omega, by omega, hG_23.ec rfl rfl (fun _ => by omega)⟩, by omega, by omega⟩⟩ dX5_readName_42
    · try simp only [h0_19, ne_eq, not_true_eq_false, not_false_eq_true, false_implies, true_implies, true_and, and_true, eq_self, false_or, or_false, false_and, and_false] at hUhT_18
      have e_35 : gI σ_s_12 (ad E a 0) 6 = 260 := by omega
      have hj_36 : jt = jj_17 := by omega
      subst hj_36
      have hG_37 := hG_9.word (c2 := cc_16) (j2 := jt) (fun h9 => absurd rfl h9) (fun _ => by omega)
      refine lv_iconst (v := I 0) hx hb dX5_readName_38 (by decide) ?_
      obtain ⟨_, hc_38⟩ := hO.cell h_b (by decide) (ci := 4) rfl
      refine th_callv (va_runV (As := [.int (I 0), .int (I z_13), .int (I 0)]) (rest := []) ⟨hx, hb, hml, hown, hts⟩ (p6_addStep l G y b0 σ_s_12 E hO b h_b 0 (show rng 0 from (show rng 0 from ⟨by decide, by decide⟩)) z_13 (show rng z_13 from rz_13) 0 (show rng 0 from (show rng 0 from ⟨by decide, by decide⟩))) (cwV 3 hts gX5_readName_X4_addStep rfl rfl rfl (by decide +kernel) ⟨Nat.le_of_ble_eq_true rfl, Nat.le_of_ble_eq_true rfl⟩) (th_PV hK hH rfl hc_38) rfl rfl hl.1 rfl (lv_room (Nat.le_of_ble_eq_true rfl)) dX5_readName_39 ⟨Nat.le_of_ble_eq_true rfl, Nat.le_of_ble_eq_true rfl⟩) hS (fun σ_s_40 H locs hw_39 hH hS => ?_)
      obtain ⟨hO9, hF9, hw_39⟩ := hw_39
      have e_41 : gI σ_s_40 (ad E a 0) 6 = 260 := (fr.ki hO hF9 hkt (by decide) (by decide) _).trans e_35
      have hT_42 : TSt E σ_s_40 (ad E a 0) T cc_16 jt := TSt.mv hO hF9 hkt (by decide) hT_18
      have hUhT_42 := hT_42.2.2
      replace hO := hO9
      replace hF := hF.tu hF9 (by decide)
      replace hw_39 : gI σ_s_40 b 13 = gI σ_s_12 b 13 ∧ (0 ≤ gI σ_s_12 b 3 ∧ gI σ_s_12 b 3 < 8 → gI σ_s_40 b 3 = gI σ_s_12 b 3 + 1) ∧ (¬ (0 ≤ gI σ_s_12 b 3 ∧ gI σ_s_12 b 3 < 8) → gI σ_s_40 b 3 = gI σ_s_12 b 3) := hw_39
      try replace hUhT_18 := hid.mk hUhT_18
      try replace hw_11 := hid.mk hw_11
      try simp only [h0_19, ne_eq, not_true_eq_false, not_false_eq_true, false_implies, true_implies, true_and, and_true, eq_self, false_or, or_false, false_and, and_false] at hUhT_42
      have e_43 : gI σ_s_40 (ad E a 0) 6 = 260 := by omega
      obtain ⟨z_44, e_45, rz_44, lz_44, uz_44⟩ := hO.gi h_b (by decide) k4_3
      obtain ⟨z_46, e_47, rz_46, lz_46, uz_46⟩ := hO.gi h_b (by decide) k4_13
      exact th_vret hx hb hr hlocks hH hS ⟨hO, hF, ⟨cc_16, jt, hT_42, (fun h9 => absurd rfl h9), fun _ => ⟨by omega, fun h9 => absurd h9 h0_19, hG_37.was h0_19⟩, by omega, by omega⟩⟩ dX5_readName_42
  · replace c_8 := (I_eq (a := z_6) (b := 42) rz_6 (show rng 42 from ⟨by decide, by decide⟩)).mp c_8
    refine lv_aload_n hx hb dX5_readName_12 rfl (lv_at hl 0 rfl) ?_
    refine ok.getR hO h_a (by decide) k11_0 (by decide) (fun _ _ he hv kk => th_get (ci := 5) (C := RX5) (T := TX5) (N := 1) hx hb hts inX5 hown hK hH he rfl 0 (by decide) fl0 hv dX5_readName_13 kk) ?_
    obtain ⟨_, hc_48⟩ := hO.cell hp_5 (by decide) (ci := 8) rfl
    refine th_callv (va_runV (As := []) (rest := []) ⟨hx, hb, hml, hown, hts⟩ (f_step l G y b0 σ E hO (ad E a 0) hp_5 T 0 jt hT0) (cwV 0 hts gX5_readName_X8_step rfl rfl rfl (by decide +kernel) ⟨Nat.le_of_ble_eq_true rfl, Nat.le_of_ble_eq_true rfl⟩) (th_PV hK hH rfl hc_48) rfl rfl hl.1 rfl (lv_room (Nat.le_of_ble_eq_true rfl)) dX5_readName_16 ⟨Nat.le_of_ble_eq_true rfl, Nat.le_of_ble_eq_true rfl⟩) hS (fun σ_s_50 H locs hw_49 hH hS => ?_)
    obtain ⟨hO9, hF9, hw_49⟩ := hw_49
    have e_51 : gI σ_s_50 b 3 = b30 := (fr.ki hO hF9 h_b (by decide) (by decide) _).trans eb30
    have e_52 : gI σ_s_50 b 13 = b130 := (fr.ki hO hF9 h_b (by decide) (by decide) _).trans eb130
    replace hO := hO9
    replace hF := hF.tu hF9 (by decide)
    replace hw_49 : ∃ c1 j1, TSt E σ_s_50 (ad E a 0) T c1 j1 ∧ c1 = 0 ∧ ((0 : Int) ≠ 0 → j1 = jt) ∧ ((0 : Int) = 0 → tK T jt ≠ 259 → j1 = jt + 1) := hw_49
    obtain ⟨cc_53, jj_54, hT_55, hw_49⟩ := hw_49
    have hUhT_55 := hT_55.2.2
    try replace hU0 := hid.mk hU0
    have h0_56 : cc_53 = 0 := by omega
    subst h0_56
    try simp only [ne_eq, not_true_eq_false, not_false_eq_true, false_implies, true_implies, true_and, and_true, eq_self, false_or, or_false, false_and, and_false] at hUhT_55
    have e_57 : gI σ_s_50 (ad E a 0) 7 = 0 := by omega
    have hk_58 : gI σ_s_50 (ad E a 0) 6 = tK T jj_54 := by omega
    have hj_59 : jt + 1 = jj_54 := by omega
    subst hj_59
    have hG_60 := hG_4.each (by omega)
    refine lv_aload_n hx hb dX5_readName_19 rfl (lv_at hl 1 rfl) ?_
    refine lv_iconst (v := I 1) hx hb dX5_readName_20 (by decide) ?_
    refine lv_iconst (v := I 0) hx hb dX5_readName_21 (by decide) ?_
    refine lv_iconst (v := I 0) hx hb dX5_readName_22 (by decide) ?_
    obtain ⟨_, hc_61⟩ := hO.cell h_b (by decide) (ci := 4) rfl
    refine th_callv (va_runV (As := [.int (I 1), .int (I 0), .int (I 0)]) (rest := []) ⟨hx, hb, hml, hown, hts⟩ (p6_addStep l G y b0 σ_s_50 E hO b h_b 1 (show rng 1 from (show rng 1 from ⟨by decide, by decide⟩)) 0 (show rng 0 from (show rng 0 from ⟨by decide, by decide⟩)) 0 (show rng 0 from (show rng 0 from ⟨by decide, by decide⟩))) (cwV 3 hts gX5_readName_X4_addStep rfl rfl rfl (by decide +kernel) ⟨Nat.le_of_ble_eq_true rfl, Nat.le_of_ble_eq_true rfl⟩) (th_PV hK hH rfl hc_61) rfl rfl hl.1 rfl (lv_room (Nat.le_of_ble_eq_true rfl)) dX5_readName_23 ⟨Nat.le_of_ble_eq_true rfl, Nat.le_of_ble_eq_true rfl⟩) hS (fun σ_s_63 H locs hw_62 hH hS => ?_)
    obtain ⟨hO9, hF9, hw_62⟩ := hw_62
    have e_64 : gI σ_s_63 (ad E a 0) 7 = 0 := (fr.ki hO hF9 hkt (by decide) (by decide) _).trans e_57
    have hT_65 : TSt E σ_s_63 (ad E a 0) T 0 (jt + 1) := TSt.mv hO hF9 hkt (by decide) hT_55
    have hUhT_65 := hT_65.2.2
    replace hO := hO9
    replace hF := hF.tu hF9 (by decide)
    replace hw_62 : gI σ_s_63 b 13 = gI σ_s_50 b 13 ∧ (0 ≤ gI σ_s_50 b 3 ∧ gI σ_s_50 b 3 < 8 → gI σ_s_63 b 3 = gI σ_s_50 b 3 + 1) ∧ (¬ (0 ≤ gI σ_s_50 b 3 ∧ gI σ_s_50 b 3 < 8) → gI σ_s_63 b 3 = gI σ_s_50 b 3) := hw_62
    try replace hUhT_55 := hid.mk hUhT_55
    try replace hw_49 := hid.mk hw_49
    try simp only [ne_eq, not_true_eq_false, not_false_eq_true, false_implies, true_implies, true_and, and_true, eq_self, false_or, or_false, false_and, and_false] at hUhT_65
    have e_66 : gI σ_s_63 (ad E a 0) 7 = 0 := by omega
    have hk_67 : gI σ_s_63 (ad E a 0) 6 = tK T (jt + 1) := by omega
    obtain ⟨z_68, e_69, rz_68, lz_68, uz_68⟩ := hO.gi h_b (by decide) k4_3
    obtain ⟨z_70, e_71, rz_70, lz_70, uz_70⟩ := hO.gi h_b (by decide) k4_13
    refine lv_goto (tgt := 42) hx hb dX5_readName_26 (by decide) ?_
    exact th_vret hx hb hr hlocks hH hS ⟨hO, hF, ⟨0, (jt + 1), hT_65, (fun h9 => absurd rfl h9), fun _ => ⟨by omega, by omega, hG_60.ec rfl rfl (fun _ => by omega)⟩, by omega, by omega⟩⟩ dX5_readName_42

set_option maxHeartbeats 20000000 in
set_option maxRecDepth 100000 in
theorem s6_readPlaces (l : Launch) (G : va_G) (y : Nat → ClassId) (b0 : Nat) (σ : th_M) (E : th_E) (hO : ok y E σ) (a : Nat) (h_a : kd E a = 11) (b : Nat) (h_b : kd E b = 4) (T : tkT) (fc jt : Int) (hT0 : TSt E σ (ad E a 0) T fc jt) (hy0 : fc = 0) : Met l yX5_readPlaces wsX5_readPlaces ({ frames := 2, cells := 0, slots := 0, locals := 51 }) (th_P G y b0 σ [.ref a, .ref b]) (th_Qv G b0 (fun σ1 => ok y E σ1 ∧ fr [3, 4] E σ σ1 ∧ (∃ c1 j1, TSt E σ1 (ad E a 0) T c1 j1 ∧ (fc ≠ 0 → c1 = fc ∧ j1 = jt) ∧ (fc = 0 → jt ≤ j1 ∧ (c1 = 0 → jt < j1) ∧ GS T [(10, 0)] jt (gI σ b 13) [] c1 j1 (gI σ1 b 13)) ∧ gI σ1 b 13 = gI σ b 13 ∧ (0 ≤ gI σ b 3 ∧ gI σ b 3 < 8 → gI σ1 b 3 = gI σ b 3 + 1)))) 0 0 (th_A b0) := by
  refine Met.ofW (cc := cX5_readPlaces) (maxL := 4) (ret := none) (by decide) rfl ?_
  intro p e s m args below meth c s₁ B hml hv
  obtain ⟨rfl, hH, hK⟩ := hv
  have hx := B.exec
  have hb := B.bytes
  have hr := B.returns
  have hts := atoms_spec (ws := wsX5_readPlaces) B.pre
  have hown : s.vm.findClass RX5 = some m.cls := findClass_of_methodNamed B.named
  have hlocks := B.notSynchronized
  have h00 : b0 ≤ s.heap.size := hH.1
  have hS : va_S (th_A b0) s.heap s.heap [] := va_S.rf
  have hF : fr [3, 4] E σ σ := fr.rf
  have inX5 : ∀ w ∈ wsX50, w ∈ wsX5_readPlaces := by decide +kernel
  have inX8 : ∀ w ∈ wsX80, w ∈ wsX5_readPlaces := by decide +kernel
  have fl0 := hts (.fieldLink RX5 9 "NestQuery$PathReader" "tokens" "LNestQuery$Tokens;") (by decide +kernel)
  have hl := lv_entry ([.ref a, .ref b]) (n := 4) (Nat.le_of_ble_eq_true rfl)
  rw [lg_entry_eq]
  generalize (lg_sl ([.ref a, .ref b]) ++ List.replicate (4 - (lg_sl ([.ref a, .ref b])).length) Slot.unset).toArray = ls at hl ⊢
  have hl : lv_has ls 4 [(0, .ref a), (1, .ref b)] := hl
  obtain ⟨b30, eb30, rb30, lb30, ub30⟩ := hO.gi h_b (by decide) k4_3
  obtain ⟨b130, eb130, rb130, lb130, ub130⟩ := hO.gi h_b (by decide) k4_13
  have hU0 := hT0.2.2
  have hkt : kd E (ad E a 0) = 3 := ok.pk hO h_a (by decide) k11_0 rfl
  have h0_1 : fc = 0 := by omega
  subst h0_1
  try simp only [ne_eq, not_true_eq_false, not_false_eq_true, false_implies, true_implies, true_and, and_true, eq_self, false_or, or_false, false_and, and_false] at hU0
  have e_2 : gI σ (ad E a 0) 7 = 0 := by omega
  have hk_3 : gI σ (ad E a 0) 6 = tK T jt := by omega
  have hG_4 := GS.start (T := T) (e := [(10, 0)]) (j := jt) (t := gI σ b 13)
  refine lv_aload_n hx hb dX5_readPlaces_0 rfl (lv_at hl 0 rfl) ?_
  have hp_5 : kd E (ad E a 0) = 3 := ok.pk hO h_a (by decide) k11_0 rfl
  refine ok.getR hO h_a (by decide) k11_0 (by decide) (fun _ _ he hv kk => th_get (ci := 5) (C := RX5) (T := TX5) (N := 1) hx hb hts inX5 hown hK hH he rfl 0 (by decide) fl0 hv dX5_readPlaces_1 kk) ?_
  refine ok.getI hO hp_5 (by decide) k3_6 (fun _ _ he hv kk => th_getN (ci := 8) (C := RX8) (T := TX8) (N := 9) hx hb hts inX8 hown hK hH he rfl 6 (by decide) (nl_5 hK) hv dX5_readPlaces_4 kk) (fun z_6 e_7 rz_6 lz_6 uz_6 => ?_)
  refine lv_bipush (v := I 58) hx hb dX5_readPlaces_7 (by decide) ?_
  refine lv_icmp_ne (tgt := 16) hx hb dX5_readPlaces_9 (by decide) (fun c_8 => ?_) (fun c_8 => ?_)
  · replace c_8 := mt (I_eq (a := z_6) (b := 58) rz_6 (show rng 58 from ⟨by decide, by decide⟩)).mpr c_8
    have hG_9 := hG_4.pnum (by omega)
    refine lv_aload_n hx hb dX5_readPlaces_16 rfl (lv_at hl 0 rfl) ?_
    refine ok.getR hO h_a (by decide) k11_0 (by decide) (fun _ _ he hv kk => th_get (ci := 5) (C := RX5) (T := TX5) (N := 1) hx hb hts inX5 hown hK hH he rfl 0 (by decide) fl0 hv dX5_readPlaces_17 kk) ?_
    obtain ⟨_, hc_10⟩ := hO.cell hp_5 (by decide) (ci := 8) rfl
    refine th_calli (va_runV (As := []) (rest := []) ⟨hx, hb, hml, hown, hts⟩ (f_number l G y b0 σ E hO (ad E a 0) hp_5 T 0 jt hT0) (cwV 0 hts gX5_readPlaces_X8_takeNumber rfl rfl rfl (by decide +kernel) ⟨Nat.le_of_ble_eq_true rfl, Nat.le_of_ble_eq_true rfl⟩) (th_PV hK hH rfl hc_10) rfl rfl hl.1 rfl (lv_room (Nat.le_of_ble_eq_true rfl)) dX5_readPlaces_20 ⟨Nat.le_of_ble_eq_true rfl, Nat.le_of_ble_eq_true rfl⟩) hS (fun z_13 σ_s_12 H locs rz_13 hw_11 hH hS => ?_)
    obtain ⟨hO9, hF9, hw_11⟩ := hw_11
    have e_14 : gI σ_s_12 b 3 = b30 := (fr.ki hO hF9 h_b (by decide) (by decide) _).trans eb30
    have e_15 : gI σ_s_12 b 13 = b130 := (fr.ki hO hF9 h_b (by decide) (by decide) _).trans eb130
    replace hO := hO9
    replace hF := hF.tu hF9 (by decide)
    replace hw_11 : ∃ c1 j1, TSt E σ_s_12 (ad E a 0) T c1 j1 ∧ ((0 : Int) ≠ 0 → c1 = 0 ∧ j1 = jt) ∧ ((0 : Int) = 0 → nuR T jt c1 j1) := hw_11
    obtain ⟨cc_16, jj_17, hT_18, hw_11⟩ := hw_11
    have hUhT_18 := hT_18.2.2
    try replace hU0 := hid.mk hU0
    have hb_19 := (hw_11.2 rfl).le
    rcases Classical.em (cc_16 = 0) with h0_20 | h0_20
    · subst h0_20
      try simp only [ne_eq, not_true_eq_false, not_false_eq_true, false_implies, true_implies, true_and, and_true, eq_self, false_or, or_false, false_and, and_false] at hUhT_18
      have e_21 : gI σ_s_12 (ad E a 0) 7 = 0 := by omega
      have hk_22 : gI σ_s_12 (ad E a 0) 6 = tK T jj_17 := by omega
      have hG_23 := hG_9.num (c2 := 0) (j2 := jj_17) (fun h9 => absurd rfl h9) (fun _ => hw_11.2 rfl)
      refine lv_istore_n (lv' := [(2, .int (I z_13)), (0, .ref a), (1, .ref b)]) hx hb dX5_readPlaces_23 rfl hl (by decide) rfl (fun ls hl => ?_)
      refine lv_aload_n hx hb dX5_readPlaces_24 rfl (lv_at hl 1 rfl) ?_
      refine ok.getR hO h_a (by decide) k11_0 (by decide) (fun _ _ he hv kk => th_get (ci := 5) (C := RX5) (T := TX5) (N := 1) hx hb hts inX5 hown hK hH he rfl 0 (by decide) fl0 hv dX5_readPlaces_25 kk) ?_
      refine ok.getI hO hp_5 (by decide) k3_6 (fun _ _ he hv kk => th_getN (ci := 8) (C := RX8) (T := TX8) (N := 9) hx hb hts inX8 hown hK hH he rfl 6 (by decide) (nl_5 hK) hv dX5_readPlaces_28 kk) (fun z_24 e_25 rz_24 lz_24 uz_24 => ?_)
      refine lv_bipush (v := I 93) hx hb dX5_readPlaces_31 (by decide) ?_
      refine lv_icmp_ne (tgt := 53) hx hb dX5_readPlaces_33 (by decide) (fun c_26 => ?_) (fun c_26 => ?_)
      · replace c_26 := mt (I_eq (a := z_24) (b := 93) rz_24 (show rng 93 from ⟨by decide, by decide⟩)).mpr c_26
        refine lv_aload_n hx hb dX5_readPlaces_53 rfl (lv_at hl 1 rfl) ?_
        refine ok.getR hO h_a (by decide) k11_0 (by decide) (fun _ _ he hv kk => th_get (ci := 5) (C := RX5) (T := TX5) (N := 1) hx hb hts inX5 hown hK hH he rfl 0 (by decide) fl0 hv dX5_readPlaces_54 kk) ?_
        refine lv_bipush (v := I 58) hx hb dX5_readPlaces_57 (by decide) ?_
        obtain ⟨_, hc_27⟩ := hO.cell hp_5 (by decide) (ci := 8) rfl
        refine th_callv (va_runV (As := [.int (I 58)]) (rest := []) ⟨hx, hb, hml, hown, hts⟩ (f_expect l G y b0 σ_s_12 E hO (ad E a 0) hp_5 58 (show rng 58 from (show rng 58 from ⟨by decide, by decide⟩)) (by omega) (by omega) T 0 jj_17 hT_18) (cwV 1 hts gX5_readPlaces_X8_expect rfl rfl rfl (by decide +kernel) ⟨Nat.le_of_ble_eq_true rfl, Nat.le_of_ble_eq_true rfl⟩) (th_PV hK hH rfl hc_27) rfl rfl hl.1 rfl (lv_room (Nat.le_of_ble_eq_true rfl)) dX5_readPlaces_59 ⟨Nat.le_of_ble_eq_true rfl, Nat.le_of_ble_eq_true rfl⟩) hS (fun σ_s_29 H locs hw_28 hH hS => ?_)
        obtain ⟨hO9, hF9, hw_28⟩ := hw_28
        have e_30 : gI σ_s_29 b 3 = b30 := (fr.ki hO hF9 h_b (by decide) (by decide) _).trans e_14
        have e_31 : gI σ_s_29 b 13 = b130 := (fr.ki hO hF9 h_b (by decide) (by decide) _).trans e_15
        replace hO := hO9
        replace hF := hF.tu hF9 (by decide)
        replace hw_28 : ∃ c1 j1, TSt E σ_s_29 (ad E a 0) T c1 j1 ∧ ((0 : Int) ≠ 0 → c1 = 0 ∧ j1 = jj_17) ∧ ((0 : Int) = 0 → (tK T jj_17 = 58 ∧ c1 = 0 ∧ j1 = jj_17 + 1) ∨ (tK T jj_17 ≠ 58 ∧ c1 = 1 ∧ j1 = jj_17)) := hw_28
        obtain ⟨cc_32, jj_33, hT_34, hw_28⟩ := hw_28
        have hUhT_34 := hT_34.2.2
        try replace hUhT_18 := hid.mk hUhT_18
        try replace hw_11 := hid.mk hw_11
        rcases Classical.em (cc_32 = 0) with h0_35 | h0_35
        · subst h0_35
          try simp only [ne_eq, not_true_eq_false, not_false_eq_true, false_implies, true_implies, true_and, and_true, eq_self, false_or, or_false, false_and, and_false] at hUhT_34
          have e_36 : gI σ_s_29 (ad E a 0) 7 = 0 := by omega
          have hk_37 : gI σ_s_29 (ad E a 0) 6 = tK T jj_33 := by omega
          have hj_38 : jj_17 + 1 = jj_33 := by omega
          subst hj_38
          have hG_39 := hG_23.qcol (by omega)
          refine lv_aload_n hx hb dX5_readPlaces_62 rfl (lv_at hl 1 rfl) ?_
          refine ok.getR hO h_a (by decide) k11_0 (by decide) (fun _ _ he hv kk => th_get (ci := 5) (C := RX5) (T := TX5) (N := 1) hx hb hts inX5 hown hK hH he rfl 0 (by decide) fl0 hv dX5_readPlaces_63 kk) ?_
          refine ok.getI hO hp_5 (by decide) k3_6 (fun _ _ he hv kk => th_getN (ci := 8) (C := RX8) (T := TX8) (N := 9) hx hb hts inX8 hown hK hH he rfl 6 (by decide) (nl_5 hK) hv dX5_readPlaces_66 kk) (fun z_40 e_41 rz_40 lz_40 uz_40 => ?_)
          refine lv_bipush (v := I 93) hx hb dX5_readPlaces_69 (by decide) ?_
          refine lv_icmp_ne (tgt := 80) hx hb dX5_readPlaces_71 (by decide) (fun c_42 => ?_) (fun c_42 => ?_)
          · replace c_42 := mt (I_eq (a := z_40) (b := 93) rz_40 (show rng 93 from ⟨by decide, by decide⟩)).mpr c_42
            have hG_43 := hG_39.rnum (by omega)
            refine lv_aload_n hx hb dX5_readPlaces_80 rfl (lv_at hl 1 rfl) ?_
            refine ok.getR hO h_a (by decide) k11_0 (by decide) (fun _ _ he hv kk => th_get (ci := 5) (C := RX5) (T := TX5) (N := 1) hx hb hts inX5 hown hK hH he rfl 0 (by decide) fl0 hv dX5_readPlaces_81 kk) ?_
            obtain ⟨_, hc_44⟩ := hO.cell hp_5 (by decide) (ci := 8) rfl
            refine th_calli (va_runV (As := []) (rest := []) ⟨hx, hb, hml, hown, hts⟩ (f_number l G y b0 σ_s_29 E hO (ad E a 0) hp_5 T 0 (jj_17 + 1) hT_34) (cwV 0 hts gX5_readPlaces_X8_takeNumber rfl rfl rfl (by decide +kernel) ⟨Nat.le_of_ble_eq_true rfl, Nat.le_of_ble_eq_true rfl⟩) (th_PV hK hH rfl hc_44) rfl rfl hl.1 rfl (lv_room (Nat.le_of_ble_eq_true rfl)) dX5_readPlaces_84 ⟨Nat.le_of_ble_eq_true rfl, Nat.le_of_ble_eq_true rfl⟩) hS (fun z_47 σ_s_46 H locs rz_47 hw_45 hH hS => ?_)
            obtain ⟨hO9, hF9, hw_45⟩ := hw_45
            have e_48 : gI σ_s_46 b 3 = b30 := (fr.ki hO hF9 h_b (by decide) (by decide) _).trans e_30
            have e_49 : gI σ_s_46 b 13 = b130 := (fr.ki hO hF9 h_b (by decide) (by decide) _).trans e_31
            replace hO := hO9
            replace hF := hF.tu hF9 (by decide)
            replace hw_45 : ∃ c1 j1, TSt E σ_s_46 (ad E a 0) T c1 j1 ∧ ((0 : Int) ≠ 0 → c1 = 0 ∧ j1 = (jj_17 + 1)) ∧ ((0 : Int) = 0 → nuR T (jj_17 + 1) c1 j1) := hw_45
            obtain ⟨cc_50, jj_51, hT_52, hw_45⟩ := hw_45
            have hUhT_52 := hT_52.2.2
            try replace hUhT_34 := hid.mk hUhT_34
            try replace hw_28 := hid.mk hw_28
            have hb_53 := (hw_45.2 rfl).le
            rcases Classical.em (cc_50 = 0) with h0_54 | h0_54
            · subst h0_54
              try simp only [ne_eq, not_true_eq_false, not_false_eq_true, false_implies, true_implies, true_and, and_true, eq_self, false_or, or_false, false_and, and_false] at hUhT_52
              have e_55 : gI σ_s_46 (ad E a 0) 7 = 0 := by omega
              have hk_56 : gI σ_s_46 (ad E a 0) 6 = tK T jj_51 := by omega
              have hG_57 := hG_43.num (c2 := 0) (j2 := jj_51) (fun h9 => absurd rfl h9) (fun _ => hw_45.2 rfl)
              refine lv_istore_n (lv' := [(3, .int (I z_47)), (2, .int (I z_13)), (0, .ref a), (1, .ref b)]) hx hb dX5_readPlaces_87 rfl hl (by decide) rfl (fun ls hl => ?_)
              refine lv_aload_n hx hb dX5_readPlaces_88 rfl (lv_at hl 2 rfl) ?_
              refine ok.getR hO h_a (by decide) k11_0 (by decide) (fun _ _ he hv kk => th_get (ci := 5) (C := RX5) (T := TX5) (N := 1) hx hb hts inX5 hown hK hH he rfl 0 (by decide) fl0 hv dX5_readPlaces_89 kk) ?_
              refine lv_bipush (v := I 93) hx hb dX5_readPlaces_92 (by decide) ?_
              obtain ⟨_, hc_58⟩ := hO.cell hp_5 (by decide) (ci := 8) rfl
              refine th_callv (va_runV (As := [.int (I 93)]) (rest := []) ⟨hx, hb, hml, hown, hts⟩ (f_expect l G y b0 σ_s_46 E hO (ad E a 0) hp_5 93 (show rng 93 from (show rng 93 from ⟨by decide, by decide⟩)) (by omega) (by omega) T 0 jj_51 hT_52) (cwV 1 hts gX5_readPlaces_X8_expect rfl rfl rfl (by decide +kernel) ⟨Nat.le_of_ble_eq_true rfl, Nat.le_of_ble_eq_true rfl⟩) (th_PV hK hH rfl hc_58) rfl rfl hl.1 rfl (lv_room (Nat.le_of_ble_eq_true rfl)) dX5_readPlaces_94 ⟨Nat.le_of_ble_eq_true rfl, Nat.le_of_ble_eq_true rfl⟩) hS (fun σ_s_60 H locs hw_59 hH hS => ?_)
              obtain ⟨hO9, hF9, hw_59⟩ := hw_59
              have e_61 : gI σ_s_60 b 3 = b30 := (fr.ki hO hF9 h_b (by decide) (by decide) _).trans e_48
              have e_62 : gI σ_s_60 b 13 = b130 := (fr.ki hO hF9 h_b (by decide) (by decide) _).trans e_49
              replace hO := hO9
              replace hF := hF.tu hF9 (by decide)
              replace hw_59 : ∃ c1 j1, TSt E σ_s_60 (ad E a 0) T c1 j1 ∧ ((0 : Int) ≠ 0 → c1 = 0 ∧ j1 = jj_51) ∧ ((0 : Int) = 0 → (tK T jj_51 = 93 ∧ c1 = 0 ∧ j1 = jj_51 + 1) ∨ (tK T jj_51 ≠ 93 ∧ c1 = 1 ∧ j1 = jj_51)) := hw_59
              obtain ⟨cc_63, jj_64, hT_65, hw_59⟩ := hw_59
              have hUhT_65 := hT_65.2.2
              try replace hUhT_52 := hid.mk hUhT_52
              try replace hw_45 := hid.mk hw_45
              rcases Classical.em (cc_63 = 0) with h0_66 | h0_66
              · subst h0_66
                try simp only [ne_eq, not_true_eq_false, not_false_eq_true, false_implies, true_implies, true_and, and_true, eq_self, false_or, or_false, false_and, and_false] at hUhT_65
                have e_67 : gI σ_s_60 (ad E a 0) 7 = 0 := by omega
                have hk_68 : gI σ_s_60 (ad E a 0) 6 = tK T jj_64 := by omega
                have hj_69 : jj_51 + 1 = jj_64 := by omega
                subst hj_69
                have hG_70 := hG_57.need (c2 := 0) (j2 := (jj_51 + 1)) (fun h9 => absurd rfl h9) (fun _ => by omega)
                refine lv_aload_n hx hb dX5_readPlaces_97 rfl (lv_at hl 3 rfl) ?_
                refine lv_iconst (v := I 4) hx hb dX5_readPlaces_98 (by decide) ?_
                refine lv_iload_n hx hb dX5_readPlaces_99 rfl (lv_at hl 1 rfl) ?_
                refine lv_iload_n hx hb dX5_readPlaces_100 rfl (lv_at hl 0 rfl) ?_
                obtain ⟨_, hc_71⟩ := hO.cell h_b (by decide) (ci := 4) rfl
                refine th_callv (va_runV (As := [.int (I 4), .int (I z_13), .int (I z_47)]) (rest := []) ⟨hx, hb, hml, hown, hts⟩ (p6_addStep l G y b0 σ_s_60 E hO b h_b 4 (show rng 4 from (show rng 4 from ⟨by decide, by decide⟩)) z_13 (show rng z_13 from rz_13) z_47 (show rng z_47 from rz_47)) (cwV 3 hts gX5_readPlaces_X4_addStep rfl rfl rfl (by decide +kernel) ⟨Nat.le_of_ble_eq_true rfl, Nat.le_of_ble_eq_true rfl⟩) (th_PV hK hH rfl hc_71) rfl rfl hl.1 rfl (lv_room (Nat.le_of_ble_eq_true rfl)) dX5_readPlaces_101 ⟨Nat.le_of_ble_eq_true rfl, Nat.le_of_ble_eq_true rfl⟩) hS (fun σ_s_73 H locs hw_72 hH hS => ?_)
                obtain ⟨hO9, hF9, hw_72⟩ := hw_72
                have e_74 : gI σ_s_73 (ad E a 0) 7 = 0 := (fr.ki hO hF9 hkt (by decide) (by decide) _).trans e_67
                have hT_75 : TSt E σ_s_73 (ad E a 0) T 0 (jj_51 + 1) := TSt.mv hO hF9 hkt (by decide) hT_65
                have hUhT_75 := hT_75.2.2
                replace hO := hO9
                replace hF := hF.tu hF9 (by decide)
                replace hw_72 : gI σ_s_73 b 13 = gI σ_s_60 b 13 ∧ (0 ≤ gI σ_s_60 b 3 ∧ gI σ_s_60 b 3 < 8 → gI σ_s_73 b 3 = gI σ_s_60 b 3 + 1) ∧ (¬ (0 ≤ gI σ_s_60 b 3 ∧ gI σ_s_60 b 3 < 8) → gI σ_s_73 b 3 = gI σ_s_60 b 3) := hw_72
                try replace hUhT_65 := hid.mk hUhT_65
                try replace hw_59 := hid.mk hw_59
                try simp only [ne_eq, not_true_eq_false, not_false_eq_true, false_implies, true_implies, true_and, and_true, eq_self, false_or, or_false, false_and, and_false] at hUhT_75
                have e_76 : gI σ_s_73 (ad E a 0) 7 = 0 := by omega
                have hk_77 : gI σ_s_73 (ad E a 0) 6 = tK T (jj_51 + 1) := by omega
                obtain ⟨z_78, e_79, rz_78, lz_78, uz_78⟩ := hO.gi h_b (by decide) k4_3
                obtain ⟨z_80, e_81, rz_80, lz_80, uz_80⟩ := hO.gi h_b (by decide) k4_13
                exact th_vret hx hb hr hlocks hH hS ⟨hO, hF, ⟨0, (jj_51 + 1), hT_75, (fun h9 => absurd rfl h9), fun _ => ⟨by omega, by omega, hG_70.ec rfl rfl (fun _ => by omega)⟩, by omega, by omega⟩⟩ dX5_readPlaces_104
              · try simp only [h0_66, ne_eq, not_true_eq_false, not_false_eq_true, false_implies, true_implies, true_and, and_true, eq_self, false_or, or_false, false_and, and_false] at hUhT_65
                have e_82 : gI σ_s_60 (ad E a 0) 6 = 260 := by omega
                have hj_83 : jj_51 = jj_64 := by omega
                subst hj_83
                have hG_84 := hG_57.need (c2 := cc_63) (j2 := jj_51) (fun h9 => absurd rfl h9) (fun _ => by omega)
                refine lv_aload_n hx hb dX5_readPlaces_97 rfl (lv_at hl 3 rfl) ?_
                refine lv_iconst (v := I 4) hx hb dX5_readPlaces_98 (by decide) ?_
                refine lv_iload_n hx hb dX5_readPlaces_99 rfl (lv_at hl 1 rfl) ?_
                refine lv_iload_n hx hb dX5_readPlaces_100 rfl (lv_at hl 0 rfl) ?_
                obtain ⟨_, hc_85⟩ := hO.cell h_b (by decide) (ci := 4) rfl
                refine th_callv (va_runV (As := [.int (I 4), .int (I z_13), .int (I z_47)]) (rest := []) ⟨hx, hb, hml, hown, hts⟩ (p6_addStep l G y b0 σ_s_60 E hO b h_b 4 (show rng 4 from (show rng 4 from ⟨by decide, by decide⟩)) z_13 (show rng z_13 from rz_13) z_47 (show rng z_47 from rz_47)) (cwV 3 hts gX5_readPlaces_X4_addStep rfl rfl rfl (by decide +kernel) ⟨Nat.le_of_ble_eq_true rfl, Nat.le_of_ble_eq_true rfl⟩) (th_PV hK hH rfl hc_85) rfl rfl hl.1 rfl (lv_room (Nat.le_of_ble_eq_true rfl)) dX5_readPlaces_101 ⟨Nat.le_of_ble_eq_true rfl, Nat.le_of_ble_eq_true rfl⟩) hS (fun σ_s_87 H locs hw_86 hH hS => ?_)
                obtain ⟨hO9, hF9, hw_86⟩ := hw_86
                have e_88 : gI σ_s_87 (ad E a 0) 6 = 260 := (fr.ki hO hF9 hkt (by decide) (by decide) _).trans e_82
                have hT_89 : TSt E σ_s_87 (ad E a 0) T cc_63 jj_51 := TSt.mv hO hF9 hkt (by decide) hT_65
                have hUhT_89 := hT_89.2.2
                replace hO := hO9
                replace hF := hF.tu hF9 (by decide)
                replace hw_86 : gI σ_s_87 b 13 = gI σ_s_60 b 13 ∧ (0 ≤ gI σ_s_60 b 3 ∧ gI σ_s_60 b 3 < 8 → gI σ_s_87 b 3 = gI σ_s_60 b 3 + 1) ∧ (¬ (0 ≤ gI σ_s_60 b 3 ∧ gI σ_s_60 b 3 < 8) → gI σ_s_87 b 3 = gI σ_s_60 b 3) := hw_86
                try replace hUhT_65 := hid.mk hUhT_65
                try replace hw_59 := hid.mk hw_59
                try simp only [h0_66, ne_eq, not_true_eq_false, not_false_eq_true, false_implies, true_implies, true_and, and_true, eq_self, false_or, or_false, false_and, and_false] at hUhT_89
                have e_90 : gI σ_s_87 (ad E a 0) 6 = 260 := by omega
                obtain ⟨z_91, e_92, rz_91, lz_91, uz_91⟩ := hO.gi h_b (by decide) k4_3
                obtain ⟨z_93, e_94, rz_93, lz_93, uz_93⟩ := hO.gi h_b (by decide) k4_13
                exact th_vret hx hb hr hlocks hH hS ⟨hO, hF, ⟨cc_63, jj_51, hT_89, (fun h9 => absurd rfl h9), fun _ => ⟨by omega, fun h9 => absurd h9 h0_66, hG_84.was h0_66⟩, by omega, by omega⟩⟩ dX5_readPlaces_104
            · try simp only [h0_54, ne_eq, not_true_eq_false, not_false_eq_true, false_implies, true_implies, true_and, and_true, eq_self, false_or, or_false, false_and, and_false] at hUhT_52
              have e_95 : gI σ_s_46 (ad E a 0) 6 = 260 := by omega
              have hG_96 := hG_43.num (c2 := cc_50) (j2 := jj_51) (fun h9 => absurd rfl h9) (fun _ => hw_45.2 rfl)
              refine lv_istore_n (lv' := [(3, .int (I z_47)), (2, .int (I z_13)), (0, .ref a), (1, .ref b)]) hx hb dX5_readPlaces_87 rfl hl (by decide) rfl (fun ls hl => ?_)
              refine lv_aload_n hx hb dX5_readPlaces_88 rfl (lv_at hl 2 rfl) ?_
              refine ok.getR hO h_a (by decide) k11_0 (by decide) (fun _ _ he hv kk => th_get (ci := 5) (C := RX5) (T := TX5) (N := 1) hx hb hts inX5 hown hK hH he rfl 0 (by decide) fl0 hv dX5_readPlaces_89 kk) ?_
              refine lv_bipush (v := I 93) hx hb dX5_readPlaces_92 (by decide) ?_
              obtain ⟨_, hc_97⟩ := hO.cell hp_5 (by decide) (ci := 8) rfl
              refine th_callv (va_runV (As := [.int (I 93)]) (rest := []) ⟨hx, hb, hml, hown, hts⟩ (f_expect l G y b0 σ_s_46 E hO (ad E a 0) hp_5 93 (show rng 93 from (show rng 93 from ⟨by decide, by decide⟩)) (by omega) (by omega) T cc_50 jj_51 hT_52) (cwV 1 hts gX5_readPlaces_X8_expect rfl rfl rfl (by decide +kernel) ⟨Nat.le_of_ble_eq_true rfl, Nat.le_of_ble_eq_true rfl⟩) (th_PV hK hH rfl hc_97) rfl rfl hl.1 rfl (lv_room (Nat.le_of_ble_eq_true rfl)) dX5_readPlaces_94 ⟨Nat.le_of_ble_eq_true rfl, Nat.le_of_ble_eq_true rfl⟩) hS (fun σ_s_99 H locs hw_98 hH hS => ?_)
              obtain ⟨hO9, hF9, hw_98⟩ := hw_98
              have e_100 : gI σ_s_99 b 3 = b30 := (fr.ki hO hF9 h_b (by decide) (by decide) _).trans e_48
              have e_101 : gI σ_s_99 b 13 = b130 := (fr.ki hO hF9 h_b (by decide) (by decide) _).trans e_49
              replace hO := hO9
              replace hF := hF.tu hF9 (by decide)
              replace hw_98 : ∃ c1 j1, TSt E σ_s_99 (ad E a 0) T c1 j1 ∧ (cc_50 ≠ 0 → c1 = cc_50 ∧ j1 = jj_51) ∧ (cc_50 = 0 → (tK T jj_51 = 93 ∧ c1 = 0 ∧ j1 = jj_51 + 1) ∨ (tK T jj_51 ≠ 93 ∧ c1 = 1 ∧ j1 = jj_51)) := hw_98
              obtain ⟨cc_102, jj_103, hT_104, hw_98⟩ := hw_98
              have hUhT_104 := hT_104.2.2
              try replace hUhT_52 := hid.mk hUhT_52
              try replace hw_45 := hid.mk hw_45
              have hc_105 : cc_50 = cc_102 := by omega
              subst hc_105
              have hc_106 : jj_51 = jj_103 := by omega
              subst hc_106
              try simp only [h0_54, ne_eq, not_true_eq_false, not_false_eq_true, false_implies, true_implies, true_and, and_true, eq_self, false_or, or_false, false_and, and_false] at hUhT_104
              have e_107 : gI σ_s_99 (ad E a 0) 6 = 260 := by omega
              refine lv_aload_n hx hb dX5_readPlaces_97 rfl (lv_at hl 3 rfl) ?_
              refine lv_iconst (v := I 4) hx hb dX5_readPlaces_98 (by decide) ?_
              refine lv_iload_n hx hb dX5_readPlaces_99 rfl (lv_at hl 1 rfl) ?_
              refine lv_iload_n hx hb dX5_readPlaces_100 rfl (lv_at hl 0 rfl) ?_
              obtain ⟨_, hc_108⟩ := hO.cell h_b (by decide) (ci := 4) rfl
              refine th_callv (va_runV (As := [.int (I 4), .int (I z_13), .int (I z_47)]) (rest := []) ⟨hx, hb, hml, hown, hts⟩ (p6_addStep l G y b0 σ_s_99 E hO b h_b 4 (show rng 4 from (show rng 4 from ⟨by decide, by decide⟩)) z_13 (show rng z_13 from rz_13) z_47 (show rng z_47 from rz_47)) (cwV 3 hts gX5_readPlaces_X4_addStep rfl rfl rfl (by decide +kernel) ⟨Nat.le_of_ble_eq_true rfl, Nat.le_of_ble_eq_true rfl⟩) (th_PV hK hH rfl hc_108) rfl rfl hl.1 rfl (lv_room (Nat.le_of_ble_eq_true rfl)) dX5_readPlaces_101 ⟨Nat.le_of_ble_eq_true rfl, Nat.le_of_ble_eq_true rfl⟩) hS (fun σ_s_110 H locs hw_109 hH hS => ?_)
              obtain ⟨hO9, hF9, hw_109⟩ := hw_109
              have e_111 : gI σ_s_110 (ad E a 0) 6 = 260 := (fr.ki hO hF9 hkt (by decide) (by decide) _).trans e_107
              have hT_112 : TSt E σ_s_110 (ad E a 0) T cc_50 jj_51 := TSt.mv hO hF9 hkt (by decide) hT_104
              have hUhT_112 := hT_112.2.2
              replace hO := hO9
              replace hF := hF.tu hF9 (by decide)
              replace hw_109 : gI σ_s_110 b 13 = gI σ_s_99 b 13 ∧ (0 ≤ gI σ_s_99 b 3 ∧ gI σ_s_99 b 3 < 8 → gI σ_s_110 b 3 = gI σ_s_99 b 3 + 1) ∧ (¬ (0 ≤ gI σ_s_99 b 3 ∧ gI σ_s_99 b 3 < 8) → gI σ_s_110 b 3 = gI σ_s_99 b 3) := hw_109
              try replace hUhT_104 := hid.mk hUhT_104
              try replace hw_98 := hid.mk hw_98
              try simp only [h0_54, ne_eq, not_true_eq_false, not_false_eq_true, false_implies, true_implies, true_and, and_true, eq_self, false_or, or_false, false_and, and_false] at hUhT_112
              have e_113 : gI σ_s_110 (ad E a 0) 6 = 260 := by omega
              obtain ⟨z_114, e_115, rz_114, lz_114, uz_114⟩ := hO.gi h_b (by decide) k4_3
              obtain ⟨z_116, e_117, rz_116, lz_116, uz_116⟩ := hO.gi h_b (by decide) k4_13
              exact th_vret hx hb hr hlocks hH hS ⟨hO, hF, ⟨cc_50, jj_51, hT_112, (fun h9 => absurd rfl h9), fun _ => ⟨by omega, fun h9 => absurd h9 h0_54, hG_96.was h0_54⟩, by omega, by omega⟩⟩ dX5_readPlaces_104
          · replace c_42 := (I_eq (a := z_40) (b := 93) rz_40 (show rng 93 from ⟨by decide, by decide⟩)).mp c_42
            have hG_118 := hG_39.rend (by omega)
            refine lv_sipush (v := I 1000) hx hb dX5_readPlaces_74 (by decide) ?_
            refine lv_goto (tgt := 87) hx hb dX5_readPlaces_77 (by decide) ?_
            refine lv_istore_n (lv' := [(3, .int (I 1000)), (2, .int (I z_13)), (0, .ref a), (1, .ref b)]) hx hb dX5_readPlaces_87 rfl hl (by decide) rfl (fun ls hl => ?_)
            refine lv_aload_n hx hb dX5_readPlaces_88 rfl (lv_at hl 2 rfl) ?_
            refine ok.getR hO h_a (by decide) k11_0 (by decide) (fun _ _ he hv kk => th_get (ci := 5) (C := RX5) (T := TX5) (N := 1) hx hb hts inX5 hown hK hH he rfl 0 (by decide) fl0 hv dX5_readPlaces_89 kk) ?_
            refine lv_bipush (v := I 93) hx hb dX5_readPlaces_92 (by decide) ?_
            obtain ⟨_, hc_119⟩ := hO.cell hp_5 (by decide) (ci := 8) rfl
            refine th_callv (va_runV (As := [.int (I 93)]) (rest := []) ⟨hx, hb, hml, hown, hts⟩ (f_expect l G y b0 σ_s_29 E hO (ad E a 0) hp_5 93 (show rng 93 from (show rng 93 from ⟨by decide, by decide⟩)) (by omega) (by omega) T 0 (jj_17 + 1) hT_34) (cwV 1 hts gX5_readPlaces_X8_expect rfl rfl rfl (by decide +kernel) ⟨Nat.le_of_ble_eq_true rfl, Nat.le_of_ble_eq_true rfl⟩) (th_PV hK hH rfl hc_119) rfl rfl hl.1 rfl (lv_room (Nat.le_of_ble_eq_true rfl)) dX5_readPlaces_94 ⟨Nat.le_of_ble_eq_true rfl, Nat.le_of_ble_eq_true rfl⟩) hS (fun σ_s_121 H locs hw_120 hH hS => ?_)
            obtain ⟨hO9, hF9, hw_120⟩ := hw_120
            have e_122 : gI σ_s_121 b 3 = b30 := (fr.ki hO hF9 h_b (by decide) (by decide) _).trans e_30
            have e_123 : gI σ_s_121 b 13 = b130 := (fr.ki hO hF9 h_b (by decide) (by decide) _).trans e_31
            replace hO := hO9
            replace hF := hF.tu hF9 (by decide)
            replace hw_120 : ∃ c1 j1, TSt E σ_s_121 (ad E a 0) T c1 j1 ∧ ((0 : Int) ≠ 0 → c1 = 0 ∧ j1 = (jj_17 + 1)) ∧ ((0 : Int) = 0 → (tK T (jj_17 + 1) = 93 ∧ c1 = 0 ∧ j1 = (jj_17 + 1) + 1) ∨ (tK T (jj_17 + 1) ≠ 93 ∧ c1 = 1 ∧ j1 = (jj_17 + 1))) := hw_120
            obtain ⟨cc_124, jj_125, hT_126, hw_120⟩ := hw_120
            have hUhT_126 := hT_126.2.2
            try replace hUhT_34 := hid.mk hUhT_34
            try replace hw_28 := hid.mk hw_28
            rcases Classical.em (cc_124 = 0) with h0_127 | h0_127
            · subst h0_127
              try simp only [ne_eq, not_true_eq_false, not_false_eq_true, false_implies, true_implies, true_and, and_true, eq_self, false_or, or_false, false_and, and_false] at hUhT_126
              have e_128 : gI σ_s_121 (ad E a 0) 7 = 0 := by omega
              have hk_129 : gI σ_s_121 (ad E a 0) 6 = tK T jj_125 := by omega
              have hj_130 : (jj_17 + 1) + 1 = jj_125 := by omega
              subst hj_130
              have hG_131 := hG_118.need (c2 := 0) (j2 := ((jj_17 + 1) + 1)) (fun h9 => absurd rfl h9) (fun _ => by omega)
              refine lv_aload_n hx hb dX5_readPlaces_97 rfl (lv_at hl 3 rfl) ?_
              refine lv_iconst (v := I 4) hx hb dX5_readPlaces_98 (by decide) ?_
              refine lv_iload_n hx hb dX5_readPlaces_99 rfl (lv_at hl 1 rfl) ?_
              refine lv_iload_n hx hb dX5_readPlaces_100 rfl (lv_at hl 0 rfl) ?_
              obtain ⟨_, hc_132⟩ := hO.cell h_b (by decide) (ci := 4) rfl
              refine th_callv (va_runV (As := [.int (I 4), .int (I z_13), .int (I 1000)]) (rest := []) ⟨hx, hb, hml, hown, hts⟩ (p6_addStep l G y b0 σ_s_121 E hO b h_b 4 (show rng 4 from (show rng 4 from ⟨by decide, by decide⟩)) z_13 (show rng z_13 from rz_13) 1000 (show rng 1000 from (show rng 1000 from ⟨by decide, by decide⟩))) (cwV 3 hts gX5_readPlaces_X4_addStep rfl rfl rfl (by decide +kernel) ⟨Nat.le_of_ble_eq_true rfl, Nat.le_of_ble_eq_true rfl⟩) (th_PV hK hH rfl hc_132) rfl rfl hl.1 rfl (lv_room (Nat.le_of_ble_eq_true rfl)) dX5_readPlaces_101 ⟨Nat.le_of_ble_eq_true rfl, Nat.le_of_ble_eq_true rfl⟩) hS (fun σ_s_134 H locs hw_133 hH hS => ?_)
              obtain ⟨hO9, hF9, hw_133⟩ := hw_133
              have e_135 : gI σ_s_134 (ad E a 0) 7 = 0 := (fr.ki hO hF9 hkt (by decide) (by decide) _).trans e_128
              have hT_136 : TSt E σ_s_134 (ad E a 0) T 0 ((jj_17 + 1) + 1) := TSt.mv hO hF9 hkt (by decide) hT_126
              have hUhT_136 := hT_136.2.2
              replace hO := hO9
              replace hF := hF.tu hF9 (by decide)
              replace hw_133 : gI σ_s_134 b 13 = gI σ_s_121 b 13 ∧ (0 ≤ gI σ_s_121 b 3 ∧ gI σ_s_121 b 3 < 8 → gI σ_s_134 b 3 = gI σ_s_121 b 3 + 1) ∧ (¬ (0 ≤ gI σ_s_121 b 3 ∧ gI σ_s_121 b 3 < 8) → gI σ_s_134 b 3 = gI σ_s_121 b 3) := hw_133
              try replace hUhT_126 := hid.mk hUhT_126
              try replace hw_120 := hid.mk hw_120
              try simp only [ne_eq, not_true_eq_false, not_false_eq_true, false_implies, true_implies, true_and, and_true, eq_self, false_or, or_false, false_and, and_false] at hUhT_136
              have e_137 : gI σ_s_134 (ad E a 0) 7 = 0 := by omega
              have hk_138 : gI σ_s_134 (ad E a 0) 6 = tK T ((jj_17 + 1) + 1) := by omega
              obtain ⟨z_139, e_140, rz_139, lz_139, uz_139⟩ := hO.gi h_b (by decide) k4_3
              obtain ⟨z_141, e_142, rz_141, lz_141, uz_141⟩ := hO.gi h_b (by decide) k4_13
              exact th_vret hx hb hr hlocks hH hS ⟨hO, hF, ⟨0, ((jj_17 + 1) + 1), hT_136, (fun h9 => absurd rfl h9), fun _ => ⟨by omega, by omega, hG_131.ec rfl rfl (fun _ => by omega)⟩, by omega, by omega⟩⟩ dX5_readPlaces_104
            · try simp only [h0_127, ne_eq, not_true_eq_false, not_false_eq_true, false_implies, true_implies, true_and, and_true, eq_self, false_or, or_false, false_and, and_false] at hUhT_126
              have e_143 : gI σ_s_121 (ad E a 0) 6 = 260 := by omega
              have hj_144 : jj_17 + 1 = jj_125 := by omega
              subst hj_144
              have hG_145 := hG_118.need (c2 := cc_124) (j2 := (jj_17 + 1)) (fun h9 => absurd rfl h9) (fun _ => by omega)
              refine lv_aload_n hx hb dX5_readPlaces_97 rfl (lv_at hl 3 rfl) ?_
              refine lv_iconst (v := I 4) hx hb dX5_readPlaces_98 (by decide) ?_
              refine lv_iload_n hx hb dX5_readPlaces_99 rfl (lv_at hl 1 rfl) ?_
              refine lv_iload_n hx hb dX5_readPlaces_100 rfl (lv_at hl 0 rfl) ?_
              obtain ⟨_, hc_146⟩ := hO.cell h_b (by decide) (ci := 4) rfl
              refine th_callv (va_runV (As := [.int (I 4), .int (I z_13), .int (I 1000)]) (rest := []) ⟨hx, hb, hml, hown, hts⟩ (p6_addStep l G y b0 σ_s_121 E hO b h_b 4 (show rng 4 from (show rng 4 from ⟨by decide, by decide⟩)) z_13 (show rng z_13 from rz_13) 1000 (show rng 1000 from (show rng 1000 from ⟨by decide, by decide⟩))) (cwV 3 hts gX5_readPlaces_X4_addStep rfl rfl rfl (by decide +kernel) ⟨Nat.le_of_ble_eq_true rfl, Nat.le_of_ble_eq_true rfl⟩) (th_PV hK hH rfl hc_146) rfl rfl hl.1 rfl (lv_room (Nat.le_of_ble_eq_true rfl)) dX5_readPlaces_101 ⟨Nat.le_of_ble_eq_true rfl, Nat.le_of_ble_eq_true rfl⟩) hS (fun σ_s_148 H locs hw_147 hH hS => ?_)
              obtain ⟨hO9, hF9, hw_147⟩ := hw_147
              have e_149 : gI σ_s_148 (ad E a 0) 6 = 260 := (fr.ki hO hF9 hkt (by decide) (by decide) _).trans e_143
              have hT_150 : TSt E σ_s_148 (ad E a 0) T cc_124 (jj_17 + 1) := TSt.mv hO hF9 hkt (by decide) hT_126
              have hUhT_150 := hT_150.2.2
              replace hO := hO9
              replace hF := hF.tu hF9 (by decide)
              replace hw_147 : gI σ_s_148 b 13 = gI σ_s_121 b 13 ∧ (0 ≤ gI σ_s_121 b 3 ∧ gI σ_s_121 b 3 < 8 → gI σ_s_148 b 3 = gI σ_s_121 b 3 + 1) ∧ (¬ (0 ≤ gI σ_s_121 b 3 ∧ gI σ_s_121 b 3 < 8) → gI σ_s_148 b 3 = gI σ_s_121 b 3) := hw_147
              try replace hUhT_126 := hid.mk hUhT_126
              try replace hw_120 := hid.mk hw_120
              try simp only [h0_127, ne_eq, not_true_eq_false, not_false_eq_true, false_implies, true_implies, true_and, and_true, eq_self, false_or, or_false, false_and, and_false] at hUhT_150
              have e_151 : gI σ_s_148 (ad E a 0) 6 = 260 := by omega
              obtain ⟨z_152, e_153, rz_152, lz_152, uz_152⟩ := hO.gi h_b (by decide) k4_3
              obtain ⟨z_154, e_155, rz_154, lz_154, uz_154⟩ := hO.gi h_b (by decide) k4_13
              exact th_vret hx hb hr hlocks hH hS ⟨hO, hF, ⟨cc_124, (jj_17 + 1), hT_150, (fun h9 => absurd rfl h9), fun _ => ⟨by omega, fun h9 => absurd h9 h0_127, hG_145.was h0_127⟩, by omega, by omega⟩⟩ dX5_readPlaces_104
        · try simp only [h0_35, ne_eq, not_true_eq_false, not_false_eq_true, false_implies, true_implies, true_and, and_true, eq_self, false_or, or_false, false_and, and_false] at hUhT_34
          have e_156 : gI σ_s_29 (ad E a 0) 6 = 260 := by omega
          have hj_157 : jj_17 = jj_33 := by omega
          subst hj_157
          have hG_158 := (hG_23.qend (fun _ => by omega)).need (c2 := cc_32) (j2 := jj_17) (fun h9 => absurd rfl h9) (fun _ => by omega)
          refine lv_aload_n hx hb dX5_readPlaces_62 rfl (lv_at hl 1 rfl) ?_
          refine ok.getR hO h_a (by decide) k11_0 (by decide) (fun _ _ he hv kk => th_get (ci := 5) (C := RX5) (T := TX5) (N := 1) hx hb hts inX5 hown hK hH he rfl 0 (by decide) fl0 hv dX5_readPlaces_63 kk) ?_
          refine ok.getIc hO hp_5 (by decide) k3_6 e_156 (fun _ _ he hv kk => th_getN (ci := 8) (C := RX8) (T := TX8) (N := 9) hx hb hts inX8 hown hK hH he rfl 6 (by decide) (nl_5 hK) hv dX5_readPlaces_66 kk) ?_
          refine lv_bipush (v := I 93) hx hb dX5_readPlaces_69 (by decide) ?_
          refine lv_icmp_ne (tgt := 80) hx hb dX5_readPlaces_71 (by decide) (fun _ => ?_) (fun c_159 => absurd c_159 (by decide))
          refine lv_aload_n hx hb dX5_readPlaces_80 rfl (lv_at hl 1 rfl) ?_
          refine ok.getR hO h_a (by decide) k11_0 (by decide) (fun _ _ he hv kk => th_get (ci := 5) (C := RX5) (T := TX5) (N := 1) hx hb hts inX5 hown hK hH he rfl 0 (by decide) fl0 hv dX5_readPlaces_81 kk) ?_
          obtain ⟨_, hc_160⟩ := hO.cell hp_5 (by decide) (ci := 8) rfl
          refine th_calli (va_runV (As := []) (rest := []) ⟨hx, hb, hml, hown, hts⟩ (f_number l G y b0 σ_s_29 E hO (ad E a 0) hp_5 T cc_32 jj_17 hT_34) (cwV 0 hts gX5_readPlaces_X8_takeNumber rfl rfl rfl (by decide +kernel) ⟨Nat.le_of_ble_eq_true rfl, Nat.le_of_ble_eq_true rfl⟩) (th_PV hK hH rfl hc_160) rfl rfl hl.1 rfl (lv_room (Nat.le_of_ble_eq_true rfl)) dX5_readPlaces_84 ⟨Nat.le_of_ble_eq_true rfl, Nat.le_of_ble_eq_true rfl⟩) hS (fun z_163 σ_s_162 H locs rz_163 hw_161 hH hS => ?_)
          obtain ⟨hO9, hF9, hw_161⟩ := hw_161
          have e_164 : gI σ_s_162 b 3 = b30 := (fr.ki hO hF9 h_b (by decide) (by decide) _).trans e_30
          have e_165 : gI σ_s_162 b 13 = b130 := (fr.ki hO hF9 h_b (by decide) (by decide) _).trans e_31
          replace hO := hO9
          replace hF := hF.tu hF9 (by decide)
          replace hw_161 : ∃ c1 j1, TSt E σ_s_162 (ad E a 0) T c1 j1 ∧ (cc_32 ≠ 0 → c1 = cc_32 ∧ j1 = jj_17) ∧ (cc_32 = 0 → nuR T jj_17 c1 j1) := hw_161
          obtain ⟨cc_166, jj_167, hT_168, hw_161⟩ := hw_161
          have hUhT_168 := hT_168.2.2
          try replace hUhT_34 := hid.mk hUhT_34
          try replace hw_28 := hid.mk hw_28
          have hc_169 : cc_32 = cc_166 := by omega
          subst hc_169
          have hc_170 : jj_17 = jj_167 := by omega
          subst hc_170
          try simp only [h0_35, ne_eq, not_true_eq_false, not_false_eq_true, false_implies, true_implies, true_and, and_true, eq_self, false_or, or_false, false_and, and_false] at hUhT_168
          have e_171 : gI σ_s_162 (ad E a 0) 6 = 260 := by omega
          refine lv_istore_n (lv' := [(3, .int (I z_163)), (2, .int (I z_13)), (0, .ref a), (1, .ref b)]) hx hb dX5_readPlaces_87 rfl hl (by decide) rfl (fun ls hl => ?_)
          refine lv_aload_n hx hb dX5_readPlaces_88 rfl (lv_at hl 2 rfl) ?_
          refine ok.getR hO h_a (by decide) k11_0 (by decide) (fun _ _ he hv kk => th_get (ci := 5) (C := RX5) (T := TX5) (N := 1) hx hb hts inX5 hown hK hH he rfl 0 (by decide) fl0 hv dX5_readPlaces_89 kk) ?_
          refine lv_bipush (v := I 93) hx hb dX5_readPlaces_92 (by decide) ?_
          obtain ⟨_, hc_172⟩ := hO.cell hp_5 (by decide) (ci := 8) rfl
          refine th_callv (va_runV (As := [.int (I 93)]) (rest := []) ⟨hx, hb, hml, hown, hts⟩ (f_expect l G y b0 σ_s_162 E hO (ad E a 0) hp_5 93 (show rng 93 from (show rng 93 from ⟨by decide, by decide⟩)) (by omega) (by omega) T cc_32 jj_17 hT_168) (cwV 1 hts gX5_readPlaces_X8_expect rfl rfl rfl (by decide +kernel) ⟨Nat.le_of_ble_eq_true rfl, Nat.le_of_ble_eq_true rfl⟩) (th_PV hK hH rfl hc_172) rfl rfl hl.1 rfl (lv_room (Nat.le_of_ble_eq_true rfl)) dX5_readPlaces_94 ⟨Nat.le_of_ble_eq_true rfl, Nat.le_of_ble_eq_true rfl⟩) hS (fun σ_s_174 H locs hw_173 hH hS => ?_)
          obtain ⟨hO9, hF9, hw_173⟩ := hw_173
          have e_175 : gI σ_s_174 b 3 = b30 := (fr.ki hO hF9 h_b (by decide) (by decide) _).trans e_164
          have e_176 : gI σ_s_174 b 13 = b130 := (fr.ki hO hF9 h_b (by decide) (by decide) _).trans e_165
          replace hO := hO9
          replace hF := hF.tu hF9 (by decide)
          replace hw_173 : ∃ c1 j1, TSt E σ_s_174 (ad E a 0) T c1 j1 ∧ (cc_32 ≠ 0 → c1 = cc_32 ∧ j1 = jj_17) ∧ (cc_32 = 0 → (tK T jj_17 = 93 ∧ c1 = 0 ∧ j1 = jj_17 + 1) ∨ (tK T jj_17 ≠ 93 ∧ c1 = 1 ∧ j1 = jj_17)) := hw_173
          obtain ⟨cc_177, jj_178, hT_179, hw_173⟩ := hw_173
          have hUhT_179 := hT_179.2.2
          try replace hUhT_168 := hid.mk hUhT_168
          try replace hw_161 := hid.mk hw_161
          have hc_180 : cc_32 = cc_177 := by omega
          subst hc_180
          have hc_181 : jj_17 = jj_178 := by omega
          subst hc_181
          try simp only [h0_35, ne_eq, not_true_eq_false, not_false_eq_true, false_implies, true_implies, true_and, and_true, eq_self, false_or, or_false, false_and, and_false] at hUhT_179
          have e_182 : gI σ_s_174 (ad E a 0) 6 = 260 := by omega
          refine lv_aload_n hx hb dX5_readPlaces_97 rfl (lv_at hl 3 rfl) ?_
          refine lv_iconst (v := I 4) hx hb dX5_readPlaces_98 (by decide) ?_
          refine lv_iload_n hx hb dX5_readPlaces_99 rfl (lv_at hl 1 rfl) ?_
          refine lv_iload_n hx hb dX5_readPlaces_100 rfl (lv_at hl 0 rfl) ?_
          obtain ⟨_, hc_183⟩ := hO.cell h_b (by decide) (ci := 4) rfl
          refine th_callv (va_runV (As := [.int (I 4), .int (I z_13), .int (I z_163)]) (rest := []) ⟨hx, hb, hml, hown, hts⟩ (p6_addStep l G y b0 σ_s_174 E hO b h_b 4 (show rng 4 from (show rng 4 from ⟨by decide, by decide⟩)) z_13 (show rng z_13 from rz_13) z_163 (show rng z_163 from rz_163)) (cwV 3 hts gX5_readPlaces_X4_addStep rfl rfl rfl (by decide +kernel) ⟨Nat.le_of_ble_eq_true rfl, Nat.le_of_ble_eq_true rfl⟩) (th_PV hK hH rfl hc_183) rfl rfl hl.1 rfl (lv_room (Nat.le_of_ble_eq_true rfl)) dX5_readPlaces_101 ⟨Nat.le_of_ble_eq_true rfl, Nat.le_of_ble_eq_true rfl⟩) hS (fun σ_s_185 H locs hw_184 hH hS => ?_)
          obtain ⟨hO9, hF9, hw_184⟩ := hw_184
          have e_186 : gI σ_s_185 (ad E a 0) 6 = 260 := (fr.ki hO hF9 hkt (by decide) (by decide) _).trans e_182
          have hT_187 : TSt E σ_s_185 (ad E a 0) T cc_32 jj_17 := TSt.mv hO hF9 hkt (by decide) hT_179
          have hUhT_187 := hT_187.2.2
          replace hO := hO9
          replace hF := hF.tu hF9 (by decide)
          replace hw_184 : gI σ_s_185 b 13 = gI σ_s_174 b 13 ∧ (0 ≤ gI σ_s_174 b 3 ∧ gI σ_s_174 b 3 < 8 → gI σ_s_185 b 3 = gI σ_s_174 b 3 + 1) ∧ (¬ (0 ≤ gI σ_s_174 b 3 ∧ gI σ_s_174 b 3 < 8) → gI σ_s_185 b 3 = gI σ_s_174 b 3) := hw_184
          try replace hUhT_179 := hid.mk hUhT_179
          try replace hw_173 := hid.mk hw_173
          try simp only [h0_35, ne_eq, not_true_eq_false, not_false_eq_true, false_implies, true_implies, true_and, and_true, eq_self, false_or, or_false, false_and, and_false] at hUhT_187
          have e_188 : gI σ_s_185 (ad E a 0) 6 = 260 := by omega
          obtain ⟨z_189, e_190, rz_189, lz_189, uz_189⟩ := hO.gi h_b (by decide) k4_3
          obtain ⟨z_191, e_192, rz_191, lz_191, uz_191⟩ := hO.gi h_b (by decide) k4_13
          exact th_vret hx hb hr hlocks hH hS ⟨hO, hF, ⟨cc_32, jj_17, hT_187, (fun h9 => absurd rfl h9), fun _ => ⟨by omega, fun h9 => absurd h9 h0_35, hG_158.was h0_35⟩, by omega, by omega⟩⟩ dX5_readPlaces_104
      · replace c_26 := (I_eq (a := z_24) (b := 93) rz_24 (show rng 93 from ⟨by decide, by decide⟩)).mp c_26
        refine lv_aload_n hx hb dX5_readPlaces_36 rfl (lv_at hl 1 rfl) ?_
        refine ok.getR hO h_a (by decide) k11_0 (by decide) (fun _ _ he hv kk => th_get (ci := 5) (C := RX5) (T := TX5) (N := 1) hx hb hts inX5 hown hK hH he rfl 0 (by decide) fl0 hv dX5_readPlaces_37 kk) ?_
        obtain ⟨_, hc_193⟩ := hO.cell hp_5 (by decide) (ci := 8) rfl
        refine th_callv (va_runV (As := []) (rest := []) ⟨hx, hb, hml, hown, hts⟩ (f_step l G y b0 σ_s_12 E hO (ad E a 0) hp_5 T 0 jj_17 hT_18) (cwV 0 hts gX5_readPlaces_X8_step rfl rfl rfl (by decide +kernel) ⟨Nat.le_of_ble_eq_true rfl, Nat.le_of_ble_eq_true rfl⟩) (th_PV hK hH rfl hc_193) rfl rfl hl.1 rfl (lv_room (Nat.le_of_ble_eq_true rfl)) dX5_readPlaces_40 ⟨Nat.le_of_ble_eq_true rfl, Nat.le_of_ble_eq_true rfl⟩) hS (fun σ_s_195 H locs hw_194 hH hS => ?_)
        obtain ⟨hO9, hF9, hw_194⟩ := hw_194
        have e_196 : gI σ_s_195 b 3 = b30 := (fr.ki hO hF9 h_b (by decide) (by decide) _).trans e_14
        have e_197 : gI σ_s_195 b 13 = b130 := (fr.ki hO hF9 h_b (by decide) (by decide) _).trans e_15
        replace hO := hO9
        replace hF := hF.tu hF9 (by decide)
        replace hw_194 : ∃ c1 j1, TSt E σ_s_195 (ad E a 0) T c1 j1 ∧ c1 = 0 ∧ ((0 : Int) ≠ 0 → j1 = jj_17) ∧ ((0 : Int) = 0 → tK T jj_17 ≠ 259 → j1 = jj_17 + 1) := hw_194
        obtain ⟨cc_198, jj_199, hT_200, hw_194⟩ := hw_194
        have hUhT_200 := hT_200.2.2
        try replace hUhT_18 := hid.mk hUhT_18
        try replace hw_11 := hid.mk hw_11
        have h0_201 : cc_198 = 0 := by omega
        subst h0_201
        try simp only [ne_eq, not_true_eq_false, not_false_eq_true, false_implies, true_implies, true_and, and_true, eq_self, false_or, or_false, false_and, and_false] at hUhT_200
        have e_202 : gI σ_s_195 (ad E a 0) 7 = 0 := by omega
        have hk_203 : gI σ_s_195 (ad E a 0) 6 = tK T jj_199 := by omega
        have hj_204 : jj_17 + 1 = jj_199 := by omega
        subst hj_204
        have hG_205 := (hG_23.qend (fun _ => by omega)).need (c2 := 0) (j2 := (jj_17 + 1)) (fun h9 => absurd rfl h9) (fun _ => by omega)
        refine lv_aload_n hx hb dX5_readPlaces_43 rfl (lv_at hl 2 rfl) ?_
        refine lv_iconst (v := I 3) hx hb dX5_readPlaces_44 (by decide) ?_
        refine lv_iload_n hx hb dX5_readPlaces_45 rfl (lv_at hl 0 rfl) ?_
        refine lv_iconst (v := I 0) hx hb dX5_readPlaces_46 (by decide) ?_
        obtain ⟨_, hc_206⟩ := hO.cell h_b (by decide) (ci := 4) rfl
        refine th_callv (va_runV (As := [.int (I 3), .int (I z_13), .int (I 0)]) (rest := []) ⟨hx, hb, hml, hown, hts⟩ (p6_addStep l G y b0 σ_s_195 E hO b h_b 3 (show rng 3 from (show rng 3 from ⟨by decide, by decide⟩)) z_13 (show rng z_13 from rz_13) 0 (show rng 0 from (show rng 0 from ⟨by decide, by decide⟩))) (cwV 3 hts gX5_readPlaces_X4_addStep rfl rfl rfl (by decide +kernel) ⟨Nat.le_of_ble_eq_true rfl, Nat.le_of_ble_eq_true rfl⟩) (th_PV hK hH rfl hc_206) rfl rfl hl.1 rfl (lv_room (Nat.le_of_ble_eq_true rfl)) dX5_readPlaces_47 ⟨Nat.le_of_ble_eq_true rfl, Nat.le_of_ble_eq_true rfl⟩) hS (fun σ_s_208 H locs hw_207 hH hS => ?_)
        obtain ⟨hO9, hF9, hw_207⟩ := hw_207
        have e_209 : gI σ_s_208 (ad E a 0) 7 = 0 := (fr.ki hO hF9 hkt (by decide) (by decide) _).trans e_202
        have hT_210 : TSt E σ_s_208 (ad E a 0) T 0 (jj_17 + 1) := TSt.mv hO hF9 hkt (by decide) hT_200
        have hUhT_210 := hT_210.2.2
        replace hO := hO9
        replace hF := hF.tu hF9 (by decide)
        replace hw_207 : gI σ_s_208 b 13 = gI σ_s_195 b 13 ∧ (0 ≤ gI σ_s_195 b 3 ∧ gI σ_s_195 b 3 < 8 → gI σ_s_208 b 3 = gI σ_s_195 b 3 + 1) ∧ (¬ (0 ≤ gI σ_s_195 b 3 ∧ gI σ_s_195 b 3 < 8) → gI σ_s_208 b 3 = gI σ_s_195 b 3) := hw_207
        try replace hUhT_200 := hid.mk hUhT_200
        try replace hw_194 := hid.mk hw_194
        try simp only [ne_eq, not_true_eq_false, not_false_eq_true, false_implies, true_implies, true_and, and_true, eq_self, false_or, or_false, false_and, and_false] at hUhT_210
        have e_211 : gI σ_s_208 (ad E a 0) 7 = 0 := by omega
        have hk_212 : gI σ_s_208 (ad E a 0) 6 = tK T (jj_17 + 1) := by omega
        obtain ⟨z_213, e_214, rz_213, lz_213, uz_213⟩ := hO.gi h_b (by decide) k4_3
        obtain ⟨z_215, e_216, rz_215, lz_215, uz_215⟩ := hO.gi h_b (by decide) k4_13
        refine lv_goto (tgt := 104) hx hb dX5_readPlaces_50 (by decide) ?_
        exact th_vret hx hb hr hlocks hH hS ⟨hO, hF, ⟨0, (jj_17 + 1), hT_210, (fun h9 => absurd rfl h9), fun _ => ⟨by omega, by omega, hG_205.ec rfl rfl (fun _ => by omega)⟩, by omega, by omega⟩⟩ dX5_readPlaces_104
    · try simp only [h0_20, ne_eq, not_true_eq_false, not_false_eq_true, false_implies, true_implies, true_and, and_true, eq_self, false_or, or_false, false_and, and_false] at hUhT_18
      have e_217 : gI σ_s_12 (ad E a 0) 6 = 260 := by omega
      have hG_218 := hG_9.num (c2 := cc_16) (j2 := jj_17) (fun h9 => absurd rfl h9) (fun _ => hw_11.2 rfl)
      refine lv_istore_n (lv' := [(2, .int (I z_13)), (0, .ref a), (1, .ref b)]) hx hb dX5_readPlaces_23 rfl hl (by decide) rfl (fun ls hl => ?_)
      refine lv_aload_n hx hb dX5_readPlaces_24 rfl (lv_at hl 1 rfl) ?_
      refine ok.getR hO h_a (by decide) k11_0 (by decide) (fun _ _ he hv kk => th_get (ci := 5) (C := RX5) (T := TX5) (N := 1) hx hb hts inX5 hown hK hH he rfl 0 (by decide) fl0 hv dX5_readPlaces_25 kk) ?_
      refine ok.getIc hO hp_5 (by decide) k3_6 e_217 (fun _ _ he hv kk => th_getN (ci := 8) (C := RX8) (T := TX8) (N := 9) hx hb hts inX8 hown hK hH he rfl 6 (by decide) (nl_5 hK) hv dX5_readPlaces_28 kk) ?_
      refine lv_bipush (v := I 93) hx hb dX5_readPlaces_31 (by decide) ?_
      refine lv_icmp_ne (tgt := 53) hx hb dX5_readPlaces_33 (by decide) (fun _ => ?_) (fun c_219 => absurd c_219 (by decide))
      refine lv_aload_n hx hb dX5_readPlaces_53 rfl (lv_at hl 1 rfl) ?_
      refine ok.getR hO h_a (by decide) k11_0 (by decide) (fun _ _ he hv kk => th_get (ci := 5) (C := RX5) (T := TX5) (N := 1) hx hb hts inX5 hown hK hH he rfl 0 (by decide) fl0 hv dX5_readPlaces_54 kk) ?_
      refine lv_bipush (v := I 58) hx hb dX5_readPlaces_57 (by decide) ?_
      obtain ⟨_, hc_220⟩ := hO.cell hp_5 (by decide) (ci := 8) rfl
      refine th_callv (va_runV (As := [.int (I 58)]) (rest := []) ⟨hx, hb, hml, hown, hts⟩ (f_expect l G y b0 σ_s_12 E hO (ad E a 0) hp_5 58 (show rng 58 from (show rng 58 from ⟨by decide, by decide⟩)) (by omega) (by omega) T cc_16 jj_17 hT_18) (cwV 1 hts gX5_readPlaces_X8_expect rfl rfl rfl (by decide +kernel) ⟨Nat.le_of_ble_eq_true rfl, Nat.le_of_ble_eq_true rfl⟩) (th_PV hK hH rfl hc_220) rfl rfl hl.1 rfl (lv_room (Nat.le_of_ble_eq_true rfl)) dX5_readPlaces_59 ⟨Nat.le_of_ble_eq_true rfl, Nat.le_of_ble_eq_true rfl⟩) hS (fun σ_s_222 H locs hw_221 hH hS => ?_)
      obtain ⟨hO9, hF9, hw_221⟩ := hw_221
      have e_223 : gI σ_s_222 b 3 = b30 := (fr.ki hO hF9 h_b (by decide) (by decide) _).trans e_14
      have e_224 : gI σ_s_222 b 13 = b130 := (fr.ki hO hF9 h_b (by decide) (by decide) _).trans e_15
      replace hO := hO9
      replace hF := hF.tu hF9 (by decide)
      replace hw_221 : ∃ c1 j1, TSt E σ_s_222 (ad E a 0) T c1 j1 ∧ (cc_16 ≠ 0 → c1 = cc_16 ∧ j1 = jj_17) ∧ (cc_16 = 0 → (tK T jj_17 = 58 ∧ c1 = 0 ∧ j1 = jj_17 + 1) ∨ (tK T jj_17 ≠ 58 ∧ c1 = 1 ∧ j1 = jj_17)) := hw_221
      obtain ⟨cc_225, jj_226, hT_227, hw_221⟩ := hw_221
      have hUhT_227 := hT_227.2.2
      try replace hUhT_18 := hid.mk hUhT_18
      try replace hw_11 := hid.mk hw_11
      have hc_228 : cc_16 = cc_225 := by omega
      subst hc_228
      have hc_229 : jj_17 = jj_226 := by omega
      subst hc_229
      try simp only [h0_20, ne_eq, not_true_eq_false, not_false_eq_true, false_implies, true_implies, true_and, and_true, eq_self, false_or, or_false, false_and, and_false] at hUhT_227
      have e_230 : gI σ_s_222 (ad E a 0) 6 = 260 := by omega
      refine lv_aload_n hx hb dX5_readPlaces_62 rfl (lv_at hl 1 rfl) ?_
      refine ok.getR hO h_a (by decide) k11_0 (by decide) (fun _ _ he hv kk => th_get (ci := 5) (C := RX5) (T := TX5) (N := 1) hx hb hts inX5 hown hK hH he rfl 0 (by decide) fl0 hv dX5_readPlaces_63 kk) ?_
      refine ok.getIc hO hp_5 (by decide) k3_6 e_230 (fun _ _ he hv kk => th_getN (ci := 8) (C := RX8) (T := TX8) (N := 9) hx hb hts inX8 hown hK hH he rfl 6 (by decide) (nl_5 hK) hv dX5_readPlaces_66 kk) ?_
      refine lv_bipush (v := I 93) hx hb dX5_readPlaces_69 (by decide) ?_
      refine lv_icmp_ne (tgt := 80) hx hb dX5_readPlaces_71 (by decide) (fun _ => ?_) (fun c_231 => absurd c_231 (by decide))
      refine lv_aload_n hx hb dX5_readPlaces_80 rfl (lv_at hl 1 rfl) ?_
      refine ok.getR hO h_a (by decide) k11_0 (by decide) (fun _ _ he hv kk => th_get (ci := 5) (C := RX5) (T := TX5) (N := 1) hx hb hts inX5 hown hK hH he rfl 0 (by decide) fl0 hv dX5_readPlaces_81 kk) ?_
      obtain ⟨_, hc_232⟩ := hO.cell hp_5 (by decide) (ci := 8) rfl
      refine th_calli (va_runV (As := []) (rest := []) ⟨hx, hb, hml, hown, hts⟩ (f_number l G y b0 σ_s_222 E hO (ad E a 0) hp_5 T cc_16 jj_17 hT_227) (cwV 0 hts gX5_readPlaces_X8_takeNumber rfl rfl rfl (by decide +kernel) ⟨Nat.le_of_ble_eq_true rfl, Nat.le_of_ble_eq_true rfl⟩) (th_PV hK hH rfl hc_232) rfl rfl hl.1 rfl (lv_room (Nat.le_of_ble_eq_true rfl)) dX5_readPlaces_84 ⟨Nat.le_of_ble_eq_true rfl, Nat.le_of_ble_eq_true rfl⟩) hS (fun z_235 σ_s_234 H locs rz_235 hw_233 hH hS => ?_)
      obtain ⟨hO9, hF9, hw_233⟩ := hw_233
      have e_236 : gI σ_s_234 b 3 = b30 := (fr.ki hO hF9 h_b (by decide) (by decide) _).trans e_223
      have e_237 : gI σ_s_234 b 13 = b130 := (fr.ki hO hF9 h_b (by decide) (by decide) _).trans e_224
      replace hO := hO9
      replace hF := hF.tu hF9 (by decide)
      replace hw_233 : ∃ c1 j1, TSt E σ_s_234 (ad E a 0) T c1 j1 ∧ (cc_16 ≠ 0 → c1 = cc_16 ∧ j1 = jj_17) ∧ (cc_16 = 0 → nuR T jj_17 c1 j1) := hw_233
      obtain ⟨cc_238, jj_239, hT_240, hw_233⟩ := hw_233
      have hUhT_240 := hT_240.2.2
      try replace hUhT_227 := hid.mk hUhT_227
      try replace hw_221 := hid.mk hw_221
      have hc_241 : cc_16 = cc_238 := by omega
      subst hc_241
      have hc_242 : jj_17 = jj_239 := by omega
      subst hc_242
      try simp only [h0_20, ne_eq, not_true_eq_false, not_false_eq_true, false_implies, true_implies, true_and, and_true, eq_self, false_or, or_false, false_and, and_false] at hUhT_240
      have e_243 : gI σ_s_234 (ad E a 0) 6 = 260 := by omega
      refine lv_istore_n (lv' := [(3, .int (I z_235)), (2, .int (I z_13)), (0, .ref a), (1, .ref b)]) hx hb dX5_readPlaces_87 rfl hl (by decide) rfl (fun ls hl => ?_)
      refine lv_aload_n hx hb dX5_readPlaces_88 rfl (lv_at hl 2 rfl) ?_
      refine ok.getR hO h_a (by decide) k11_0 (by decide) (fun _ _ he hv kk => th_get (ci := 5) (C := RX5) (T := TX5) (N := 1) hx hb hts inX5 hown hK hH he rfl 0 (by decide) fl0 hv dX5_readPlaces_89 kk) ?_
      refine lv_bipush (v := I 93) hx hb dX5_readPlaces_92 (by decide) ?_
      obtain ⟨_, hc_244⟩ := hO.cell hp_5 (by decide) (ci := 8) rfl
      refine th_callv (va_runV (As := [.int (I 93)]) (rest := []) ⟨hx, hb, hml, hown, hts⟩ (f_expect l G y b0 σ_s_234 E hO (ad E a 0) hp_5 93 (show rng 93 from (show rng 93 from ⟨by decide, by decide⟩)) (by omega) (by omega) T cc_16 jj_17 hT_240) (cwV 1 hts gX5_readPlaces_X8_expect rfl rfl rfl (by decide +kernel) ⟨Nat.le_of_ble_eq_true rfl, Nat.le_of_ble_eq_true rfl⟩) (th_PV hK hH rfl hc_244) rfl rfl hl.1 rfl (lv_room (Nat.le_of_ble_eq_true rfl)) dX5_readPlaces_94 ⟨Nat.le_of_ble_eq_true rfl, Nat.le_of_ble_eq_true rfl⟩) hS (fun σ_s_246 H locs hw_245 hH hS => ?_)
      obtain ⟨hO9, hF9, hw_245⟩ := hw_245
      have e_247 : gI σ_s_246 b 3 = b30 := (fr.ki hO hF9 h_b (by decide) (by decide) _).trans e_236
      have e_248 : gI σ_s_246 b 13 = b130 := (fr.ki hO hF9 h_b (by decide) (by decide) _).trans e_237
      replace hO := hO9
      replace hF := hF.tu hF9 (by decide)
      replace hw_245 : ∃ c1 j1, TSt E σ_s_246 (ad E a 0) T c1 j1 ∧ (cc_16 ≠ 0 → c1 = cc_16 ∧ j1 = jj_17) ∧ (cc_16 = 0 → (tK T jj_17 = 93 ∧ c1 = 0 ∧ j1 = jj_17 + 1) ∨ (tK T jj_17 ≠ 93 ∧ c1 = 1 ∧ j1 = jj_17)) := hw_245
      obtain ⟨cc_249, jj_250, hT_251, hw_245⟩ := hw_245
      have hUhT_251 := hT_251.2.2
      try replace hUhT_240 := hid.mk hUhT_240
      try replace hw_233 := hid.mk hw_233
      have hc_252 : cc_16 = cc_249 := by omega
      subst hc_252
      have hc_253 : jj_17 = jj_250 := by omega
      subst hc_253
      try simp only [h0_20, ne_eq, not_true_eq_false, not_false_eq_true, false_implies, true_implies, true_and, and_true, eq_self, false_or, or_false, false_and, and_false] at hUhT_251
      have e_254 : gI σ_s_246 (ad E a 0) 6 = 260 := by omega
      refine lv_aload_n hx hb dX5_readPlaces_97 rfl (lv_at hl 3 rfl) ?_
      refine lv_iconst (v := I 4) hx hb dX5_readPlaces_98 (by decide) ?_
      refine lv_iload_n hx hb dX5_readPlaces_99 rfl (lv_at hl 1 rfl) ?_
      refine lv_iload_n hx hb dX5_readPlaces_100 rfl (lv_at hl 0 rfl) ?_
      obtain ⟨_, hc_255⟩ := hO.cell h_b (by decide) (ci := 4) rfl
      refine th_callv (va_runV (As := [.int (I 4), .int (I z_13), .int (I z_235)]) (rest := []) ⟨hx, hb, hml, hown, hts⟩ (p6_addStep l G y b0 σ_s_246 E hO b h_b 4 (show rng 4 from (show rng 4 from ⟨by decide, by decide⟩)) z_13 (show rng z_13 from rz_13) z_235 (show rng z_235 from rz_235)) (cwV 3 hts gX5_readPlaces_X4_addStep rfl rfl rfl (by decide +kernel) ⟨Nat.le_of_ble_eq_true rfl, Nat.le_of_ble_eq_true rfl⟩) (th_PV hK hH rfl hc_255) rfl rfl hl.1 rfl (lv_room (Nat.le_of_ble_eq_true rfl)) dX5_readPlaces_101 ⟨Nat.le_of_ble_eq_true rfl, Nat.le_of_ble_eq_true rfl⟩) hS (fun σ_s_257 H locs hw_256 hH hS => ?_)
      obtain ⟨hO9, hF9, hw_256⟩ := hw_256
      have e_258 : gI σ_s_257 (ad E a 0) 6 = 260 := (fr.ki hO hF9 hkt (by decide) (by decide) _).trans e_254
      have hT_259 : TSt E σ_s_257 (ad E a 0) T cc_16 jj_17 := TSt.mv hO hF9 hkt (by decide) hT_251
      have hUhT_259 := hT_259.2.2
      replace hO := hO9
      replace hF := hF.tu hF9 (by decide)
      replace hw_256 : gI σ_s_257 b 13 = gI σ_s_246 b 13 ∧ (0 ≤ gI σ_s_246 b 3 ∧ gI σ_s_246 b 3 < 8 → gI σ_s_257 b 3 = gI σ_s_246 b 3 + 1) ∧ (¬ (0 ≤ gI σ_s_246 b 3 ∧ gI σ_s_246 b 3 < 8) → gI σ_s_257 b 3 = gI σ_s_246 b 3) := hw_256
      try replace hUhT_251 := hid.mk hUhT_251
      try replace hw_245 := hid.mk hw_245
      try simp only [h0_20, ne_eq, not_true_eq_false, not_false_eq_true, false_implies, true_implies, true_and, and_true, eq_self, false_or, or_false, false_and, and_false] at hUhT_259
      have e_260 : gI σ_s_257 (ad E a 0) 6 = 260 := by omega
      obtain ⟨z_261, e_262, rz_261, lz_261, uz_261⟩ := hO.gi h_b (by decide) k4_3
      obtain ⟨z_263, e_264, rz_263, lz_263, uz_263⟩ := hO.gi h_b (by decide) k4_13
      exact th_vret hx hb hr hlocks hH hS ⟨hO, hF, ⟨cc_16, jj_17, hT_259, (fun h9 => absurd rfl h9), fun _ => ⟨by omega, fun h9 => absurd h9 h0_20, hG_218.was h0_20⟩, by omega, by omega⟩⟩ dX5_readPlaces_104
  · replace c_8 := (I_eq (a := z_6) (b := 58) rz_6 (show rng 58 from ⟨by decide, by decide⟩)).mp c_8
    have hG_265 := hG_4.pcol (by omega)
    refine lv_iconst (v := I 0) hx hb dX5_readPlaces_12 (by decide) ?_
    refine lv_goto (tgt := 23) hx hb dX5_readPlaces_13 (by decide) ?_
    refine lv_istore_n (lv' := [(2, .int (I 0)), (0, .ref a), (1, .ref b)]) hx hb dX5_readPlaces_23 rfl hl (by decide) rfl (fun ls hl => ?_)
    refine lv_aload_n hx hb dX5_readPlaces_24 rfl (lv_at hl 1 rfl) ?_
    refine ok.getR hO h_a (by decide) k11_0 (by decide) (fun _ _ he hv kk => th_get (ci := 5) (C := RX5) (T := TX5) (N := 1) hx hb hts inX5 hown hK hH he rfl 0 (by decide) fl0 hv dX5_readPlaces_25 kk) ?_
    refine ok.getIc hO hp_5 (by decide) k3_6 e_7 (fun _ _ he hv kk => th_getN (ci := 8) (C := RX8) (T := TX8) (N := 9) hx hb hts inX8 hown hK hH he rfl 6 (by decide) (nl_5 hK) hv dX5_readPlaces_28 kk) ?_
    refine lv_bipush (v := I 93) hx hb dX5_readPlaces_31 (by decide) ?_
    refine lv_icmp_ne (tgt := 53) hx hb dX5_readPlaces_33 (by decide) (fun c_266 => ?_) (fun c_266 => ?_)
    · replace c_266 := mt (I_eq (a := z_6) (b := 93) rz_6 (show rng 93 from ⟨by decide, by decide⟩)).mpr c_266
      refine lv_aload_n hx hb dX5_readPlaces_53 rfl (lv_at hl 1 rfl) ?_
      refine ok.getR hO h_a (by decide) k11_0 (by decide) (fun _ _ he hv kk => th_get (ci := 5) (C := RX5) (T := TX5) (N := 1) hx hb hts inX5 hown hK hH he rfl 0 (by decide) fl0 hv dX5_readPlaces_54 kk) ?_
      refine lv_bipush (v := I 58) hx hb dX5_readPlaces_57 (by decide) ?_
      obtain ⟨_, hc_267⟩ := hO.cell hp_5 (by decide) (ci := 8) rfl
      refine th_callv (va_runV (As := [.int (I 58)]) (rest := []) ⟨hx, hb, hml, hown, hts⟩ (f_expect l G y b0 σ E hO (ad E a 0) hp_5 58 (show rng 58 from (show rng 58 from ⟨by decide, by decide⟩)) (by omega) (by omega) T 0 jt hT0) (cwV 1 hts gX5_readPlaces_X8_expect rfl rfl rfl (by decide +kernel) ⟨Nat.le_of_ble_eq_true rfl, Nat.le_of_ble_eq_true rfl⟩) (th_PV hK hH rfl hc_267) rfl rfl hl.1 rfl (lv_room (Nat.le_of_ble_eq_true rfl)) dX5_readPlaces_59 ⟨Nat.le_of_ble_eq_true rfl, Nat.le_of_ble_eq_true rfl⟩) hS (fun σ_s_269 H locs hw_268 hH hS => ?_)
      obtain ⟨hO9, hF9, hw_268⟩ := hw_268
      have e_270 : gI σ_s_269 b 3 = b30 := (fr.ki hO hF9 h_b (by decide) (by decide) _).trans eb30
      have e_271 : gI σ_s_269 b 13 = b130 := (fr.ki hO hF9 h_b (by decide) (by decide) _).trans eb130
      replace hO := hO9
      replace hF := hF.tu hF9 (by decide)
      replace hw_268 : ∃ c1 j1, TSt E σ_s_269 (ad E a 0) T c1 j1 ∧ ((0 : Int) ≠ 0 → c1 = 0 ∧ j1 = jt) ∧ ((0 : Int) = 0 → (tK T jt = 58 ∧ c1 = 0 ∧ j1 = jt + 1) ∨ (tK T jt ≠ 58 ∧ c1 = 1 ∧ j1 = jt)) := hw_268
      obtain ⟨cc_272, jj_273, hT_274, hw_268⟩ := hw_268
      have hUhT_274 := hT_274.2.2
      try replace hU0 := hid.mk hU0
      rcases Classical.em (cc_272 = 0) with h0_275 | h0_275
      · subst h0_275
        try simp only [ne_eq, not_true_eq_false, not_false_eq_true, false_implies, true_implies, true_and, and_true, eq_self, false_or, or_false, false_and, and_false] at hUhT_274
        have e_276 : gI σ_s_269 (ad E a 0) 7 = 0 := by omega
        have hk_277 : gI σ_s_269 (ad E a 0) 6 = tK T jj_273 := by omega
        have hj_278 : jt + 1 = jj_273 := by omega
        subst hj_278
        have hG_279 := hG_265.qcol (by omega)
        refine lv_aload_n hx hb dX5_readPlaces_62 rfl (lv_at hl 1 rfl) ?_
        refine ok.getR hO h_a (by decide) k11_0 (by decide) (fun _ _ he hv kk => th_get (ci := 5) (C := RX5) (T := TX5) (N := 1) hx hb hts inX5 hown hK hH he rfl 0 (by decide) fl0 hv dX5_readPlaces_63 kk) ?_
        refine ok.getI hO hp_5 (by decide) k3_6 (fun _ _ he hv kk => th_getN (ci := 8) (C := RX8) (T := TX8) (N := 9) hx hb hts inX8 hown hK hH he rfl 6 (by decide) (nl_5 hK) hv dX5_readPlaces_66 kk) (fun z_280 e_281 rz_280 lz_280 uz_280 => ?_)
        refine lv_bipush (v := I 93) hx hb dX5_readPlaces_69 (by decide) ?_
        refine lv_icmp_ne (tgt := 80) hx hb dX5_readPlaces_71 (by decide) (fun c_282 => ?_) (fun c_282 => ?_)
        · replace c_282 := mt (I_eq (a := z_280) (b := 93) rz_280 (show rng 93 from ⟨by decide, by decide⟩)).mpr c_282
          have hG_283 := hG_279.rnum (by omega)
          refine lv_aload_n hx hb dX5_readPlaces_80 rfl (lv_at hl 1 rfl) ?_
          refine ok.getR hO h_a (by decide) k11_0 (by decide) (fun _ _ he hv kk => th_get (ci := 5) (C := RX5) (T := TX5) (N := 1) hx hb hts inX5 hown hK hH he rfl 0 (by decide) fl0 hv dX5_readPlaces_81 kk) ?_
          obtain ⟨_, hc_284⟩ := hO.cell hp_5 (by decide) (ci := 8) rfl
          refine th_calli (va_runV (As := []) (rest := []) ⟨hx, hb, hml, hown, hts⟩ (f_number l G y b0 σ_s_269 E hO (ad E a 0) hp_5 T 0 (jt + 1) hT_274) (cwV 0 hts gX5_readPlaces_X8_takeNumber rfl rfl rfl (by decide +kernel) ⟨Nat.le_of_ble_eq_true rfl, Nat.le_of_ble_eq_true rfl⟩) (th_PV hK hH rfl hc_284) rfl rfl hl.1 rfl (lv_room (Nat.le_of_ble_eq_true rfl)) dX5_readPlaces_84 ⟨Nat.le_of_ble_eq_true rfl, Nat.le_of_ble_eq_true rfl⟩) hS (fun z_287 σ_s_286 H locs rz_287 hw_285 hH hS => ?_)
          obtain ⟨hO9, hF9, hw_285⟩ := hw_285
          have e_288 : gI σ_s_286 b 3 = b30 := (fr.ki hO hF9 h_b (by decide) (by decide) _).trans e_270
          have e_289 : gI σ_s_286 b 13 = b130 := (fr.ki hO hF9 h_b (by decide) (by decide) _).trans e_271
          replace hO := hO9
          replace hF := hF.tu hF9 (by decide)
          replace hw_285 : ∃ c1 j1, TSt E σ_s_286 (ad E a 0) T c1 j1 ∧ ((0 : Int) ≠ 0 → c1 = 0 ∧ j1 = (jt + 1)) ∧ ((0 : Int) = 0 → nuR T (jt + 1) c1 j1) := hw_285
          obtain ⟨cc_290, jj_291, hT_292, hw_285⟩ := hw_285
          have hUhT_292 := hT_292.2.2
          try replace hUhT_274 := hid.mk hUhT_274
          try replace hw_268 := hid.mk hw_268
          have hb_293 := (hw_285.2 rfl).le
          rcases Classical.em (cc_290 = 0) with h0_294 | h0_294
          · subst h0_294
            try simp only [ne_eq, not_true_eq_false, not_false_eq_true, false_implies, true_implies, true_and, and_true, eq_self, false_or, or_false, false_and, and_false] at hUhT_292
            have e_295 : gI σ_s_286 (ad E a 0) 7 = 0 := by omega
            have hk_296 : gI σ_s_286 (ad E a 0) 6 = tK T jj_291 := by omega
            have hG_297 := hG_283.num (c2 := 0) (j2 := jj_291) (fun h9 => absurd rfl h9) (fun _ => hw_285.2 rfl)
            refine lv_istore_n (lv' := [(3, .int (I z_287)), (2, .int (I 0)), (0, .ref a), (1, .ref b)]) hx hb dX5_readPlaces_87 rfl hl (by decide) rfl (fun ls hl => ?_)
            refine lv_aload_n hx hb dX5_readPlaces_88 rfl (lv_at hl 2 rfl) ?_
            refine ok.getR hO h_a (by decide) k11_0 (by decide) (fun _ _ he hv kk => th_get (ci := 5) (C := RX5) (T := TX5) (N := 1) hx hb hts inX5 hown hK hH he rfl 0 (by decide) fl0 hv dX5_readPlaces_89 kk) ?_
            refine lv_bipush (v := I 93) hx hb dX5_readPlaces_92 (by decide) ?_
            obtain ⟨_, hc_298⟩ := hO.cell hp_5 (by decide) (ci := 8) rfl
            refine th_callv (va_runV (As := [.int (I 93)]) (rest := []) ⟨hx, hb, hml, hown, hts⟩ (f_expect l G y b0 σ_s_286 E hO (ad E a 0) hp_5 93 (show rng 93 from (show rng 93 from ⟨by decide, by decide⟩)) (by omega) (by omega) T 0 jj_291 hT_292) (cwV 1 hts gX5_readPlaces_X8_expect rfl rfl rfl (by decide +kernel) ⟨Nat.le_of_ble_eq_true rfl, Nat.le_of_ble_eq_true rfl⟩) (th_PV hK hH rfl hc_298) rfl rfl hl.1 rfl (lv_room (Nat.le_of_ble_eq_true rfl)) dX5_readPlaces_94 ⟨Nat.le_of_ble_eq_true rfl, Nat.le_of_ble_eq_true rfl⟩) hS (fun σ_s_300 H locs hw_299 hH hS => ?_)
            obtain ⟨hO9, hF9, hw_299⟩ := hw_299
            have e_301 : gI σ_s_300 b 3 = b30 := (fr.ki hO hF9 h_b (by decide) (by decide) _).trans e_288
            have e_302 : gI σ_s_300 b 13 = b130 := (fr.ki hO hF9 h_b (by decide) (by decide) _).trans e_289
            replace hO := hO9
            replace hF := hF.tu hF9 (by decide)
            replace hw_299 : ∃ c1 j1, TSt E σ_s_300 (ad E a 0) T c1 j1 ∧ ((0 : Int) ≠ 0 → c1 = 0 ∧ j1 = jj_291) ∧ ((0 : Int) = 0 → (tK T jj_291 = 93 ∧ c1 = 0 ∧ j1 = jj_291 + 1) ∨ (tK T jj_291 ≠ 93 ∧ c1 = 1 ∧ j1 = jj_291)) := hw_299
            obtain ⟨cc_303, jj_304, hT_305, hw_299⟩ := hw_299
            have hUhT_305 := hT_305.2.2
            try replace hUhT_292 := hid.mk hUhT_292
            try replace hw_285 := hid.mk hw_285
            rcases Classical.em (cc_303 = 0) with h0_306 | h0_306
            · subst h0_306
              try simp only [ne_eq, not_true_eq_false, not_false_eq_true, false_implies, true_implies, true_and, and_true, eq_self, false_or, or_false, false_and, and_false] at hUhT_305
              have e_307 : gI σ_s_300 (ad E a 0) 7 = 0 := by omega
              have hk_308 : gI σ_s_300 (ad E a 0) 6 = tK T jj_304 := by omega
              have hj_309 : jj_291 + 1 = jj_304 := by omega
              subst hj_309
              have hG_310 := hG_297.need (c2 := 0) (j2 := (jj_291 + 1)) (fun h9 => absurd rfl h9) (fun _ => by omega)
              refine lv_aload_n hx hb dX5_readPlaces_97 rfl (lv_at hl 3 rfl) ?_
              refine lv_iconst (v := I 4) hx hb dX5_readPlaces_98 (by decide) ?_
              refine lv_iload_n hx hb dX5_readPlaces_99 rfl (lv_at hl 1 rfl) ?_
              refine lv_iload_n hx hb dX5_readPlaces_100 rfl (lv_at hl 0 rfl) ?_
              obtain ⟨_, hc_311⟩ := hO.cell h_b (by decide) (ci := 4) rfl
              refine th_callv (va_runV (As := [.int (I 4), .int (I 0), .int (I z_287)]) (rest := []) ⟨hx, hb, hml, hown, hts⟩ (p6_addStep l G y b0 σ_s_300 E hO b h_b 4 (show rng 4 from (show rng 4 from ⟨by decide, by decide⟩)) 0 (show rng 0 from (show rng 0 from ⟨by decide, by decide⟩)) z_287 (show rng z_287 from rz_287)) (cwV 3 hts gX5_readPlaces_X4_addStep rfl rfl rfl (by decide +kernel) ⟨Nat.le_of_ble_eq_true rfl, Nat.le_of_ble_eq_true rfl⟩) (th_PV hK hH rfl hc_311) rfl rfl hl.1 rfl (lv_room (Nat.le_of_ble_eq_true rfl)) dX5_readPlaces_101 ⟨Nat.le_of_ble_eq_true rfl, Nat.le_of_ble_eq_true rfl⟩) hS (fun σ_s_313 H locs hw_312 hH hS => ?_)
              obtain ⟨hO9, hF9, hw_312⟩ := hw_312
              have e_314 : gI σ_s_313 (ad E a 0) 7 = 0 := (fr.ki hO hF9 hkt (by decide) (by decide) _).trans e_307
              have hT_315 : TSt E σ_s_313 (ad E a 0) T 0 (jj_291 + 1) := TSt.mv hO hF9 hkt (by decide) hT_305
              have hUhT_315 := hT_315.2.2
              replace hO := hO9
              replace hF := hF.tu hF9 (by decide)
              replace hw_312 : gI σ_s_313 b 13 = gI σ_s_300 b 13 ∧ (0 ≤ gI σ_s_300 b 3 ∧ gI σ_s_300 b 3 < 8 → gI σ_s_313 b 3 = gI σ_s_300 b 3 + 1) ∧ (¬ (0 ≤ gI σ_s_300 b 3 ∧ gI σ_s_300 b 3 < 8) → gI σ_s_313 b 3 = gI σ_s_300 b 3) := hw_312
              try replace hUhT_305 := hid.mk hUhT_305
              try replace hw_299 := hid.mk hw_299
              try simp only [ne_eq, not_true_eq_false, not_false_eq_true, false_implies, true_implies, true_and, and_true, eq_self, false_or, or_false, false_and, and_false] at hUhT_315
              have e_316 : gI σ_s_313 (ad E a 0) 7 = 0 := by omega
              have hk_317 : gI σ_s_313 (ad E a 0) 6 = tK T (jj_291 + 1) := by omega
              obtain ⟨z_318, e_319, rz_318, lz_318, uz_318⟩ := hO.gi h_b (by decide) k4_3
              obtain ⟨z_320, e_321, rz_320, lz_320, uz_320⟩ := hO.gi h_b (by decide) k4_13
              exact th_vret hx hb hr hlocks hH hS ⟨hO, hF, ⟨0, (jj_291 + 1), hT_315, (fun h9 => absurd rfl h9), fun _ => ⟨by omega, by omega, hG_310.ec rfl rfl (fun _ => by omega)⟩, by omega, by omega⟩⟩ dX5_readPlaces_104
            · try simp only [h0_306, ne_eq, not_true_eq_false, not_false_eq_true, false_implies, true_implies, true_and, and_true, eq_self, false_or, or_false, false_and, and_false] at hUhT_305
              have e_322 : gI σ_s_300 (ad E a 0) 6 = 260 := by omega
              have hj_323 : jj_291 = jj_304 := by omega
              subst hj_323
              have hG_324 := hG_297.need (c2 := cc_303) (j2 := jj_291) (fun h9 => absurd rfl h9) (fun _ => by omega)
              refine lv_aload_n hx hb dX5_readPlaces_97 rfl (lv_at hl 3 rfl) ?_
              refine lv_iconst (v := I 4) hx hb dX5_readPlaces_98 (by decide) ?_
              refine lv_iload_n hx hb dX5_readPlaces_99 rfl (lv_at hl 1 rfl) ?_
              refine lv_iload_n hx hb dX5_readPlaces_100 rfl (lv_at hl 0 rfl) ?_
              obtain ⟨_, hc_325⟩ := hO.cell h_b (by decide) (ci := 4) rfl
              refine th_callv (va_runV (As := [.int (I 4), .int (I 0), .int (I z_287)]) (rest := []) ⟨hx, hb, hml, hown, hts⟩ (p6_addStep l G y b0 σ_s_300 E hO b h_b 4 (show rng 4 from (show rng 4 from ⟨by decide, by decide⟩)) 0 (show rng 0 from (show rng 0 from ⟨by decide, by decide⟩)) z_287 (show rng z_287 from rz_287)) (cwV 3 hts gX5_readPlaces_X4_addStep rfl rfl rfl (by decide +kernel) ⟨Nat.le_of_ble_eq_true rfl, Nat.le_of_ble_eq_true rfl⟩) (th_PV hK hH rfl hc_325) rfl rfl hl.1 rfl (lv_room (Nat.le_of_ble_eq_true rfl)) dX5_readPlaces_101 ⟨Nat.le_of_ble_eq_true rfl, Nat.le_of_ble_eq_true rfl⟩) hS (fun σ_s_327 H locs hw_326 hH hS => ?_)
              obtain ⟨hO9, hF9, hw_326⟩ := hw_326
              have e_328 : gI σ_s_327 (ad E a 0) 6 = 260 := (fr.ki hO hF9 hkt (by decide) (by decide) _).trans e_322
              have hT_329 : TSt E σ_s_327 (ad E a 0) T cc_303 jj_291 := TSt.mv hO hF9 hkt (by decide) hT_305
              have hUhT_329 := hT_329.2.2
              replace hO := hO9
              replace hF := hF.tu hF9 (by decide)
              replace hw_326 : gI σ_s_327 b 13 = gI σ_s_300 b 13 ∧ (0 ≤ gI σ_s_300 b 3 ∧ gI σ_s_300 b 3 < 8 → gI σ_s_327 b 3 = gI σ_s_300 b 3 + 1) ∧ (¬ (0 ≤ gI σ_s_300 b 3 ∧ gI σ_s_300 b 3 < 8) → gI σ_s_327 b 3 = gI σ_s_300 b 3) := hw_326
              try replace hUhT_305 := hid.mk hUhT_305
              try replace hw_299 := hid.mk hw_299
              try simp only [h0_306, ne_eq, not_true_eq_false, not_false_eq_true, false_implies, true_implies, true_and, and_true, eq_self, false_or, or_false, false_and, and_false] at hUhT_329
              have e_330 : gI σ_s_327 (ad E a 0) 6 = 260 := by omega
              obtain ⟨z_331, e_332, rz_331, lz_331, uz_331⟩ := hO.gi h_b (by decide) k4_3
              obtain ⟨z_333, e_334, rz_333, lz_333, uz_333⟩ := hO.gi h_b (by decide) k4_13
              exact th_vret hx hb hr hlocks hH hS ⟨hO, hF, ⟨cc_303, jj_291, hT_329, (fun h9 => absurd rfl h9), fun _ => ⟨by omega, fun h9 => absurd h9 h0_306, hG_324.was h0_306⟩, by omega, by omega⟩⟩ dX5_readPlaces_104
          · try simp only [h0_294, ne_eq, not_true_eq_false, not_false_eq_true, false_implies, true_implies, true_and, and_true, eq_self, false_or, or_false, false_and, and_false] at hUhT_292
            have e_335 : gI σ_s_286 (ad E a 0) 6 = 260 := by omega
            have hG_336 := hG_283.num (c2 := cc_290) (j2 := jj_291) (fun h9 => absurd rfl h9) (fun _ => hw_285.2 rfl)
            refine lv_istore_n (lv' := [(3, .int (I z_287)), (2, .int (I 0)), (0, .ref a), (1, .ref b)]) hx hb dX5_readPlaces_87 rfl hl (by decide) rfl (fun ls hl => ?_)
            refine lv_aload_n hx hb dX5_readPlaces_88 rfl (lv_at hl 2 rfl) ?_
            refine ok.getR hO h_a (by decide) k11_0 (by decide) (fun _ _ he hv kk => th_get (ci := 5) (C := RX5) (T := TX5) (N := 1) hx hb hts inX5 hown hK hH he rfl 0 (by decide) fl0 hv dX5_readPlaces_89 kk) ?_
            refine lv_bipush (v := I 93) hx hb dX5_readPlaces_92 (by decide) ?_
            obtain ⟨_, hc_337⟩ := hO.cell hp_5 (by decide) (ci := 8) rfl
            refine th_callv (va_runV (As := [.int (I 93)]) (rest := []) ⟨hx, hb, hml, hown, hts⟩ (f_expect l G y b0 σ_s_286 E hO (ad E a 0) hp_5 93 (show rng 93 from (show rng 93 from ⟨by decide, by decide⟩)) (by omega) (by omega) T cc_290 jj_291 hT_292) (cwV 1 hts gX5_readPlaces_X8_expect rfl rfl rfl (by decide +kernel) ⟨Nat.le_of_ble_eq_true rfl, Nat.le_of_ble_eq_true rfl⟩) (th_PV hK hH rfl hc_337) rfl rfl hl.1 rfl (lv_room (Nat.le_of_ble_eq_true rfl)) dX5_readPlaces_94 ⟨Nat.le_of_ble_eq_true rfl, Nat.le_of_ble_eq_true rfl⟩) hS (fun σ_s_339 H locs hw_338 hH hS => ?_)
            obtain ⟨hO9, hF9, hw_338⟩ := hw_338
            have e_340 : gI σ_s_339 b 3 = b30 := (fr.ki hO hF9 h_b (by decide) (by decide) _).trans e_288
            have e_341 : gI σ_s_339 b 13 = b130 := (fr.ki hO hF9 h_b (by decide) (by decide) _).trans e_289
            replace hO := hO9
            replace hF := hF.tu hF9 (by decide)
            replace hw_338 : ∃ c1 j1, TSt E σ_s_339 (ad E a 0) T c1 j1 ∧ (cc_290 ≠ 0 → c1 = cc_290 ∧ j1 = jj_291) ∧ (cc_290 = 0 → (tK T jj_291 = 93 ∧ c1 = 0 ∧ j1 = jj_291 + 1) ∨ (tK T jj_291 ≠ 93 ∧ c1 = 1 ∧ j1 = jj_291)) := hw_338
            obtain ⟨cc_342, jj_343, hT_344, hw_338⟩ := hw_338
            have hUhT_344 := hT_344.2.2
            try replace hUhT_292 := hid.mk hUhT_292
            try replace hw_285 := hid.mk hw_285
            have hc_345 : cc_290 = cc_342 := by omega
            subst hc_345
            have hc_346 : jj_291 = jj_343 := by omega
            subst hc_346
            try simp only [h0_294, ne_eq, not_true_eq_false, not_false_eq_true, false_implies, true_implies, true_and, and_true, eq_self, false_or, or_false, false_and, and_false] at hUhT_344
            have e_347 : gI σ_s_339 (ad E a 0) 6 = 260 := by omega
            refine lv_aload_n hx hb dX5_readPlaces_97 rfl (lv_at hl 3 rfl) ?_
            refine lv_iconst (v := I 4) hx hb dX5_readPlaces_98 (by decide) ?_
            refine lv_iload_n hx hb dX5_readPlaces_99 rfl (lv_at hl 1 rfl) ?_
            refine lv_iload_n hx hb dX5_readPlaces_100 rfl (lv_at hl 0 rfl) ?_
            obtain ⟨_, hc_348⟩ := hO.cell h_b (by decide) (ci := 4) rfl
            refine th_callv (va_runV (As := [.int (I 4), .int (I 0), .int (I z_287)]) (rest := []) ⟨hx, hb, hml, hown, hts⟩ (p6_addStep l G y b0 σ_s_339 E hO b h_b 4 (show rng 4 from (show rng 4 from ⟨by decide, by decide⟩)) 0 (show rng 0 from (show rng 0 from ⟨by decide, by decide⟩)) z_287 (show rng z_287 from rz_287)) (cwV 3 hts gX5_readPlaces_X4_addStep rfl rfl rfl (by decide +kernel) ⟨Nat.le_of_ble_eq_true rfl, Nat.le_of_ble_eq_true rfl⟩) (th_PV hK hH rfl hc_348) rfl rfl hl.1 rfl (lv_room (Nat.le_of_ble_eq_true rfl)) dX5_readPlaces_101 ⟨Nat.le_of_ble_eq_true rfl, Nat.le_of_ble_eq_true rfl⟩) hS (fun σ_s_350 H locs hw_349 hH hS => ?_)
            obtain ⟨hO9, hF9, hw_349⟩ := hw_349
            have e_351 : gI σ_s_350 (ad E a 0) 6 = 260 := (fr.ki hO hF9 hkt (by decide) (by decide) _).trans e_347
            have hT_352 : TSt E σ_s_350 (ad E a 0) T cc_290 jj_291 := TSt.mv hO hF9 hkt (by decide) hT_344
            have hUhT_352 := hT_352.2.2
            replace hO := hO9
            replace hF := hF.tu hF9 (by decide)
            replace hw_349 : gI σ_s_350 b 13 = gI σ_s_339 b 13 ∧ (0 ≤ gI σ_s_339 b 3 ∧ gI σ_s_339 b 3 < 8 → gI σ_s_350 b 3 = gI σ_s_339 b 3 + 1) ∧ (¬ (0 ≤ gI σ_s_339 b 3 ∧ gI σ_s_339 b 3 < 8) → gI σ_s_350 b 3 = gI σ_s_339 b 3) := hw_349
            try replace hUhT_344 := hid.mk hUhT_344
            try replace hw_338 := hid.mk hw_338
            try simp only [h0_294, ne_eq, not_true_eq_false, not_false_eq_true, false_implies, true_implies, true_and, and_true, eq_self, false_or, or_false, false_and, and_false] at hUhT_352
            have e_353 : gI σ_s_350 (ad E a 0) 6 = 260 := by omega
            obtain ⟨z_354, e_355, rz_354, lz_354, uz_354⟩ := hO.gi h_b (by decide) k4_3
            obtain ⟨z_356, e_357, rz_356, lz_356, uz_356⟩ := hO.gi h_b (by decide) k4_13
            exact th_vret hx hb hr hlocks hH hS ⟨hO, hF, ⟨cc_290, jj_291, hT_352, (fun h9 => absurd rfl h9), fun _ => ⟨by omega, fun h9 => absurd h9 h0_294, hG_336.was h0_294⟩, by omega, by omega⟩⟩ dX5_readPlaces_104
        · replace c_282 := (I_eq (a := z_280) (b := 93) rz_280 (show rng 93 from ⟨by decide, by decide⟩)).mp c_282
          have hG_358 := hG_279.rend (by omega)
          refine lv_sipush (v := I 1000) hx hb dX5_readPlaces_74 (by decide) ?_
          refine lv_goto (tgt := 87) hx hb dX5_readPlaces_77 (by decide) ?_
          refine lv_istore_n (lv' := [(3, .int (I 1000)), (2, .int (I 0)), (0, .ref a), (1, .ref b)]) hx hb dX5_readPlaces_87 rfl hl (by decide) rfl (fun ls hl => ?_)
          refine lv_aload_n hx hb dX5_readPlaces_88 rfl (lv_at hl 2 rfl) ?_
          refine ok.getR hO h_a (by decide) k11_0 (by decide) (fun _ _ he hv kk => th_get (ci := 5) (C := RX5) (T := TX5) (N := 1) hx hb hts inX5 hown hK hH he rfl 0 (by decide) fl0 hv dX5_readPlaces_89 kk) ?_
          refine lv_bipush (v := I 93) hx hb dX5_readPlaces_92 (by decide) ?_
          obtain ⟨_, hc_359⟩ := hO.cell hp_5 (by decide) (ci := 8) rfl
          refine th_callv (va_runV (As := [.int (I 93)]) (rest := []) ⟨hx, hb, hml, hown, hts⟩ (f_expect l G y b0 σ_s_269 E hO (ad E a 0) hp_5 93 (show rng 93 from (show rng 93 from ⟨by decide, by decide⟩)) (by omega) (by omega) T 0 (jt + 1) hT_274) (cwV 1 hts gX5_readPlaces_X8_expect rfl rfl rfl (by decide +kernel) ⟨Nat.le_of_ble_eq_true rfl, Nat.le_of_ble_eq_true rfl⟩) (th_PV hK hH rfl hc_359) rfl rfl hl.1 rfl (lv_room (Nat.le_of_ble_eq_true rfl)) dX5_readPlaces_94 ⟨Nat.le_of_ble_eq_true rfl, Nat.le_of_ble_eq_true rfl⟩) hS (fun σ_s_361 H locs hw_360 hH hS => ?_)
          obtain ⟨hO9, hF9, hw_360⟩ := hw_360
          have e_362 : gI σ_s_361 b 3 = b30 := (fr.ki hO hF9 h_b (by decide) (by decide) _).trans e_270
          have e_363 : gI σ_s_361 b 13 = b130 := (fr.ki hO hF9 h_b (by decide) (by decide) _).trans e_271
          replace hO := hO9
          replace hF := hF.tu hF9 (by decide)
          replace hw_360 : ∃ c1 j1, TSt E σ_s_361 (ad E a 0) T c1 j1 ∧ ((0 : Int) ≠ 0 → c1 = 0 ∧ j1 = (jt + 1)) ∧ ((0 : Int) = 0 → (tK T (jt + 1) = 93 ∧ c1 = 0 ∧ j1 = (jt + 1) + 1) ∨ (tK T (jt + 1) ≠ 93 ∧ c1 = 1 ∧ j1 = (jt + 1))) := hw_360
          obtain ⟨cc_364, jj_365, hT_366, hw_360⟩ := hw_360
          have hUhT_366 := hT_366.2.2
          try replace hUhT_274 := hid.mk hUhT_274
          try replace hw_268 := hid.mk hw_268
          rcases Classical.em (cc_364 = 0) with h0_367 | h0_367
          · subst h0_367
            try simp only [ne_eq, not_true_eq_false, not_false_eq_true, false_implies, true_implies, true_and, and_true, eq_self, false_or, or_false, false_and, and_false] at hUhT_366
            have e_368 : gI σ_s_361 (ad E a 0) 7 = 0 := by omega
            have hk_369 : gI σ_s_361 (ad E a 0) 6 = tK T jj_365 := by omega
            have hj_370 : (jt + 1) + 1 = jj_365 := by omega
            subst hj_370
            have hG_371 := hG_358.need (c2 := 0) (j2 := ((jt + 1) + 1)) (fun h9 => absurd rfl h9) (fun _ => by omega)
            refine lv_aload_n hx hb dX5_readPlaces_97 rfl (lv_at hl 3 rfl) ?_
            refine lv_iconst (v := I 4) hx hb dX5_readPlaces_98 (by decide) ?_
            refine lv_iload_n hx hb dX5_readPlaces_99 rfl (lv_at hl 1 rfl) ?_
            refine lv_iload_n hx hb dX5_readPlaces_100 rfl (lv_at hl 0 rfl) ?_
            obtain ⟨_, hc_372⟩ := hO.cell h_b (by decide) (ci := 4) rfl
            refine th_callv (va_runV (As := [.int (I 4), .int (I 0), .int (I 1000)]) (rest := []) ⟨hx, hb, hml, hown, hts⟩ (p6_addStep l G y b0 σ_s_361 E hO b h_b 4 (show rng 4 from (show rng 4 from ⟨by decide, by decide⟩)) 0 (show rng 0 from (show rng 0 from ⟨by decide, by decide⟩)) 1000 (show rng 1000 from (show rng 1000 from ⟨by decide, by decide⟩))) (cwV 3 hts gX5_readPlaces_X4_addStep rfl rfl rfl (by decide +kernel) ⟨Nat.le_of_ble_eq_true rfl, Nat.le_of_ble_eq_true rfl⟩) (th_PV hK hH rfl hc_372) rfl rfl hl.1 rfl (lv_room (Nat.le_of_ble_eq_true rfl)) dX5_readPlaces_101 ⟨Nat.le_of_ble_eq_true rfl, Nat.le_of_ble_eq_true rfl⟩) hS (fun σ_s_374 H locs hw_373 hH hS => ?_)
            obtain ⟨hO9, hF9, hw_373⟩ := hw_373
            have e_375 : gI σ_s_374 (ad E a 0) 7 = 0 := (fr.ki hO hF9 hkt (by decide) (by decide) _).trans e_368
            have hT_376 : TSt E σ_s_374 (ad E a 0) T 0 ((jt + 1) + 1) := TSt.mv hO hF9 hkt (by decide) hT_366
            have hUhT_376 := hT_376.2.2
            replace hO := hO9
            replace hF := hF.tu hF9 (by decide)
            replace hw_373 : gI σ_s_374 b 13 = gI σ_s_361 b 13 ∧ (0 ≤ gI σ_s_361 b 3 ∧ gI σ_s_361 b 3 < 8 → gI σ_s_374 b 3 = gI σ_s_361 b 3 + 1) ∧ (¬ (0 ≤ gI σ_s_361 b 3 ∧ gI σ_s_361 b 3 < 8) → gI σ_s_374 b 3 = gI σ_s_361 b 3) := hw_373
            try replace hUhT_366 := hid.mk hUhT_366
            try replace hw_360 := hid.mk hw_360
            try simp only [ne_eq, not_true_eq_false, not_false_eq_true, false_implies, true_implies, true_and, and_true, eq_self, false_or, or_false, false_and, and_false] at hUhT_376
            have e_377 : gI σ_s_374 (ad E a 0) 7 = 0 := by omega
            have hk_378 : gI σ_s_374 (ad E a 0) 6 = tK T ((jt + 1) + 1) := by omega
            obtain ⟨z_379, e_380, rz_379, lz_379, uz_379⟩ := hO.gi h_b (by decide) k4_3
            obtain ⟨z_381, e_382, rz_381, lz_381, uz_381⟩ := hO.gi h_b (by decide) k4_13
            exact th_vret hx hb hr hlocks hH hS ⟨hO, hF, ⟨0, ((jt + 1) + 1), hT_376, (fun h9 => absurd rfl h9), fun _ => ⟨by omega, by omega, hG_371.ec rfl rfl (fun _ => by omega)⟩, by omega, by omega⟩⟩ dX5_readPlaces_104
          · try simp only [h0_367, ne_eq, not_true_eq_false, not_false_eq_true, false_implies, true_implies, true_and, and_true, eq_self, false_or, or_false, false_and, and_false] at hUhT_366
            have e_383 : gI σ_s_361 (ad E a 0) 6 = 260 := by omega
            have hj_384 : jt + 1 = jj_365 := by omega
            subst hj_384
            have hG_385 := hG_358.need (c2 := cc_364) (j2 := (jt + 1)) (fun h9 => absurd rfl h9) (fun _ => by omega)
            refine lv_aload_n hx hb dX5_readPlaces_97 rfl (lv_at hl 3 rfl) ?_
            refine lv_iconst (v := I 4) hx hb dX5_readPlaces_98 (by decide) ?_
            refine lv_iload_n hx hb dX5_readPlaces_99 rfl (lv_at hl 1 rfl) ?_
            refine lv_iload_n hx hb dX5_readPlaces_100 rfl (lv_at hl 0 rfl) ?_
            obtain ⟨_, hc_386⟩ := hO.cell h_b (by decide) (ci := 4) rfl
            refine th_callv (va_runV (As := [.int (I 4), .int (I 0), .int (I 1000)]) (rest := []) ⟨hx, hb, hml, hown, hts⟩ (p6_addStep l G y b0 σ_s_361 E hO b h_b 4 (show rng 4 from (show rng 4 from ⟨by decide, by decide⟩)) 0 (show rng 0 from (show rng 0 from ⟨by decide, by decide⟩)) 1000 (show rng 1000 from (show rng 1000 from ⟨by decide, by decide⟩))) (cwV 3 hts gX5_readPlaces_X4_addStep rfl rfl rfl (by decide +kernel) ⟨Nat.le_of_ble_eq_true rfl, Nat.le_of_ble_eq_true rfl⟩) (th_PV hK hH rfl hc_386) rfl rfl hl.1 rfl (lv_room (Nat.le_of_ble_eq_true rfl)) dX5_readPlaces_101 ⟨Nat.le_of_ble_eq_true rfl, Nat.le_of_ble_eq_true rfl⟩) hS (fun σ_s_388 H locs hw_387 hH hS => ?_)
            obtain ⟨hO9, hF9, hw_387⟩ := hw_387
            have e_389 : gI σ_s_388 (ad E a 0) 6 = 260 := (fr.ki hO hF9 hkt (by decide) (by decide) _).trans e_383
            have hT_390 : TSt E σ_s_388 (ad E a 0) T cc_364 (jt + 1) := TSt.mv hO hF9 hkt (by decide) hT_366
            have hUhT_390 := hT_390.2.2
            replace hO := hO9
            replace hF := hF.tu hF9 (by decide)
            replace hw_387 : gI σ_s_388 b 13 = gI σ_s_361 b 13 ∧ (0 ≤ gI σ_s_361 b 3 ∧ gI σ_s_361 b 3 < 8 → gI σ_s_388 b 3 = gI σ_s_361 b 3 + 1) ∧ (¬ (0 ≤ gI σ_s_361 b 3 ∧ gI σ_s_361 b 3 < 8) → gI σ_s_388 b 3 = gI σ_s_361 b 3) := hw_387
            try replace hUhT_366 := hid.mk hUhT_366
            try replace hw_360 := hid.mk hw_360
            try simp only [h0_367, ne_eq, not_true_eq_false, not_false_eq_true, false_implies, true_implies, true_and, and_true, eq_self, false_or, or_false, false_and, and_false] at hUhT_390
            have e_391 : gI σ_s_388 (ad E a 0) 6 = 260 := by omega
            obtain ⟨z_392, e_393, rz_392, lz_392, uz_392⟩ := hO.gi h_b (by decide) k4_3
            obtain ⟨z_394, e_395, rz_394, lz_394, uz_394⟩ := hO.gi h_b (by decide) k4_13
            exact th_vret hx hb hr hlocks hH hS ⟨hO, hF, ⟨cc_364, (jt + 1), hT_390, (fun h9 => absurd rfl h9), fun _ => ⟨by omega, fun h9 => absurd h9 h0_367, hG_385.was h0_367⟩, by omega, by omega⟩⟩ dX5_readPlaces_104
      · try simp only [h0_275, ne_eq, not_true_eq_false, not_false_eq_true, false_implies, true_implies, true_and, and_true, eq_self, false_or, or_false, false_and, and_false] at hUhT_274
        have e_396 : gI σ_s_269 (ad E a 0) 6 = 260 := by omega
        have hj_397 : jt = jj_273 := by omega
        subst hj_397
        have hG_398 := (hG_265.qend (fun _ => by omega)).need (c2 := cc_272) (j2 := jt) (fun h9 => absurd rfl h9) (fun _ => by omega)
        refine lv_aload_n hx hb dX5_readPlaces_62 rfl (lv_at hl 1 rfl) ?_
        refine ok.getR hO h_a (by decide) k11_0 (by decide) (fun _ _ he hv kk => th_get (ci := 5) (C := RX5) (T := TX5) (N := 1) hx hb hts inX5 hown hK hH he rfl 0 (by decide) fl0 hv dX5_readPlaces_63 kk) ?_
        refine ok.getIc hO hp_5 (by decide) k3_6 e_396 (fun _ _ he hv kk => th_getN (ci := 8) (C := RX8) (T := TX8) (N := 9) hx hb hts inX8 hown hK hH he rfl 6 (by decide) (nl_5 hK) hv dX5_readPlaces_66 kk) ?_
        refine lv_bipush (v := I 93) hx hb dX5_readPlaces_69 (by decide) ?_
        refine lv_icmp_ne (tgt := 80) hx hb dX5_readPlaces_71 (by decide) (fun _ => ?_) (fun c_399 => absurd c_399 (by decide))
        refine lv_aload_n hx hb dX5_readPlaces_80 rfl (lv_at hl 1 rfl) ?_
        refine ok.getR hO h_a (by decide) k11_0 (by decide) (fun _ _ he hv kk => th_get (ci := 5) (C := RX5) (T := TX5) (N := 1) hx hb hts inX5 hown hK hH he rfl 0 (by decide) fl0 hv dX5_readPlaces_81 kk) ?_
        obtain ⟨_, hc_400⟩ := hO.cell hp_5 (by decide) (ci := 8) rfl
        refine th_calli (va_runV (As := []) (rest := []) ⟨hx, hb, hml, hown, hts⟩ (f_number l G y b0 σ_s_269 E hO (ad E a 0) hp_5 T cc_272 jt hT_274) (cwV 0 hts gX5_readPlaces_X8_takeNumber rfl rfl rfl (by decide +kernel) ⟨Nat.le_of_ble_eq_true rfl, Nat.le_of_ble_eq_true rfl⟩) (th_PV hK hH rfl hc_400) rfl rfl hl.1 rfl (lv_room (Nat.le_of_ble_eq_true rfl)) dX5_readPlaces_84 ⟨Nat.le_of_ble_eq_true rfl, Nat.le_of_ble_eq_true rfl⟩) hS (fun z_403 σ_s_402 H locs rz_403 hw_401 hH hS => ?_)
        obtain ⟨hO9, hF9, hw_401⟩ := hw_401
        have e_404 : gI σ_s_402 b 3 = b30 := (fr.ki hO hF9 h_b (by decide) (by decide) _).trans e_270
        have e_405 : gI σ_s_402 b 13 = b130 := (fr.ki hO hF9 h_b (by decide) (by decide) _).trans e_271
        replace hO := hO9
        replace hF := hF.tu hF9 (by decide)
        replace hw_401 : ∃ c1 j1, TSt E σ_s_402 (ad E a 0) T c1 j1 ∧ (cc_272 ≠ 0 → c1 = cc_272 ∧ j1 = jt) ∧ (cc_272 = 0 → nuR T jt c1 j1) := hw_401
        obtain ⟨cc_406, jj_407, hT_408, hw_401⟩ := hw_401
        have hUhT_408 := hT_408.2.2
        try replace hUhT_274 := hid.mk hUhT_274
        try replace hw_268 := hid.mk hw_268
        have hc_409 : cc_272 = cc_406 := by omega
        subst hc_409
        have hc_410 : jt = jj_407 := by omega
        subst hc_410
        try simp only [h0_275, ne_eq, not_true_eq_false, not_false_eq_true, false_implies, true_implies, true_and, and_true, eq_self, false_or, or_false, false_and, and_false] at hUhT_408
        have e_411 : gI σ_s_402 (ad E a 0) 6 = 260 := by omega
        refine lv_istore_n (lv' := [(3, .int (I z_403)), (2, .int (I 0)), (0, .ref a), (1, .ref b)]) hx hb dX5_readPlaces_87 rfl hl (by decide) rfl (fun ls hl => ?_)
        refine lv_aload_n hx hb dX5_readPlaces_88 rfl (lv_at hl 2 rfl) ?_
        refine ok.getR hO h_a (by decide) k11_0 (by decide) (fun _ _ he hv kk => th_get (ci := 5) (C := RX5) (T := TX5) (N := 1) hx hb hts inX5 hown hK hH he rfl 0 (by decide) fl0 hv dX5_readPlaces_89 kk) ?_
        refine lv_bipush (v := I 93) hx hb dX5_readPlaces_92 (by decide) ?_
        obtain ⟨_, hc_412⟩ := hO.cell hp_5 (by decide) (ci := 8) rfl
        refine th_callv (va_runV (As := [.int (I 93)]) (rest := []) ⟨hx, hb, hml, hown, hts⟩ (f_expect l G y b0 σ_s_402 E hO (ad E a 0) hp_5 93 (show rng 93 from (show rng 93 from ⟨by decide, by decide⟩)) (by omega) (by omega) T cc_272 jt hT_408) (cwV 1 hts gX5_readPlaces_X8_expect rfl rfl rfl (by decide +kernel) ⟨Nat.le_of_ble_eq_true rfl, Nat.le_of_ble_eq_true rfl⟩) (th_PV hK hH rfl hc_412) rfl rfl hl.1 rfl (lv_room (Nat.le_of_ble_eq_true rfl)) dX5_readPlaces_94 ⟨Nat.le_of_ble_eq_true rfl, Nat.le_of_ble_eq_true rfl⟩) hS (fun σ_s_414 H locs hw_413 hH hS => ?_)
        obtain ⟨hO9, hF9, hw_413⟩ := hw_413
        have e_415 : gI σ_s_414 b 3 = b30 := (fr.ki hO hF9 h_b (by decide) (by decide) _).trans e_404
        have e_416 : gI σ_s_414 b 13 = b130 := (fr.ki hO hF9 h_b (by decide) (by decide) _).trans e_405
        replace hO := hO9
        replace hF := hF.tu hF9 (by decide)
        replace hw_413 : ∃ c1 j1, TSt E σ_s_414 (ad E a 0) T c1 j1 ∧ (cc_272 ≠ 0 → c1 = cc_272 ∧ j1 = jt) ∧ (cc_272 = 0 → (tK T jt = 93 ∧ c1 = 0 ∧ j1 = jt + 1) ∨ (tK T jt ≠ 93 ∧ c1 = 1 ∧ j1 = jt)) := hw_413
        obtain ⟨cc_417, jj_418, hT_419, hw_413⟩ := hw_413
        have hUhT_419 := hT_419.2.2
        try replace hUhT_408 := hid.mk hUhT_408
        try replace hw_401 := hid.mk hw_401
        have hc_420 : cc_272 = cc_417 := by omega
        subst hc_420
        have hc_421 : jt = jj_418 := by omega
        subst hc_421
        try simp only [h0_275, ne_eq, not_true_eq_false, not_false_eq_true, false_implies, true_implies, true_and, and_true, eq_self, false_or, or_false, false_and, and_false] at hUhT_419
        have e_422 : gI σ_s_414 (ad E a 0) 6 = 260 := by omega
        refine lv_aload_n hx hb dX5_readPlaces_97 rfl (lv_at hl 3 rfl) ?_
        refine lv_iconst (v := I 4) hx hb dX5_readPlaces_98 (by decide) ?_
        refine lv_iload_n hx hb dX5_readPlaces_99 rfl (lv_at hl 1 rfl) ?_
        refine lv_iload_n hx hb dX5_readPlaces_100 rfl (lv_at hl 0 rfl) ?_
        obtain ⟨_, hc_423⟩ := hO.cell h_b (by decide) (ci := 4) rfl
        refine th_callv (va_runV (As := [.int (I 4), .int (I 0), .int (I z_403)]) (rest := []) ⟨hx, hb, hml, hown, hts⟩ (p6_addStep l G y b0 σ_s_414 E hO b h_b 4 (show rng 4 from (show rng 4 from ⟨by decide, by decide⟩)) 0 (show rng 0 from (show rng 0 from ⟨by decide, by decide⟩)) z_403 (show rng z_403 from rz_403)) (cwV 3 hts gX5_readPlaces_X4_addStep rfl rfl rfl (by decide +kernel) ⟨Nat.le_of_ble_eq_true rfl, Nat.le_of_ble_eq_true rfl⟩) (th_PV hK hH rfl hc_423) rfl rfl hl.1 rfl (lv_room (Nat.le_of_ble_eq_true rfl)) dX5_readPlaces_101 ⟨Nat.le_of_ble_eq_true rfl, Nat.le_of_ble_eq_true rfl⟩) hS (fun σ_s_425 H locs hw_424 hH hS => ?_)
        obtain ⟨hO9, hF9, hw_424⟩ := hw_424
        have e_426 : gI σ_s_425 (ad E a 0) 6 = 260 := (fr.ki hO hF9 hkt (by decide) (by decide) _).trans e_422
        have hT_427 : TSt E σ_s_425 (ad E a 0) T cc_272 jt := TSt.mv hO hF9 hkt (by decide) hT_419
        have hUhT_427 := hT_427.2.2
        replace hO := hO9
        replace hF := hF.tu hF9 (by decide)
        replace hw_424 : gI σ_s_425 b 13 = gI σ_s_414 b 13 ∧ (0 ≤ gI σ_s_414 b 3 ∧ gI σ_s_414 b 3 < 8 → gI σ_s_425 b 3 = gI σ_s_414 b 3 + 1) ∧ (¬ (0 ≤ gI σ_s_414 b 3 ∧ gI σ_s_414 b 3 < 8) → gI σ_s_425 b 3 = gI σ_s_414 b 3) := hw_424
        try replace hUhT_419 := hid.mk hUhT_419
        try replace hw_413 := hid.mk hw_413
        try simp only [h0_275, ne_eq, not_true_eq_false, not_false_eq_true, false_implies, true_implies, true_and, and_true, eq_self, false_or, or_false, false_and, and_false] at hUhT_427
        have e_428 : gI σ_s_425 (ad E a 0) 6 = 260 := by omega
        obtain ⟨z_429, e_430, rz_429, lz_429, uz_429⟩ := hO.gi h_b (by decide) k4_3
        obtain ⟨z_431, e_432, rz_431, lz_431, uz_431⟩ := hO.gi h_b (by decide) k4_13
        exact th_vret hx hb hr hlocks hH hS ⟨hO, hF, ⟨cc_272, jt, hT_427, (fun h9 => absurd rfl h9), fun _ => ⟨by omega, fun h9 => absurd h9 h0_275, hG_398.was h0_275⟩, by omega, by omega⟩⟩ dX5_readPlaces_104
    · replace c_266 := (I_eq (a := z_6) (b := 93) rz_6 (show rng 93 from ⟨by decide, by decide⟩)).mp c_266
      refine lv_aload_n hx hb dX5_readPlaces_36 rfl (lv_at hl 1 rfl) ?_
      refine ok.getR hO h_a (by decide) k11_0 (by decide) (fun _ _ he hv kk => th_get (ci := 5) (C := RX5) (T := TX5) (N := 1) hx hb hts inX5 hown hK hH he rfl 0 (by decide) fl0 hv dX5_readPlaces_37 kk) ?_
      obtain ⟨_, hc_433⟩ := hO.cell hp_5 (by decide) (ci := 8) rfl
      refine th_callv (va_runV (As := []) (rest := []) ⟨hx, hb, hml, hown, hts⟩ (f_step l G y b0 σ E hO (ad E a 0) hp_5 T 0 jt hT0) (cwV 0 hts gX5_readPlaces_X8_step rfl rfl rfl (by decide +kernel) ⟨Nat.le_of_ble_eq_true rfl, Nat.le_of_ble_eq_true rfl⟩) (th_PV hK hH rfl hc_433) rfl rfl hl.1 rfl (lv_room (Nat.le_of_ble_eq_true rfl)) dX5_readPlaces_40 ⟨Nat.le_of_ble_eq_true rfl, Nat.le_of_ble_eq_true rfl⟩) hS (fun σ_s_435 H locs hw_434 hH hS => ?_)
      obtain ⟨hO9, hF9, hw_434⟩ := hw_434
      have e_436 : gI σ_s_435 b 3 = b30 := (fr.ki hO hF9 h_b (by decide) (by decide) _).trans eb30
      have e_437 : gI σ_s_435 b 13 = b130 := (fr.ki hO hF9 h_b (by decide) (by decide) _).trans eb130
      replace hO := hO9
      replace hF := hF.tu hF9 (by decide)
      replace hw_434 : ∃ c1 j1, TSt E σ_s_435 (ad E a 0) T c1 j1 ∧ c1 = 0 ∧ ((0 : Int) ≠ 0 → j1 = jt) ∧ ((0 : Int) = 0 → tK T jt ≠ 259 → j1 = jt + 1) := hw_434
      obtain ⟨cc_438, jj_439, hT_440, hw_434⟩ := hw_434
      have hUhT_440 := hT_440.2.2
      try replace hU0 := hid.mk hU0
      have h0_441 : cc_438 = 0 := by omega
      subst h0_441
      try simp only [ne_eq, not_true_eq_false, not_false_eq_true, false_implies, true_implies, true_and, and_true, eq_self, false_or, or_false, false_and, and_false] at hUhT_440
      have e_442 : gI σ_s_435 (ad E a 0) 7 = 0 := by omega
      have hk_443 : gI σ_s_435 (ad E a 0) 6 = tK T jj_439 := by omega
      have hj_444 : jt + 1 = jj_439 := by omega
      subst hj_444
      have hG_445 := (hG_265.qend (fun _ => by omega)).need (c2 := 0) (j2 := (jt + 1)) (fun h9 => absurd rfl h9) (fun _ => by omega)
      refine lv_aload_n hx hb dX5_readPlaces_43 rfl (lv_at hl 2 rfl) ?_
      refine lv_iconst (v := I 3) hx hb dX5_readPlaces_44 (by decide) ?_
      refine lv_iload_n hx hb dX5_readPlaces_45 rfl (lv_at hl 0 rfl) ?_
      refine lv_iconst (v := I 0) hx hb dX5_readPlaces_46 (by decide) ?_
      obtain ⟨_, hc_446⟩ := hO.cell h_b (by decide) (ci := 4) rfl
      refine th_callv (va_runV (As := [.int (I 3), .int (I 0), .int (I 0)]) (rest := []) ⟨hx, hb, hml, hown, hts⟩ (p6_addStep l G y b0 σ_s_435 E hO b h_b 3 (show rng 3 from (show rng 3 from ⟨by decide, by decide⟩)) 0 (show rng 0 from (show rng 0 from ⟨by decide, by decide⟩)) 0 (show rng 0 from (show rng 0 from ⟨by decide, by decide⟩))) (cwV 3 hts gX5_readPlaces_X4_addStep rfl rfl rfl (by decide +kernel) ⟨Nat.le_of_ble_eq_true rfl, Nat.le_of_ble_eq_true rfl⟩) (th_PV hK hH rfl hc_446) rfl rfl hl.1 rfl (lv_room (Nat.le_of_ble_eq_true rfl)) dX5_readPlaces_47 ⟨Nat.le_of_ble_eq_true rfl, Nat.le_of_ble_eq_true rfl⟩) hS (fun σ_s_448 H locs hw_447 hH hS => ?_)
      obtain ⟨hO9, hF9, hw_447⟩ := hw_447
      have e_449 : gI σ_s_448 (ad E a 0) 7 = 0 := (fr.ki hO hF9 hkt (by decide) (by decide) _).trans e_442
      have hT_450 : TSt E σ_s_448 (ad E a 0) T 0 (jt + 1) := TSt.mv hO hF9 hkt (by decide) hT_440
      have hUhT_450 := hT_450.2.2
      replace hO := hO9
      replace hF := hF.tu hF9 (by decide)
      replace hw_447 : gI σ_s_448 b 13 = gI σ_s_435 b 13 ∧ (0 ≤ gI σ_s_435 b 3 ∧ gI σ_s_435 b 3 < 8 → gI σ_s_448 b 3 = gI σ_s_435 b 3 + 1) ∧ (¬ (0 ≤ gI σ_s_435 b 3 ∧ gI σ_s_435 b 3 < 8) → gI σ_s_448 b 3 = gI σ_s_435 b 3) := hw_447
      try replace hUhT_440 := hid.mk hUhT_440
      try replace hw_434 := hid.mk hw_434
      try simp only [ne_eq, not_true_eq_false, not_false_eq_true, false_implies, true_implies, true_and, and_true, eq_self, false_or, or_false, false_and, and_false] at hUhT_450
      have e_451 : gI σ_s_448 (ad E a 0) 7 = 0 := by omega
      have hk_452 : gI σ_s_448 (ad E a 0) 6 = tK T (jt + 1) := by omega
      obtain ⟨z_453, e_454, rz_453, lz_453, uz_453⟩ := hO.gi h_b (by decide) k4_3
      obtain ⟨z_455, e_456, rz_455, lz_455, uz_455⟩ := hO.gi h_b (by decide) k4_13
      refine lv_goto (tgt := 104) hx hb dX5_readPlaces_50 (by decide) ?_
      exact th_vret hx hb hr hlocks hH hS ⟨hO, hF, ⟨0, (jt + 1), hT_450, (fun h9 => absurd rfl h9), fun _ => ⟨by omega, by omega, hG_445.ec rfl rfl (fun _ => by omega)⟩, by omega, by omega⟩⟩ dX5_readPlaces_104
