set_option maxHeartbeats 20000000 in
set_option maxRecDepth 100000 in
theorem s6_readFilter (l : Launch) (G : va_G) (y : Nat → ClassId) (b0 : Nat) (σ : th_M) (E : th_E) (hO : ok y E σ) (a : Nat) (h_a : kd E a = 11) (b : Nat) (h_b : kd E b = 4) (T : tkT) (fc jt : Int) (hT0 : TSt E σ (ad E a 0) T fc jt) (hy0 : fc = 0) (hy1 : 0 ≤ gI σ b 13 ∧ gI σ b 13 ≤ 12) : Met l yX5_readFilter wsX5_readFilter ({ frames := 49, cells := 0, slots := 0, locals := 1927 }) (th_P G y b0 σ [.ref a, .ref b]) (th_Qv G b0 (fun σ1 => ok y E σ1 ∧ fr [3, 4] E σ σ1 ∧ (∃ c1 j1, TSt E σ1 (ad E a 0) T c1 j1 ∧ (fc ≠ 0 → c1 = fc ∧ j1 = jt) ∧ (fc = 0 → jt ≤ j1 ∧ (c1 = 0 → jt < j1) ∧ GS T [(5, 40), (2, 0), (5, 41)] jt (gI σ b 13) [] c1 j1 (gI σ1 b 13)) ∧ (c1 = 0 → 0 ≤ gI σ1 b 13 ∧ gI σ1 b 13 ≤ 12) ∧ (0 ≤ gI σ b 3 ∧ gI σ b 3 < 8 → gI σ1 b 3 = gI σ b 3 + 1)))) 0 0 (th_A b0) := by
  refine Met.ofW (cc := cX5_readFilter) (maxL := 3) (ret := none) (by decide) rfl ?_
  intro p e s m args below meth c s₁ B hml hv
  obtain ⟨rfl, hH, hK⟩ := hv
  have hx := B.exec
  have hb := B.bytes
  have hr := B.returns
  have hts := atoms_spec (ws := wsX5_readFilter) B.pre
  have hown : s.vm.findClass RX5 = some m.cls := findClass_of_methodNamed B.named
  have hlocks := B.notSynchronized
  have h00 : b0 ≤ s.heap.size := hH.1
  have hS : va_S (th_A b0) s.heap s.heap [] := va_S.rf
  have hF : fr [3, 4] E σ σ := fr.rf
  have inX4 : ∀ w ∈ wsX40, w ∈ wsX5_readFilter := by decide +kernel
  have inX5 : ∀ w ∈ wsX50, w ∈ wsX5_readFilter := by decide +kernel
  have fl0 := hts (.fieldLink RX5 9 "NestQuery$PathReader" "tokens" "LNestQuery$Tokens;") (by decide +kernel)
  have hl := lv_entry ([.ref a, .ref b]) (n := 3) (Nat.le_of_ble_eq_true rfl)
  rw [lg_entry_eq]
  generalize (lg_sl ([.ref a, .ref b]) ++ List.replicate (3 - (lg_sl ([.ref a, .ref b])).length) Slot.unset).toArray = ls at hl ⊢
  have hl : lv_has ls 3 [(0, .ref a), (1, .ref b)] := hl
  obtain ⟨b30, eb30, rb30, lb30, ub30⟩ := hO.gi h_b (by decide) k4_3
  obtain ⟨b130, eb130, rb130, lb130, ub130⟩ := hO.gi h_b (by decide) k4_13
  have hU0 := hT0.2.2
  have hkt : kd E (ad E a 0) = 3 := ok.pk hO h_a (by decide) k11_0 rfl
  have h0_1 : fc = 0 := by omega
  subst h0_1
  try simp only [ne_eq, not_true_eq_false, not_false_eq_true, false_implies, true_implies, true_and, and_true, eq_self, false_or, or_false, false_and, and_false] at hU0
  have e_2 : gI σ (ad E a 0) 7 = 0 := by omega
  have hk_3 : gI σ (ad E a 0) 6 = tK T jt := by omega
  have hG_4 := GS.start (T := T) (e := [(5, 40), (2, 0), (5, 41)]) (j := jt) (t := gI σ b 13)
  refine lv_aload_n hx hb dX5_readFilter_0 rfl (lv_at hl 1 rfl) ?_
  refine ok.getI hO h_b (by decide) k4_5 (fun _ _ he hv kk => th_getN (ci := 4) (C := RX4) (T := TX4) (N := 14) hx hb hts inX4 hown hK hH he rfl 5 (by decide) (nl_2 hK) hv dX5_readFilter_1 kk) (fun z_5 e_6 rz_5 lz_5 uz_5 => ?_)
  refine lv_istore_n (lv' := [(2, .int (I z_5)), (0, .ref a), (1, .ref b)]) hx hb dX5_readFilter_4 rfl hl (by decide) rfl (fun ls hl => ?_)
  refine lv_aload_n hx hb dX5_readFilter_5 rfl (lv_at hl 1 rfl) ?_
  have hp_7 : kd E (ad E a 0) = 3 := ok.pk hO h_a (by decide) k11_0 rfl
  refine ok.getR hO h_a (by decide) k11_0 (by decide) (fun _ _ he hv kk => th_get (ci := 5) (C := RX5) (T := TX5) (N := 1) hx hb hts inX5 hown hK hH he rfl 0 (by decide) fl0 hv dX5_readFilter_6 kk) ?_
  refine lv_bipush (v := I 40) hx hb dX5_readFilter_9 (by decide) ?_
  obtain ⟨_, hc_8⟩ := hO.cell hp_7 (by decide) (ci := 8) rfl
  refine th_callv (va_runV (As := [.int (I 40)]) (rest := []) ⟨hx, hb, hml, hown, hts⟩ (f_expect l G y b0 σ E hO (ad E a 0) hp_7 40 (show rng 40 from (show rng 40 from ⟨by decide, by decide⟩)) (by omega) (by omega) T 0 jt hT0) (cwV 1 hts gX5_readFilter_X8_expect rfl rfl rfl (by decide +kernel) ⟨Nat.le_of_ble_eq_true rfl, Nat.le_of_ble_eq_true rfl⟩) (th_PV hK hH rfl hc_8) rfl rfl hl.1 rfl (lv_room (Nat.le_of_ble_eq_true rfl)) dX5_readFilter_11 ⟨Nat.le_of_ble_eq_true rfl, Nat.le_of_ble_eq_true rfl⟩) hS (fun σ_s_10 H locs hw_9 hH hS => ?_)
  obtain ⟨hO9, hF9, hw_9⟩ := hw_9
  have e_11 : gI σ_s_10 b 3 = b30 := (fr.ki hO hF9 h_b (by decide) (by decide) _).trans eb30
  have e_12 : gI σ_s_10 b 13 = b130 := (fr.ki hO hF9 h_b (by decide) (by decide) _).trans eb130
  have e_13 : gI σ_s_10 b 5 = z_5 := (fr.ki hO hF9 h_b (by decide) (by decide) _).trans e_6
  replace hO := hO9
  replace hF := hF.tu hF9 (by decide)
  replace hw_9 : ∃ c1 j1, TSt E σ_s_10 (ad E a 0) T c1 j1 ∧ ((0 : Int) ≠ 0 → c1 = 0 ∧ j1 = jt) ∧ ((0 : Int) = 0 → (tK T jt = 40 ∧ c1 = 0 ∧ j1 = jt + 1) ∨ (tK T jt ≠ 40 ∧ c1 = 1 ∧ j1 = jt)) := hw_9
  obtain ⟨cc_14, jj_15, hT_16, hw_9⟩ := hw_9
  have hUhT_16 := hT_16.2.2
  try replace hU0 := hid.mk hU0
  rcases Classical.em (cc_14 = 0) with h0_17 | h0_17
  · subst h0_17
    try simp only [ne_eq, not_true_eq_false, not_false_eq_true, false_implies, true_implies, true_and, and_true, eq_self, false_or, or_false, false_and, and_false] at hUhT_16
    have e_18 : gI σ_s_10 (ad E a 0) 7 = 0 := by omega
    have hk_19 : gI σ_s_10 (ad E a 0) 6 = tK T jj_15 := by omega
    have hj_20 : jt + 1 = jj_15 := by omega
    subst hj_20
    have hG_21 := hG_4.need (c2 := 0) (j2 := (jt + 1)) (fun h9 => absurd rfl h9) (fun _ => by omega)
    refine lv_aload_n hx hb dX5_readFilter_14 rfl (lv_at hl 1 rfl) ?_
    refine lv_aload_n hx hb dX5_readFilter_15 rfl (lv_at hl 2 rfl) ?_
    refine lv_iconst (v := I 0) hx hb dX5_readFilter_16 (by decide) ?_
    obtain ⟨_, hc_22⟩ := hO.cell h_a (by decide) (ci := 5) rfl
    refine th_callv (va_runV (As := [.ref b, .int (I 0)]) (rest := []) ⟨hx, hb, hml, hown, hts⟩ (s6_readCond 6 (s6_readAtom 6) l G y b0 σ_s_10 E hO a h_a b h_b 0 (show rng 0 from (show rng 0 from ⟨by decide, by decide⟩)) (by omega) (by omega) T 0 (jt + 1) hT_16 (by omega) (by omega)) (cwV 2 hts gX5_readFilter_X5_readCond rfl rfl rfl (by decide +kernel) ⟨Nat.le_of_ble_eq_true rfl, Nat.le_of_ble_eq_true rfl⟩) (th_PV hK hH rfl hc_22) rfl rfl hl.1 rfl (lv_room (Nat.le_of_ble_eq_true rfl)) dX5_readFilter_17 ⟨Nat.le_of_ble_eq_true rfl, Nat.le_of_ble_eq_true rfl⟩) hS (fun σ_s_24 H locs hw_23 hH hS => ?_)
    obtain ⟨hO9, hF9, hw_23⟩ := hw_23
    replace hO := hO9
    replace hF := hF.tu hF9 (by decide)
    replace hw_23 : ∃ c1 j1, TSt E σ_s_24 (ad E a 0) T c1 j1 ∧ ((0 : Int) ≠ 0 → c1 = 0 ∧ j1 = (jt + 1)) ∧ ((0 : Int) = 0 → (jt + 1) ≤ j1 ∧ (c1 = 0 → (jt + 1) < j1) ∧ GS T [(2, 0)] (jt + 1) (gI σ_s_10 b 13) [] c1 j1 (gI σ_s_24 b 13)) ∧ (c1 = 0 → 0 ≤ gI σ_s_24 b 13 ∧ gI σ_s_24 b 13 ≤ 12) ∧ gI σ_s_24 b 3 = gI σ_s_10 b 3 := hw_23
    obtain ⟨cc_25, jj_26, hT_27, hw_23⟩ := hw_23
    have hUhT_27 := hT_27.2.2
    try replace hUhT_16 := hid.mk hUhT_16
    try replace hw_9 := hid.mk hw_9
    have hb_28 : (jt + 1) ≤ jj_26 := by omega
    try have hb_29 : cc_25 = 0 → 0 ≤ gI σ_s_24 b 13 ∧ gI σ_s_24 b 13 ≤ 12 := by omega
    obtain ⟨z_30, e_31, rz_30, lz_30, uz_30⟩ := hO.gi h_b (by decide) k4_3
    obtain ⟨z_32, e_33, rz_32, lz_32, uz_32⟩ := hO.gi h_b (by decide) k4_13
    have hG_34 := hG_21.call (c2 := cc_25) (j2 := jj_26) (t2 := gI σ_s_24 b 13) (fun _ => GS.cg1 (hw_23.2.1 rfl).2.2 rfl rfl (by omega)) (fun h9 => absurd rfl h9)
    have hqhw_23 := (hw_23.2.1 rfl).1
    have hRhw_23 := hw_23.2.2
    try replace hw_23 := hid.mk hw_23
    refine lv_aload_n hx hb dX5_readFilter_20 rfl (lv_at hl 1 rfl) ?_
    refine ok.getR hO h_a (by decide) k11_0 (by decide) (fun _ _ he hv kk => th_get (ci := 5) (C := RX5) (T := TX5) (N := 1) hx hb hts inX5 hown hK hH he rfl 0 (by decide) fl0 hv dX5_readFilter_21 kk) ?_
    refine lv_bipush (v := I 41) hx hb dX5_readFilter_24 (by decide) ?_
    obtain ⟨_, hc_35⟩ := hO.cell hp_7 (by decide) (ci := 8) rfl
    refine th_callv (va_runV (As := [.int (I 41)]) (rest := []) ⟨hx, hb, hml, hown, hts⟩ (f_expect l G y b0 σ_s_24 E hO (ad E a 0) hp_7 41 (show rng 41 from (show rng 41 from ⟨by decide, by decide⟩)) (by omega) (by omega) T cc_25 jj_26 hT_27) (cwV 1 hts gX5_readFilter_X8_expect rfl rfl rfl (by decide +kernel) ⟨Nat.le_of_ble_eq_true rfl, Nat.le_of_ble_eq_true rfl⟩) (th_PV hK hH rfl hc_35) rfl rfl hl.1 rfl (lv_room (Nat.le_of_ble_eq_true rfl)) dX5_readFilter_26 ⟨Nat.le_of_ble_eq_true rfl, Nat.le_of_ble_eq_true rfl⟩) hS (fun σ_s_37 H locs hw_36 hH hS => ?_)
    obtain ⟨hO9, hF9, hw_36⟩ := hw_36
    have e_38 : gI σ_s_37 b 3 = z_30 := (fr.ki hO hF9 h_b (by decide) (by decide) _).trans e_31
    have e_39 : gI σ_s_37 b 13 = z_32 := (fr.ki hO hF9 h_b (by decide) (by decide) _).trans e_33
    replace hO := hO9
    replace hF := hF.tu hF9 (by decide)
    replace hw_36 : ∃ c1 j1, TSt E σ_s_37 (ad E a 0) T c1 j1 ∧ (cc_25 ≠ 0 → c1 = cc_25 ∧ j1 = jj_26) ∧ (cc_25 = 0 → (tK T jj_26 = 41 ∧ c1 = 0 ∧ j1 = jj_26 + 1) ∨ (tK T jj_26 ≠ 41 ∧ c1 = 1 ∧ j1 = jj_26)) := hw_36
    obtain ⟨cc_40, jj_41, hT_42, hw_36⟩ := hw_36
    have hUhT_42 := hT_42.2.2
    try replace hUhT_27 := hid.mk hUhT_27
    try replace hw_23 := hid.mk hw_23
    have hb_43 : jj_26 ≤ jj_41 := by omega
    have hb_44 : cc_40 = 0 → jj_41 = jj_26 + 1 ∧ cc_25 = 0 := by omega
    have hG_45 := hG_34.need (c2 := cc_40) (j2 := jj_41) (fun h9 => by omega) (fun h9 => by omega)
    refine lv_aload_n hx hb dX5_readFilter_29 rfl (lv_at hl 2 rfl) ?_
    refine lv_bipush (v := I (-5)) hx hb dX5_readFilter_30 (by decide) ?_
    obtain ⟨_, hc_46⟩ := hO.cell h_b (by decide) (ci := 4) rfl
    refine th_callv (va_runV (As := [.int (I (-5))]) (rest := []) ⟨hx, hb, hml, hown, hts⟩ (p6_addCode l G y b0 σ_s_37 E hO b h_b (-5) (show rng (-5) from (show rng (-5) from ⟨by decide, by decide⟩))) (cwV 1 hts gX5_readFilter_X4_addCode rfl rfl rfl (by decide +kernel) ⟨Nat.le_of_ble_eq_true rfl, Nat.le_of_ble_eq_true rfl⟩) (th_PV hK hH rfl hc_46) rfl rfl hl.1 rfl (lv_room (Nat.le_of_ble_eq_true rfl)) dX5_readFilter_32 ⟨Nat.le_of_ble_eq_true rfl, Nat.le_of_ble_eq_true rfl⟩) hS (fun σ_s_48 H locs hw_47 hH hS => ?_)
    obtain ⟨hO9, hF9, hw_47⟩ := hw_47
    have hT_49 : TSt E σ_s_48 (ad E a 0) T cc_40 jj_41 := TSt.mv hO hF9 hkt (by decide) hT_42
    have hUhT_49 := hT_49.2.2
    replace hO := hO9
    replace hF := hF.tu hF9 (by decide)
    replace hw_47 : gI σ_s_48 b 13 = gI σ_s_37 b 13 ∧ gI σ_s_48 b 3 = gI σ_s_37 b 3 := hw_47
    try replace hUhT_42 := hid.mk hUhT_42
    try replace hw_36 := hid.mk hw_36
    try simp only [ne_eq, not_true_eq_false, not_false_eq_true, false_implies, true_implies, true_and, and_true, eq_self, false_or, or_false, false_and, and_false] at hUhT_49
    have e_50 : gI σ_s_48 b 3 = z_30 := by omega
    have e_51 : gI σ_s_48 b 13 = z_32 := by omega
    refine lv_aload_n hx hb dX5_readFilter_35 rfl (lv_at hl 2 rfl) ?_
    refine lv_iconst (v := I 5) hx hb dX5_readFilter_36 (by decide) ?_
    refine lv_iload_n hx hb dX5_readFilter_37 rfl (lv_at hl 0 rfl) ?_
    refine lv_iconst (v := I 0) hx hb dX5_readFilter_38 (by decide) ?_
    obtain ⟨_, hc_52⟩ := hO.cell h_b (by decide) (ci := 4) rfl
    refine th_callv (va_runV (As := [.int (I 5), .int (I z_5), .int (I 0)]) (rest := []) ⟨hx, hb, hml, hown, hts⟩ (p6_addStep l G y b0 σ_s_48 E hO b h_b 5 (show rng 5 from (show rng 5 from ⟨by decide, by decide⟩)) z_5 (show rng z_5 from rz_5) 0 (show rng 0 from (show rng 0 from ⟨by decide, by decide⟩))) (cwV 3 hts gX5_readFilter_X4_addStep rfl rfl rfl (by decide +kernel) ⟨Nat.le_of_ble_eq_true rfl, Nat.le_of_ble_eq_true rfl⟩) (th_PV hK hH rfl hc_52) rfl rfl hl.1 rfl (lv_room (Nat.le_of_ble_eq_true rfl)) dX5_readFilter_39 ⟨Nat.le_of_ble_eq_true rfl, Nat.le_of_ble_eq_true rfl⟩) hS (fun σ_s_54 H locs hw_53 hH hS => ?_)
    obtain ⟨hO9, hF9, hw_53⟩ := hw_53
    have hT_55 : TSt E σ_s_54 (ad E a 0) T cc_40 jj_41 := TSt.mv hO hF9 hkt (by decide) hT_49
    have hUhT_55 := hT_55.2.2
    replace hO := hO9
    replace hF := hF.tu hF9 (by decide)
    replace hw_53 : gI σ_s_54 b 13 = gI σ_s_48 b 13 ∧ (0 ≤ gI σ_s_48 b 3 ∧ gI σ_s_48 b 3 < 8 → gI σ_s_54 b 3 = gI σ_s_48 b 3 + 1) ∧ (¬ (0 ≤ gI σ_s_48 b 3 ∧ gI σ_s_48 b 3 < 8) → gI σ_s_54 b 3 = gI σ_s_48 b 3) := hw_53
    try replace hUhT_49 := hid.mk hUhT_49
    try replace hw_47 := hid.mk hw_47
    try simp only [ne_eq, not_true_eq_false, not_false_eq_true, false_implies, true_implies, true_and, and_true, eq_self, false_or, or_false, false_and, and_false] at hUhT_55
    obtain ⟨z_56, e_57, rz_56, lz_56, uz_56⟩ := hO.gi h_b (by decide) k4_3
    obtain ⟨z_58, e_59, rz_58, lz_58, uz_58⟩ := hO.gi h_b (by decide) k4_13
    exact th_vret hx hb hr hlocks hH hS ⟨hO, hF, ⟨cc_40, jj_41, hT_55, (fun h9 => absurd rfl h9), fun _ => ⟨by omega, by omega, hG_45.ec rfl rfl (fun _ => by omega)⟩, by omega, by omega⟩⟩ dX5_readFilter_42
  · try simp only [h0_17, ne_eq, not_true_eq_false, not_false_eq_true, false_implies, true_implies, true_and, and_true, eq_self, false_or, or_false, false_and, and_false] at hUhT_16
    have e_60 : gI σ_s_10 (ad E a 0) 6 = 260 := by omega
    have hj_61 : jt = jj_15 := by omega
    subst hj_61
    have hG_62 := hG_4.need (c2 := cc_14) (j2 := jt) (fun h9 => absurd rfl h9) (fun _ => by omega)
    refine lv_aload_n hx hb dX5_readFilter_14 rfl (lv_at hl 1 rfl) ?_
    refine lv_aload_n hx hb dX5_readFilter_15 rfl (lv_at hl 2 rfl) ?_
    refine lv_iconst (v := I 0) hx hb dX5_readFilter_16 (by decide) ?_
    obtain ⟨_, hc_63⟩ := hO.cell h_a (by decide) (ci := 5) rfl
    refine th_callv (va_runV (As := [.ref b, .int (I 0)]) (rest := []) ⟨hx, hb, hml, hown, hts⟩ (s6_readCond 6 (s6_readAtom 6) l G y b0 σ_s_10 E hO a h_a b h_b 0 (show rng 0 from (show rng 0 from ⟨by decide, by decide⟩)) (by omega) (by omega) T cc_14 jt hT_16 (by omega) (by omega)) (cwV 2 hts gX5_readFilter_X5_readCond rfl rfl rfl (by decide +kernel) ⟨Nat.le_of_ble_eq_true rfl, Nat.le_of_ble_eq_true rfl⟩) (th_PV hK hH rfl hc_63) rfl rfl hl.1 rfl (lv_room (Nat.le_of_ble_eq_true rfl)) dX5_readFilter_17 ⟨Nat.le_of_ble_eq_true rfl, Nat.le_of_ble_eq_true rfl⟩) hS (fun σ_s_65 H locs hw_64 hH hS => ?_)
    obtain ⟨hO9, hF9, hw_64⟩ := hw_64
    replace hO := hO9
    replace hF := hF.tu hF9 (by decide)
    replace hw_64 : ∃ c1 j1, TSt E σ_s_65 (ad E a 0) T c1 j1 ∧ (cc_14 ≠ 0 → c1 = cc_14 ∧ j1 = jt) ∧ (cc_14 = 0 → jt ≤ j1 ∧ (c1 = 0 → jt < j1) ∧ GS T [(2, 0)] jt (gI σ_s_10 b 13) [] c1 j1 (gI σ_s_65 b 13)) ∧ (c1 = 0 → 0 ≤ gI σ_s_65 b 13 ∧ gI σ_s_65 b 13 ≤ 12) ∧ gI σ_s_65 b 3 = gI σ_s_10 b 3 := hw_64
    obtain ⟨cc_66, jj_67, hT_68, hw_64⟩ := hw_64
    have hUhT_68 := hT_68.2.2
    try replace hUhT_16 := hid.mk hUhT_16
    try replace hw_9 := hid.mk hw_9
    have hc_69 : cc_14 = cc_66 := by omega
    subst hc_69
    have hc_70 : jt = jj_67 := by omega
    subst hc_70
    try simp only [h0_17, ne_eq, not_true_eq_false, not_false_eq_true, false_implies, true_implies, true_and, and_true, eq_self, false_or, or_false, false_and, and_false] at hUhT_68
    have e_71 : gI σ_s_65 (ad E a 0) 6 = 260 := by omega
    obtain ⟨z_72, e_73, rz_72, lz_72, uz_72⟩ := hO.gi h_b (by decide) k4_3
    obtain ⟨z_74, e_75, rz_74, lz_74, uz_74⟩ := hO.gi h_b (by decide) k4_13
    have hRhw_64 := hw_64.2.2
    refine lv_aload_n hx hb dX5_readFilter_20 rfl (lv_at hl 1 rfl) ?_
    refine ok.getR hO h_a (by decide) k11_0 (by decide) (fun _ _ he hv kk => th_get (ci := 5) (C := RX5) (T := TX5) (N := 1) hx hb hts inX5 hown hK hH he rfl 0 (by decide) fl0 hv dX5_readFilter_21 kk) ?_
    refine lv_bipush (v := I 41) hx hb dX5_readFilter_24 (by decide) ?_
    obtain ⟨_, hc_76⟩ := hO.cell hp_7 (by decide) (ci := 8) rfl
    refine th_callv (va_runV (As := [.int (I 41)]) (rest := []) ⟨hx, hb, hml, hown, hts⟩ (f_expect l G y b0 σ_s_65 E hO (ad E a 0) hp_7 41 (show rng 41 from (show rng 41 from ⟨by decide, by decide⟩)) (by omega) (by omega) T cc_14 jt hT_68) (cwV 1 hts gX5_readFilter_X8_expect rfl rfl rfl (by decide +kernel) ⟨Nat.le_of_ble_eq_true rfl, Nat.le_of_ble_eq_true rfl⟩) (th_PV hK hH rfl hc_76) rfl rfl hl.1 rfl (lv_room (Nat.le_of_ble_eq_true rfl)) dX5_readFilter_26 ⟨Nat.le_of_ble_eq_true rfl, Nat.le_of_ble_eq_true rfl⟩) hS (fun σ_s_78 H locs hw_77 hH hS => ?_)
    obtain ⟨hO9, hF9, hw_77⟩ := hw_77
    have e_79 : gI σ_s_78 b 3 = z_72 := (fr.ki hO hF9 h_b (by decide) (by decide) _).trans e_73
    have e_80 : gI σ_s_78 b 13 = z_74 := (fr.ki hO hF9 h_b (by decide) (by decide) _).trans e_75
    replace hO := hO9
    replace hF := hF.tu hF9 (by decide)
    replace hw_77 : ∃ c1 j1, TSt E σ_s_78 (ad E a 0) T c1 j1 ∧ (cc_14 ≠ 0 → c1 = cc_14 ∧ j1 = jt) ∧ (cc_14 = 0 → (tK T jt = 41 ∧ c1 = 0 ∧ j1 = jt + 1) ∨ (tK T jt ≠ 41 ∧ c1 = 1 ∧ j1 = jt)) := hw_77
    obtain ⟨cc_81, jj_82, hT_83, hw_77⟩ := hw_77
    have hUhT_83 := hT_83.2.2
    try replace hUhT_68 := hid.mk hUhT_68
    try replace hw_64 := hid.mk hw_64
    have hc_84 : cc_14 = cc_81 := by omega
    subst hc_84
    have hc_85 : jt = jj_82 := by omega
    subst hc_85
    try simp only [h0_17, ne_eq, not_true_eq_false, not_false_eq_true, false_implies, true_implies, true_and, and_true, eq_self, false_or, or_false, false_and, and_false] at hUhT_83
    have e_86 : gI σ_s_78 (ad E a 0) 6 = 260 := by omega
    refine lv_aload_n hx hb dX5_readFilter_29 rfl (lv_at hl 2 rfl) ?_
    refine lv_bipush (v := I (-5)) hx hb dX5_readFilter_30 (by decide) ?_
    obtain ⟨_, hc_87⟩ := hO.cell h_b (by decide) (ci := 4) rfl
    refine th_callv (va_runV (As := [.int (I (-5))]) (rest := []) ⟨hx, hb, hml, hown, hts⟩ (p6_addCode l G y b0 σ_s_78 E hO b h_b (-5) (show rng (-5) from (show rng (-5) from ⟨by decide, by decide⟩))) (cwV 1 hts gX5_readFilter_X4_addCode rfl rfl rfl (by decide +kernel) ⟨Nat.le_of_ble_eq_true rfl, Nat.le_of_ble_eq_true rfl⟩) (th_PV hK hH rfl hc_87) rfl rfl hl.1 rfl (lv_room (Nat.le_of_ble_eq_true rfl)) dX5_readFilter_32 ⟨Nat.le_of_ble_eq_true rfl, Nat.le_of_ble_eq_true rfl⟩) hS (fun σ_s_89 H locs hw_88 hH hS => ?_)
    obtain ⟨hO9, hF9, hw_88⟩ := hw_88
    have e_90 : gI σ_s_89 (ad E a 0) 6 = 260 := (fr.ki hO hF9 hkt (by decide) (by decide) _).trans e_86
    have hT_91 : TSt E σ_s_89 (ad E a 0) T cc_14 jt := TSt.mv hO hF9 hkt (by decide) hT_83
    have hUhT_91 := hT_91.2.2
    replace hO := hO9
    replace hF := hF.tu hF9 (by decide)
    replace hw_88 : gI σ_s_89 b 13 = gI σ_s_78 b 13 ∧ gI σ_s_89 b 3 = gI σ_s_78 b 3 := hw_88
    try replace hUhT_83 := hid.mk hUhT_83
    try replace hw_77 := hid.mk hw_77
    try simp only [h0_17, ne_eq, not_true_eq_false, not_false_eq_true, false_implies, true_implies, true_and, and_true, eq_self, false_or, or_false, false_and, and_false] at hUhT_91
    have e_92 : gI σ_s_89 (ad E a 0) 6 = 260 := by omega
    have e_93 : gI σ_s_89 b 3 = z_72 := by omega
    have e_94 : gI σ_s_89 b 13 = z_74 := by omega
    refine lv_aload_n hx hb dX5_readFilter_35 rfl (lv_at hl 2 rfl) ?_
    refine lv_iconst (v := I 5) hx hb dX5_readFilter_36 (by decide) ?_
    refine lv_iload_n hx hb dX5_readFilter_37 rfl (lv_at hl 0 rfl) ?_
    refine lv_iconst (v := I 0) hx hb dX5_readFilter_38 (by decide) ?_
    obtain ⟨_, hc_95⟩ := hO.cell h_b (by decide) (ci := 4) rfl
    refine th_callv (va_runV (As := [.int (I 5), .int (I z_5), .int (I 0)]) (rest := []) ⟨hx, hb, hml, hown, hts⟩ (p6_addStep l G y b0 σ_s_89 E hO b h_b 5 (show rng 5 from (show rng 5 from ⟨by decide, by decide⟩)) z_5 (show rng z_5 from rz_5) 0 (show rng 0 from (show rng 0 from ⟨by decide, by decide⟩))) (cwV 3 hts gX5_readFilter_X4_addStep rfl rfl rfl (by decide +kernel) ⟨Nat.le_of_ble_eq_true rfl, Nat.le_of_ble_eq_true rfl⟩) (th_PV hK hH rfl hc_95) rfl rfl hl.1 rfl (lv_room (Nat.le_of_ble_eq_true rfl)) dX5_readFilter_39 ⟨Nat.le_of_ble_eq_true rfl, Nat.le_of_ble_eq_true rfl⟩) hS (fun σ_s_97 H locs hw_96 hH hS => ?_)
    obtain ⟨hO9, hF9, hw_96⟩ := hw_96
    have e_98 : gI σ_s_97 (ad E a 0) 6 = 260 := (fr.ki hO hF9 hkt (by decide) (by decide) _).trans e_92
    have hT_99 : TSt E σ_s_97 (ad E a 0) T cc_14 jt := TSt.mv hO hF9 hkt (by decide) hT_91
    have hUhT_99 := hT_99.2.2
    replace hO := hO9
    replace hF := hF.tu hF9 (by decide)
    replace hw_96 : gI σ_s_97 b 13 = gI σ_s_89 b 13 ∧ (0 ≤ gI σ_s_89 b 3 ∧ gI σ_s_89 b 3 < 8 → gI σ_s_97 b 3 = gI σ_s_89 b 3 + 1) ∧ (¬ (0 ≤ gI σ_s_89 b 3 ∧ gI σ_s_89 b 3 < 8) → gI σ_s_97 b 3 = gI σ_s_89 b 3) := hw_96
    try replace hUhT_91 := hid.mk hUhT_91
    try replace hw_88 := hid.mk hw_88
    try simp only [h0_17, ne_eq, not_true_eq_false, not_false_eq_true, false_implies, true_implies, true_and, and_true, eq_self, false_or, or_false, false_and, and_false] at hUhT_99
    have e_100 : gI σ_s_97 (ad E a 0) 6 = 260 := by omega
    obtain ⟨z_101, e_102, rz_101, lz_101, uz_101⟩ := hO.gi h_b (by decide) k4_3
    obtain ⟨z_103, e_104, rz_103, lz_103, uz_103⟩ := hO.gi h_b (by decide) k4_13
    exact th_vret hx hb hr hlocks hH hS ⟨hO, hF, ⟨cc_14, jt, hT_99, (fun h9 => absurd rfl h9), fun _ => ⟨by omega, fun h9 => absurd h9 h0_17, hG_62.was h0_17⟩, fun h9 => absurd h9 h0_17, by omega⟩⟩ dX5_readFilter_42

set_option maxHeartbeats 20000000 in
set_option maxRecDepth 100000 in
theorem s6_readStep (l : Launch) (G : va_G) (y : Nat → ClassId) (b0 : Nat) (σ : th_M) (E : th_E) (hO : ok y E σ) (a : Nat) (h_a : kd E a = 11) (b : Nat) (h_b : kd E b = 4) (T : tkT) (fc jt : Int) (hT0 : TSt E σ (ad E a 0) T fc jt) (hy0 : fc = 0) (hy1 : tK T jt ≠ 259) (hy2 : 0 ≤ gI σ b 13 ∧ gI σ b 13 ≤ 12) (hy3 : GP T 0 jt (gI σ b 13) (gI σ b 3)) : Met l yX5_readStep wsX5_readStep ({ frames := 50, cells := 0, slots := 0, locals := 1953 }) (th_P G y b0 σ [.ref a, .ref b]) (th_Qv G b0 (fun σ1 => ok y E σ1 ∧ fr [3, 4] E σ σ1 ∧ (∃ c1 j1, TSt E σ1 (ad E a 0) T c1 j1 ∧ jt ≤ j1 ∧ (c1 = 0 → jt < j1 ∧ 0 ≤ gI σ1 b 13 ∧ gI σ1 b 13 ≤ 12) ∧ GP T c1 j1 (gI σ1 b 13) (gI σ1 b 3)))) 0 0 (th_A b0) := by
  refine Met.ofW (cc := cX5_readStep) (maxL := 3) (ret := none) (by decide) rfl ?_
  intro p e s m args below meth c s₁ B hml hv
  obtain ⟨rfl, hH, hK⟩ := hv
  have hx := B.exec
  have hb := B.bytes
  have hr := B.returns
  have hts := atoms_spec (ws := wsX5_readStep) B.pre
  have hown : s.vm.findClass RX5 = some m.cls := findClass_of_methodNamed B.named
  have hlocks := B.notSynchronized
  have h00 : b0 ≤ s.heap.size := hH.1
  have hS : va_S (th_A b0) s.heap s.heap [] := va_S.rf
  have hF : fr [3, 4] E σ σ := fr.rf
  have inX4 : ∀ w ∈ wsX40, w ∈ wsX5_readStep := by decide +kernel
  have inX5 : ∀ w ∈ wsX50, w ∈ wsX5_readStep := by decide +kernel
  have inX8 : ∀ w ∈ wsX80, w ∈ wsX5_readStep := by decide +kernel
  have fl0 := hts (.fieldLink RX5 9 "NestQuery$PathReader" "tokens" "LNestQuery$Tokens;") (by decide +kernel)
  have hl := lv_entry ([.ref a, .ref b]) (n := 3) (Nat.le_of_ble_eq_true rfl)
  rw [lg_entry_eq]
  generalize (lg_sl ([.ref a, .ref b]) ++ List.replicate (3 - (lg_sl ([.ref a, .ref b])).length) Slot.unset).toArray = ls at hl ⊢
  have hl : lv_has ls 3 [(0, .ref a), (1, .ref b)] := hl
  obtain ⟨b30, eb30, rb30, lb30, ub30⟩ := hO.gi h_b (by decide) k4_3
  obtain ⟨b130, eb130, rb130, lb130, ub130⟩ := hO.gi h_b (by decide) k4_13
  have hU0 := hT0.2.2
  have hkt : kd E (ad E a 0) = 3 := ok.pk hO h_a (by decide) k11_0 rfl
  have h0_1 : fc = 0 := by omega
  subst h0_1
  try simp only [ne_eq, not_true_eq_false, not_false_eq_true, false_implies, true_implies, true_and, and_true, eq_self, false_or, or_false, false_and, and_false] at hU0
  have e_2 : gI σ (ad E a 0) 7 = 0 := by omega
  have hk_3 : gI σ (ad E a 0) 6 = tK T jt := by omega
  refine lv_aload_n hx hb dX5_readStep_0 rfl (lv_at hl 0 rfl) ?_
  have hp_4 : kd E (ad E a 0) = 3 := ok.pk hO h_a (by decide) k11_0 rfl
  refine ok.getR hO h_a (by decide) k11_0 (by decide) (fun _ _ he hv kk => th_get (ci := 5) (C := RX5) (T := TX5) (N := 1) hx hb hts inX5 hown hK hH he rfl 0 (by decide) fl0 hv dX5_readStep_1 kk) ?_
  refine ok.getI hO hp_4 (by decide) k3_6 (fun _ _ he hv kk => th_getN (ci := 8) (C := RX8) (T := TX8) (N := 9) hx hb hts inX8 hown hK hH he rfl 6 (by decide) (nl_5 hK) hv dX5_readStep_4 kk) (fun z_5 e_6 rz_5 lz_5 uz_5 => ?_)
  refine lv_istore_n (lv' := [(2, .int (I z_5)), (0, .ref a), (1, .ref b)]) hx hb dX5_readStep_7 rfl hl (by decide) rfl (fun ls hl => ?_)
  refine lv_iload_n hx hb dX5_readStep_8 rfl (lv_at hl 0 rfl) ?_
  refine lv_bipush (v := I 46) hx hb dX5_readStep_9 (by decide) ?_
  refine lv_icmp_eq (tgt := 44) hx hb dX5_readStep_11 (by decide) (fun c_7 => ?_) (fun c_7 => ?_)
  · replace c_7 := (I_eq (a := z_5) (b := 46) rz_5 (show rng 46 from ⟨by decide, by decide⟩)).mp c_7
    refine lv_aload_n hx hb dX5_readStep_44 rfl (lv_at hl 2 rfl) ?_
    refine ok.getIc hO h_b (by decide) k4_3 eb30 (fun _ _ he hv kk => th_getN (ci := 4) (C := RX4) (T := TX4) (N := 14) hx hb hts inX4 hown hK hH he rfl 3 (by decide) (nl_0 hK) hv dX5_readStep_45 kk) ?_
    refine lv_bipush (v := I 8) hx hb dX5_readStep_48 (by decide) ?_
    refine lv_icmp_lt (tgt := 64) hx hb dX5_readStep_50 (by decide) (fun c_8 => ?_) (fun c_8 => ?_)
    · replace c_8 := (I_lt (a := b30) (b := 8) rb30 (show rng 8 from ⟨by decide, by decide⟩)).mp c_8
      refine lv_aload_n hx hb dX5_readStep_64 rfl (lv_at hl 1 rfl) ?_
      refine ok.getR hO h_a (by decide) k11_0 (by decide) (fun _ _ he hv kk => th_get (ci := 5) (C := RX5) (T := TX5) (N := 1) hx hb hts inX5 hown hK hH he rfl 0 (by decide) fl0 hv dX5_readStep_65 kk) ?_
      obtain ⟨_, hc_9⟩ := hO.cell hp_4 (by decide) (ci := 8) rfl
      refine th_callv (va_runV (As := []) (rest := []) ⟨hx, hb, hml, hown, hts⟩ (f_step l G y b0 σ E hO (ad E a 0) hp_4 T 0 jt hT0) (cwV 0 hts gX5_readStep_X8_step rfl rfl rfl (by decide +kernel) ⟨Nat.le_of_ble_eq_true rfl, Nat.le_of_ble_eq_true rfl⟩) (th_PV hK hH rfl hc_9) rfl rfl hl.1 rfl (lv_room (Nat.le_of_ble_eq_true rfl)) dX5_readStep_68 ⟨Nat.le_of_ble_eq_true rfl, Nat.le_of_ble_eq_true rfl⟩) hS (fun σ_s_11 H locs hw_10 hH hS => ?_)
      obtain ⟨hO9, hF9, hw_10⟩ := hw_10
      have e_12 : gI σ_s_11 b 3 = b30 := (fr.ki hO hF9 h_b (by decide) (by decide) _).trans eb30
      have e_13 : gI σ_s_11 b 13 = b130 := (fr.ki hO hF9 h_b (by decide) (by decide) _).trans eb130
      replace hO := hO9
      replace hF := hF.tu hF9 (by decide)
      replace hw_10 : ∃ c1 j1, TSt E σ_s_11 (ad E a 0) T c1 j1 ∧ c1 = 0 ∧ ((0 : Int) ≠ 0 → j1 = jt) ∧ ((0 : Int) = 0 → tK T jt ≠ 259 → j1 = jt + 1) := hw_10
      obtain ⟨cc_14, jj_15, hT_16, hw_10⟩ := hw_10
      have hUhT_16 := hT_16.2.2
      try replace hU0 := hid.mk hU0
      have h0_17 : cc_14 = 0 := by omega
      subst h0_17
      try simp only [ne_eq, not_true_eq_false, not_false_eq_true, false_implies, true_implies, true_and, and_true, eq_self, false_or, or_false, false_and, and_false] at hUhT_16
      have e_18 : gI σ_s_11 (ad E a 0) 7 = 0 := by omega
      have hk_19 : gI σ_s_11 (ad E a 0) 6 = tK T jj_15 := by omega
      have hj_20 : jt + 1 = jj_15 := by omega
      subst hj_20
      refine lv_iload_n hx hb dX5_readStep_71 rfl (lv_at hl 0 rfl) ?_
      refine lv_bipush (v := I 46) hx hb dX5_readStep_72 (by decide) ?_
      refine lv_icmp_ne (tgt := 85) hx hb dX5_readStep_74 (by decide) (fun c_21 => ?_) (fun c_21 => ?_)
      · replace c_21 := mt (I_eq (a := z_5) (b := 46) rz_5 (show rng 46 from ⟨by decide, by decide⟩)).mpr c_21
        exfalso; omega
      · replace c_21 := (I_eq (a := z_5) (b := 46) rz_5 (show rng 46 from ⟨by decide, by decide⟩)).mp c_21
        refine lv_aload_n hx hb dX5_readStep_77 rfl (lv_at hl 1 rfl) ?_
        refine lv_aload_n hx hb dX5_readStep_78 rfl (lv_at hl 2 rfl) ?_
        obtain ⟨_, hc_22⟩ := hO.cell h_a (by decide) (ci := 5) rfl
        refine th_callv (va_runV (As := [.ref b]) (rest := []) ⟨hx, hb, hml, hown, hts⟩ (s6_readName l G y b0 σ_s_11 E hO a h_a b h_b T 0 (jt + 1) hT_16 (by omega)) (cwV 1 hts gX5_readStep_X5_readName rfl rfl rfl (by decide +kernel) ⟨Nat.le_of_ble_eq_true rfl, Nat.le_of_ble_eq_true rfl⟩) (th_PV hK hH rfl hc_22) rfl rfl hl.1 rfl (lv_room (Nat.le_of_ble_eq_true rfl)) dX5_readStep_79 ⟨Nat.le_of_ble_eq_true rfl, Nat.le_of_ble_eq_true rfl⟩) hS (fun σ_s_24 H locs hw_23 hH hS => ?_)
        obtain ⟨hO9, hF9, hw_23⟩ := hw_23
        replace hO := hO9
        replace hF := hF.tu hF9 (by decide)
        replace hw_23 : ∃ c1 j1, TSt E σ_s_24 (ad E a 0) T c1 j1 ∧ ((0 : Int) ≠ 0 → c1 = 0 ∧ j1 = (jt + 1)) ∧ ((0 : Int) = 0 → (jt + 1) ≤ j1 ∧ (c1 = 0 → (jt + 1) < j1) ∧ GS T [(13, 0)] (jt + 1) (gI σ_s_11 b 13) [] c1 j1 (gI σ_s_24 b 13)) ∧ gI σ_s_24 b 13 = gI σ_s_11 b 13 ∧ (0 ≤ gI σ_s_11 b 3 ∧ gI σ_s_11 b 3 < 8 → gI σ_s_24 b 3 = gI σ_s_11 b 3 + 1) := hw_23
        obtain ⟨cc_25, jj_26, hT_27, hw_23⟩ := hw_23
        have hUhT_27 := hT_27.2.2
        try replace hUhT_16 := hid.mk hUhT_16
        try replace hw_10 := hid.mk hw_10
        have hb_28 : (jt + 1) ≤ jj_26 := by omega
        try have hb_29 : cc_25 = 0 → 0 ≤ gI σ_s_24 b 13 ∧ gI σ_s_24 b 13 ≤ 12 := by omega
        obtain ⟨z_30, e_31, rz_30, lz_30, uz_30⟩ := hO.gi h_b (by decide) k4_3
        obtain ⟨z_32, e_33, rz_32, lz_32, uz_32⟩ := hO.gi h_b (by decide) k4_13
        refine lv_goto (tgt := 121) hx hb dX5_readStep_82 (by decide) ?_
        have hq9 := (hw_23.2.1 rfl).1
        have hQ9 := (hw_23.2.1 rfl).2.1
        have hR9 := hw_23.2.2
        have hG_34 := hy3.byName (c2 := cc_25) (j2 := jj_26) (t2 := gI σ_s_24 b 13) (by omega) (by omega) (GS.cg1 (hw_23.2.1 rfl).2.2 rfl rfl (by omega))
        exact th_vret hx hb hr hlocks hH hS ⟨hO, hF, ⟨cc_25, jj_26, hT_27, by omega, by omega, hG_34.en (fun _ => by omega) (fun _ => by omega)⟩⟩ dX5_readStep_121
    · replace c_8 := mt (I_lt (a := b30) (b := 8) rb30 (show rng 8 from ⟨by decide, by decide⟩)).mpr c_8
      refine lv_aload_n hx hb dX5_readStep_53 rfl (lv_at hl 1 rfl) ?_
      refine ok.getR hO h_a (by decide) k11_0 (by decide) (fun _ _ he hv kk => th_get (ci := 5) (C := RX5) (T := TX5) (N := 1) hx hb hts inX5 hown hK hH he rfl 0 (by decide) fl0 hv dX5_readStep_54 kk) ?_
      refine lv_iconst (v := I 2) hx hb dX5_readStep_57 (by decide) ?_
      obtain ⟨_, hc_35⟩ := hO.cell hp_4 (by decide) (ci := 8) rfl
      refine th_callv (va_runV (As := [.int (I 2)]) (rest := []) ⟨hx, hb, hml, hown, hts⟩ (f_fail l G y b0 σ E hO (ad E a 0) hp_4 2 (show rng 2 from (show rng 2 from ⟨by decide, by decide⟩)) T 0 jt hT0 (by omega)) (cwV 1 hts gX5_readStep_X8_fail rfl rfl rfl (by decide +kernel) ⟨Nat.le_of_ble_eq_true rfl, Nat.le_of_ble_eq_true rfl⟩) (th_PV hK hH rfl hc_35) rfl rfl hl.1 rfl (lv_room (Nat.le_of_ble_eq_true rfl)) dX5_readStep_58 ⟨Nat.le_of_ble_eq_true rfl, Nat.le_of_ble_eq_true rfl⟩) hS (fun σ_s_37 H locs hw_36 hH hS => ?_)
      obtain ⟨hO9, hF9, hw_36⟩ := hw_36
      have e_38 : gI σ_s_37 b 3 = b30 := (fr.ki hO hF9 h_b (by decide) (by decide) _).trans eb30
      have e_39 : gI σ_s_37 b 13 = b130 := (fr.ki hO hF9 h_b (by decide) (by decide) _).trans eb130
      replace hO := hO9
      replace hF := hF.tu hF9 (by decide)
      replace hw_36 : ∃ c1 j1, TSt E σ_s_37 (ad E a 0) T c1 j1 ∧ j1 = jt ∧ ((0 : Int) = 0 → c1 = 2) ∧ ((0 : Int) ≠ 0 → c1 = 0) := hw_36
      obtain ⟨cc_40, jj_41, hT_42, hw_36⟩ := hw_36
      have hUhT_42 := hT_42.2.2
      try replace hU0 := hid.mk hU0
      have h0_43 : ¬ cc_40 = 0 := by omega
      try simp only [h0_43, ne_eq, not_true_eq_false, not_false_eq_true, false_implies, true_implies, true_and, and_true, eq_self, false_or, or_false, false_and, and_false] at hUhT_42
      have e_44 : gI σ_s_37 (ad E a 0) 6 = 260 := by omega
      have hj_45 : jt = jj_41 := by omega
      subst hj_45
      refine lv_goto (tgt := 121) hx hb dX5_readStep_61 (by decide) ?_
      have hG_46 := hy3.much (c2 := cc_40) (j2 := jt) (t2 := 0) (x := 0) (by omega) (by omega) (by omega) rfl
      exact th_vret hx hb hr hlocks hH hS ⟨hO, hF, ⟨cc_40, jt, hT_42, by omega, by omega, hG_46.en (fun _ => by omega) (fun _ => by omega)⟩⟩ dX5_readStep_121
  · replace c_7 := mt (I_eq (a := z_5) (b := 46) rz_5 (show rng 46 from ⟨by decide, by decide⟩)).mpr c_7
    refine lv_iload_n hx hb dX5_readStep_14 rfl (lv_at hl 0 rfl) ?_
    refine lv_sipush (v := I 258) hx hb dX5_readStep_15 (by decide) ?_
    refine lv_icmp_eq (tgt := 44) hx hb dX5_readStep_18 (by decide) (fun c_47 => ?_) (fun c_47 => ?_)
    · replace c_47 := (I_eq (a := z_5) (b := 258) rz_5 (show rng 258 from ⟨by decide, by decide⟩)).mp c_47
      refine lv_aload_n hx hb dX5_readStep_44 rfl (lv_at hl 2 rfl) ?_
      refine ok.getIc hO h_b (by decide) k4_3 eb30 (fun _ _ he hv kk => th_getN (ci := 4) (C := RX4) (T := TX4) (N := 14) hx hb hts inX4 hown hK hH he rfl 3 (by decide) (nl_0 hK) hv dX5_readStep_45 kk) ?_
      refine lv_bipush (v := I 8) hx hb dX5_readStep_48 (by decide) ?_
      refine lv_icmp_lt (tgt := 64) hx hb dX5_readStep_50 (by decide) (fun c_48 => ?_) (fun c_48 => ?_)
      · replace c_48 := (I_lt (a := b30) (b := 8) rb30 (show rng 8 from ⟨by decide, by decide⟩)).mp c_48
        refine lv_aload_n hx hb dX5_readStep_64 rfl (lv_at hl 1 rfl) ?_
        refine ok.getR hO h_a (by decide) k11_0 (by decide) (fun _ _ he hv kk => th_get (ci := 5) (C := RX5) (T := TX5) (N := 1) hx hb hts inX5 hown hK hH he rfl 0 (by decide) fl0 hv dX5_readStep_65 kk) ?_
        obtain ⟨_, hc_49⟩ := hO.cell hp_4 (by decide) (ci := 8) rfl
        refine th_callv (va_runV (As := []) (rest := []) ⟨hx, hb, hml, hown, hts⟩ (f_step l G y b0 σ E hO (ad E a 0) hp_4 T 0 jt hT0) (cwV 0 hts gX5_readStep_X8_step rfl rfl rfl (by decide +kernel) ⟨Nat.le_of_ble_eq_true rfl, Nat.le_of_ble_eq_true rfl⟩) (th_PV hK hH rfl hc_49) rfl rfl hl.1 rfl (lv_room (Nat.le_of_ble_eq_true rfl)) dX5_readStep_68 ⟨Nat.le_of_ble_eq_true rfl, Nat.le_of_ble_eq_true rfl⟩) hS (fun σ_s_51 H locs hw_50 hH hS => ?_)
        obtain ⟨hO9, hF9, hw_50⟩ := hw_50
        have e_52 : gI σ_s_51 b 3 = b30 := (fr.ki hO hF9 h_b (by decide) (by decide) _).trans eb30
        have e_53 : gI σ_s_51 b 13 = b130 := (fr.ki hO hF9 h_b (by decide) (by decide) _).trans eb130
        replace hO := hO9
        replace hF := hF.tu hF9 (by decide)
        replace hw_50 : ∃ c1 j1, TSt E σ_s_51 (ad E a 0) T c1 j1 ∧ c1 = 0 ∧ ((0 : Int) ≠ 0 → j1 = jt) ∧ ((0 : Int) = 0 → tK T jt ≠ 259 → j1 = jt + 1) := hw_50
        obtain ⟨cc_54, jj_55, hT_56, hw_50⟩ := hw_50
        have hUhT_56 := hT_56.2.2
        try replace hU0 := hid.mk hU0
        have h0_57 : cc_54 = 0 := by omega
        subst h0_57
        try simp only [ne_eq, not_true_eq_false, not_false_eq_true, false_implies, true_implies, true_and, and_true, eq_self, false_or, or_false, false_and, and_false] at hUhT_56
        have e_58 : gI σ_s_51 (ad E a 0) 7 = 0 := by omega
        have hk_59 : gI σ_s_51 (ad E a 0) 6 = tK T jj_55 := by omega
        have hj_60 : jt + 1 = jj_55 := by omega
        subst hj_60
        refine lv_iload_n hx hb dX5_readStep_71 rfl (lv_at hl 0 rfl) ?_
        refine lv_bipush (v := I 46) hx hb dX5_readStep_72 (by decide) ?_
        refine lv_icmp_ne (tgt := 85) hx hb dX5_readStep_74 (by decide) (fun c_61 => ?_) (fun c_61 => ?_)
        · replace c_61 := mt (I_eq (a := z_5) (b := 46) rz_5 (show rng 46 from ⟨by decide, by decide⟩)).mpr c_61
          refine lv_iload_n hx hb dX5_readStep_85 rfl (lv_at hl 0 rfl) ?_
          refine lv_sipush (v := I 258) hx hb dX5_readStep_86 (by decide) ?_
          refine lv_icmp_ne (tgt := 102) hx hb dX5_readStep_89 (by decide) (fun c_62 => ?_) (fun c_62 => ?_)
          · replace c_62 := mt (I_eq (a := z_5) (b := 258) rz_5 (show rng 258 from ⟨by decide, by decide⟩)).mpr c_62
            exfalso; omega
          · replace c_62 := (I_eq (a := z_5) (b := 258) rz_5 (show rng 258 from ⟨by decide, by decide⟩)).mp c_62
            refine lv_aload_n hx hb dX5_readStep_92 rfl (lv_at hl 2 rfl) ?_
            refine lv_iconst (v := I 2) hx hb dX5_readStep_93 (by decide) ?_
            refine lv_iconst (v := I 0) hx hb dX5_readStep_94 (by decide) ?_
            refine lv_iconst (v := I 0) hx hb dX5_readStep_95 (by decide) ?_
            obtain ⟨_, hc_63⟩ := hO.cell h_b (by decide) (ci := 4) rfl
            refine th_callv (va_runV (As := [.int (I 2), .int (I 0), .int (I 0)]) (rest := []) ⟨hx, hb, hml, hown, hts⟩ (p6_addStep l G y b0 σ_s_51 E hO b h_b 2 (show rng 2 from (show rng 2 from ⟨by decide, by decide⟩)) 0 (show rng 0 from (show rng 0 from ⟨by decide, by decide⟩)) 0 (show rng 0 from (show rng 0 from ⟨by decide, by decide⟩))) (cwV 3 hts gX5_readStep_X4_addStep rfl rfl rfl (by decide +kernel) ⟨Nat.le_of_ble_eq_true rfl, Nat.le_of_ble_eq_true rfl⟩) (th_PV hK hH rfl hc_63) rfl rfl hl.1 rfl (lv_room (Nat.le_of_ble_eq_true rfl)) dX5_readStep_96 ⟨Nat.le_of_ble_eq_true rfl, Nat.le_of_ble_eq_true rfl⟩) hS (fun σ_s_65 H locs hw_64 hH hS => ?_)
            obtain ⟨hO9, hF9, hw_64⟩ := hw_64
            have e_66 : gI σ_s_65 (ad E a 0) 7 = 0 := (fr.ki hO hF9 hkt (by decide) (by decide) _).trans e_58
            have hT_67 : TSt E σ_s_65 (ad E a 0) T 0 (jt + 1) := TSt.mv hO hF9 hkt (by decide) hT_56
            have hUhT_67 := hT_67.2.2
            replace hO := hO9
            replace hF := hF.tu hF9 (by decide)
            replace hw_64 : gI σ_s_65 b 13 = gI σ_s_51 b 13 ∧ (0 ≤ gI σ_s_51 b 3 ∧ gI σ_s_51 b 3 < 8 → gI σ_s_65 b 3 = gI σ_s_51 b 3 + 1) ∧ (¬ (0 ≤ gI σ_s_51 b 3 ∧ gI σ_s_51 b 3 < 8) → gI σ_s_65 b 3 = gI σ_s_51 b 3) := hw_64
            try replace hUhT_56 := hid.mk hUhT_56
            try replace hw_50 := hid.mk hw_50
            try simp only [ne_eq, not_true_eq_false, not_false_eq_true, false_implies, true_implies, true_and, and_true, eq_self, false_or, or_false, false_and, and_false] at hUhT_67
            have e_68 : gI σ_s_65 (ad E a 0) 7 = 0 := by omega
            have hk_69 : gI σ_s_65 (ad E a 0) 6 = tK T (jt + 1) := by omega
            obtain ⟨z_70, e_71, rz_70, lz_70, uz_70⟩ := hO.gi h_b (by decide) k4_3
            obtain ⟨z_72, e_73, rz_72, lz_72, uz_72⟩ := hO.gi h_b (by decide) k4_13
            refine lv_goto (tgt := 121) hx hb dX5_readStep_99 (by decide) ?_
            have hG_74 := hy3.dots (by omega) (by omega)
            exact th_vret hx hb hr hlocks hH hS ⟨hO, hF, ⟨0, (jt + 1), hT_67, by omega, by omega, hG_74.en (fun _ => by omega) (fun _ => by omega)⟩⟩ dX5_readStep_121
        · replace c_61 := (I_eq (a := z_5) (b := 46) rz_5 (show rng 46 from ⟨by decide, by decide⟩)).mp c_61
          exfalso; omega
      · replace c_48 := mt (I_lt (a := b30) (b := 8) rb30 (show rng 8 from ⟨by decide, by decide⟩)).mpr c_48
        refine lv_aload_n hx hb dX5_readStep_53 rfl (lv_at hl 1 rfl) ?_
        refine ok.getR hO h_a (by decide) k11_0 (by decide) (fun _ _ he hv kk => th_get (ci := 5) (C := RX5) (T := TX5) (N := 1) hx hb hts inX5 hown hK hH he rfl 0 (by decide) fl0 hv dX5_readStep_54 kk) ?_
        refine lv_iconst (v := I 2) hx hb dX5_readStep_57 (by decide) ?_
        obtain ⟨_, hc_75⟩ := hO.cell hp_4 (by decide) (ci := 8) rfl
        refine th_callv (va_runV (As := [.int (I 2)]) (rest := []) ⟨hx, hb, hml, hown, hts⟩ (f_fail l G y b0 σ E hO (ad E a 0) hp_4 2 (show rng 2 from (show rng 2 from ⟨by decide, by decide⟩)) T 0 jt hT0 (by omega)) (cwV 1 hts gX5_readStep_X8_fail rfl rfl rfl (by decide +kernel) ⟨Nat.le_of_ble_eq_true rfl, Nat.le_of_ble_eq_true rfl⟩) (th_PV hK hH rfl hc_75) rfl rfl hl.1 rfl (lv_room (Nat.le_of_ble_eq_true rfl)) dX5_readStep_58 ⟨Nat.le_of_ble_eq_true rfl, Nat.le_of_ble_eq_true rfl⟩) hS (fun σ_s_77 H locs hw_76 hH hS => ?_)
        obtain ⟨hO9, hF9, hw_76⟩ := hw_76
        have e_78 : gI σ_s_77 b 3 = b30 := (fr.ki hO hF9 h_b (by decide) (by decide) _).trans eb30
        have e_79 : gI σ_s_77 b 13 = b130 := (fr.ki hO hF9 h_b (by decide) (by decide) _).trans eb130
        replace hO := hO9
        replace hF := hF.tu hF9 (by decide)
        replace hw_76 : ∃ c1 j1, TSt E σ_s_77 (ad E a 0) T c1 j1 ∧ j1 = jt ∧ ((0 : Int) = 0 → c1 = 2) ∧ ((0 : Int) ≠ 0 → c1 = 0) := hw_76
        obtain ⟨cc_80, jj_81, hT_82, hw_76⟩ := hw_76
        have hUhT_82 := hT_82.2.2
        try replace hU0 := hid.mk hU0
        have h0_83 : ¬ cc_80 = 0 := by omega
        try simp only [h0_83, ne_eq, not_true_eq_false, not_false_eq_true, false_implies, true_implies, true_and, and_true, eq_self, false_or, or_false, false_and, and_false] at hUhT_82
        have e_84 : gI σ_s_77 (ad E a 0) 6 = 260 := by omega
        have hj_85 : jt = jj_81 := by omega
        subst hj_85
        refine lv_goto (tgt := 121) hx hb dX5_readStep_61 (by decide) ?_
        have hG_86 := hy3.much (c2 := cc_80) (j2 := jt) (t2 := 0) (x := 0) (by omega) (by omega) (by omega) rfl
        exact th_vret hx hb hr hlocks hH hS ⟨hO, hF, ⟨cc_80, jt, hT_82, by omega, by omega, hG_86.en (fun _ => by omega) (fun _ => by omega)⟩⟩ dX5_readStep_121
    · replace c_47 := mt (I_eq (a := z_5) (b := 258) rz_5 (show rng 258 from ⟨by decide, by decide⟩)).mpr c_47
      refine lv_iload_n hx hb dX5_readStep_21 rfl (lv_at hl 0 rfl) ?_
      refine lv_bipush (v := I 91) hx hb dX5_readStep_22 (by decide) ?_
      refine lv_icmp_eq (tgt := 44) hx hb dX5_readStep_24 (by decide) (fun c_87 => ?_) (fun c_87 => ?_)
      · replace c_87 := (I_eq (a := z_5) (b := 91) rz_5 (show rng 91 from ⟨by decide, by decide⟩)).mp c_87
        refine lv_aload_n hx hb dX5_readStep_44 rfl (lv_at hl 2 rfl) ?_
        refine ok.getIc hO h_b (by decide) k4_3 eb30 (fun _ _ he hv kk => th_getN (ci := 4) (C := RX4) (T := TX4) (N := 14) hx hb hts inX4 hown hK hH he rfl 3 (by decide) (nl_0 hK) hv dX5_readStep_45 kk) ?_
        refine lv_bipush (v := I 8) hx hb dX5_readStep_48 (by decide) ?_
        refine lv_icmp_lt (tgt := 64) hx hb dX5_readStep_50 (by decide) (fun c_88 => ?_) (fun c_88 => ?_)
        · replace c_88 := (I_lt (a := b30) (b := 8) rb30 (show rng 8 from ⟨by decide, by decide⟩)).mp c_88
          refine lv_aload_n hx hb dX5_readStep_64 rfl (lv_at hl 1 rfl) ?_
          refine ok.getR hO h_a (by decide) k11_0 (by decide) (fun _ _ he hv kk => th_get (ci := 5) (C := RX5) (T := TX5) (N := 1) hx hb hts inX5 hown hK hH he rfl 0 (by decide) fl0 hv dX5_readStep_65 kk) ?_
          obtain ⟨_, hc_89⟩ := hO.cell hp_4 (by decide) (ci := 8) rfl
          refine th_callv (va_runV (As := []) (rest := []) ⟨hx, hb, hml, hown, hts⟩ (f_step l G y b0 σ E hO (ad E a 0) hp_4 T 0 jt hT0) (cwV 0 hts gX5_readStep_X8_step rfl rfl rfl (by decide +kernel) ⟨Nat.le_of_ble_eq_true rfl, Nat.le_of_ble_eq_true rfl⟩) (th_PV hK hH rfl hc_89) rfl rfl hl.1 rfl (lv_room (Nat.le_of_ble_eq_true rfl)) dX5_readStep_68 ⟨Nat.le_of_ble_eq_true rfl, Nat.le_of_ble_eq_true rfl⟩) hS (fun σ_s_91 H locs hw_90 hH hS => ?_)
          obtain ⟨hO9, hF9, hw_90⟩ := hw_90
          have e_92 : gI σ_s_91 b 3 = b30 := (fr.ki hO hF9 h_b (by decide) (by decide) _).trans eb30
          have e_93 : gI σ_s_91 b 13 = b130 := (fr.ki hO hF9 h_b (by decide) (by decide) _).trans eb130
          replace hO := hO9
          replace hF := hF.tu hF9 (by decide)
          replace hw_90 : ∃ c1 j1, TSt E σ_s_91 (ad E a 0) T c1 j1 ∧ c1 = 0 ∧ ((0 : Int) ≠ 0 → j1 = jt) ∧ ((0 : Int) = 0 → tK T jt ≠ 259 → j1 = jt + 1) := hw_90
          obtain ⟨cc_94, jj_95, hT_96, hw_90⟩ := hw_90
          have hUhT_96 := hT_96.2.2
          try replace hU0 := hid.mk hU0
          have h0_97 : cc_94 = 0 := by omega
          subst h0_97
          try simp only [ne_eq, not_true_eq_false, not_false_eq_true, false_implies, true_implies, true_and, and_true, eq_self, false_or, or_false, false_and, and_false] at hUhT_96
          have e_98 : gI σ_s_91 (ad E a 0) 7 = 0 := by omega
          have hk_99 : gI σ_s_91 (ad E a 0) 6 = tK T jj_95 := by omega
          have hj_100 : jt + 1 = jj_95 := by omega
          subst hj_100
          refine lv_iload_n hx hb dX5_readStep_71 rfl (lv_at hl 0 rfl) ?_
          refine lv_bipush (v := I 46) hx hb dX5_readStep_72 (by decide) ?_
          refine lv_icmp_ne (tgt := 85) hx hb dX5_readStep_74 (by decide) (fun c_101 => ?_) (fun c_101 => ?_)
          · replace c_101 := mt (I_eq (a := z_5) (b := 46) rz_5 (show rng 46 from ⟨by decide, by decide⟩)).mpr c_101
            refine lv_iload_n hx hb dX5_readStep_85 rfl (lv_at hl 0 rfl) ?_
            refine lv_sipush (v := I 258) hx hb dX5_readStep_86 (by decide) ?_
            refine lv_icmp_ne (tgt := 102) hx hb dX5_readStep_89 (by decide) (fun c_102 => ?_) (fun c_102 => ?_)
            · replace c_102 := mt (I_eq (a := z_5) (b := 258) rz_5 (show rng 258 from ⟨by decide, by decide⟩)).mpr c_102
              refine lv_iload_n hx hb dX5_readStep_102 rfl (lv_at hl 0 rfl) ?_
              refine lv_bipush (v := I 91) hx hb dX5_readStep_103 (by decide) ?_
              refine lv_icmp_ne (tgt := 116) hx hb dX5_readStep_105 (by decide) (fun c_103 => ?_) (fun c_103 => ?_)
              · replace c_103 := mt (I_eq (a := z_5) (b := 91) rz_5 (show rng 91 from ⟨by decide, by decide⟩)).mpr c_103
                exfalso; omega
              · replace c_103 := (I_eq (a := z_5) (b := 91) rz_5 (show rng 91 from ⟨by decide, by decide⟩)).mp c_103
                refine lv_aload_n hx hb dX5_readStep_108 rfl (lv_at hl 1 rfl) ?_
                refine lv_aload_n hx hb dX5_readStep_109 rfl (lv_at hl 2 rfl) ?_
                obtain ⟨_, hc_104⟩ := hO.cell h_a (by decide) (ci := 5) rfl
                refine th_callv (va_runV (As := [.ref b]) (rest := []) ⟨hx, hb, hml, hown, hts⟩ (s6_readPlaces l G y b0 σ_s_91 E hO a h_a b h_b T 0 (jt + 1) hT_96 (by omega)) (cwV 1 hts gX5_readStep_X5_readPlaces rfl rfl rfl (by decide +kernel) ⟨Nat.le_of_ble_eq_true rfl, Nat.le_of_ble_eq_true rfl⟩) (th_PV hK hH rfl hc_104) rfl rfl hl.1 rfl (lv_room (Nat.le_of_ble_eq_true rfl)) dX5_readStep_110 ⟨Nat.le_of_ble_eq_true rfl, Nat.le_of_ble_eq_true rfl⟩) hS (fun σ_s_106 H locs hw_105 hH hS => ?_)
                obtain ⟨hO9, hF9, hw_105⟩ := hw_105
                replace hO := hO9
                replace hF := hF.tu hF9 (by decide)
                replace hw_105 : ∃ c1 j1, TSt E σ_s_106 (ad E a 0) T c1 j1 ∧ ((0 : Int) ≠ 0 → c1 = 0 ∧ j1 = (jt + 1)) ∧ ((0 : Int) = 0 → (jt + 1) ≤ j1 ∧ (c1 = 0 → (jt + 1) < j1) ∧ GS T [(10, 0)] (jt + 1) (gI σ_s_91 b 13) [] c1 j1 (gI σ_s_106 b 13)) ∧ gI σ_s_106 b 13 = gI σ_s_91 b 13 ∧ (0 ≤ gI σ_s_91 b 3 ∧ gI σ_s_91 b 3 < 8 → gI σ_s_106 b 3 = gI σ_s_91 b 3 + 1) := hw_105
                obtain ⟨cc_107, jj_108, hT_109, hw_105⟩ := hw_105
                have hUhT_109 := hT_109.2.2
                try replace hUhT_96 := hid.mk hUhT_96
                try replace hw_90 := hid.mk hw_90
                have hb_110 : (jt + 1) ≤ jj_108 := by omega
                try have hb_111 : cc_107 = 0 → 0 ≤ gI σ_s_106 b 13 ∧ gI σ_s_106 b 13 ≤ 12 := by omega
                obtain ⟨z_112, e_113, rz_112, lz_112, uz_112⟩ := hO.gi h_b (by decide) k4_3
                obtain ⟨z_114, e_115, rz_114, lz_114, uz_114⟩ := hO.gi h_b (by decide) k4_13
                refine lv_goto (tgt := 121) hx hb dX5_readStep_113 (by decide) ?_
                have hq9 := (hw_105.2.1 rfl).1
                have hQ9 := (hw_105.2.1 rfl).2.1
                have hR9 := hw_105.2.2
                have hG_116 := hy3.byPlace (c2 := cc_107) (j2 := jj_108) (t2 := gI σ_s_106 b 13) (by omega) (by omega) (GS.cg1 (hw_105.2.1 rfl).2.2 rfl rfl (by omega))
                exact th_vret hx hb hr hlocks hH hS ⟨hO, hF, ⟨cc_107, jj_108, hT_109, by omega, by omega, hG_116.en (fun _ => by omega) (fun _ => by omega)⟩⟩ dX5_readStep_121
            · replace c_102 := (I_eq (a := z_5) (b := 258) rz_5 (show rng 258 from ⟨by decide, by decide⟩)).mp c_102
              exfalso; omega
          · replace c_101 := (I_eq (a := z_5) (b := 46) rz_5 (show rng 46 from ⟨by decide, by decide⟩)).mp c_101
            exfalso; omega
        · replace c_88 := mt (I_lt (a := b30) (b := 8) rb30 (show rng 8 from ⟨by decide, by decide⟩)).mpr c_88
          refine lv_aload_n hx hb dX5_readStep_53 rfl (lv_at hl 1 rfl) ?_
          refine ok.getR hO h_a (by decide) k11_0 (by decide) (fun _ _ he hv kk => th_get (ci := 5) (C := RX5) (T := TX5) (N := 1) hx hb hts inX5 hown hK hH he rfl 0 (by decide) fl0 hv dX5_readStep_54 kk) ?_
          refine lv_iconst (v := I 2) hx hb dX5_readStep_57 (by decide) ?_
          obtain ⟨_, hc_117⟩ := hO.cell hp_4 (by decide) (ci := 8) rfl
          refine th_callv (va_runV (As := [.int (I 2)]) (rest := []) ⟨hx, hb, hml, hown, hts⟩ (f_fail l G y b0 σ E hO (ad E a 0) hp_4 2 (show rng 2 from (show rng 2 from ⟨by decide, by decide⟩)) T 0 jt hT0 (by omega)) (cwV 1 hts gX5_readStep_X8_fail rfl rfl rfl (by decide +kernel) ⟨Nat.le_of_ble_eq_true rfl, Nat.le_of_ble_eq_true rfl⟩) (th_PV hK hH rfl hc_117) rfl rfl hl.1 rfl (lv_room (Nat.le_of_ble_eq_true rfl)) dX5_readStep_58 ⟨Nat.le_of_ble_eq_true rfl, Nat.le_of_ble_eq_true rfl⟩) hS (fun σ_s_119 H locs hw_118 hH hS => ?_)
          obtain ⟨hO9, hF9, hw_118⟩ := hw_118
          have e_120 : gI σ_s_119 b 3 = b30 := (fr.ki hO hF9 h_b (by decide) (by decide) _).trans eb30
          have e_121 : gI σ_s_119 b 13 = b130 := (fr.ki hO hF9 h_b (by decide) (by decide) _).trans eb130
          replace hO := hO9
          replace hF := hF.tu hF9 (by decide)
          replace hw_118 : ∃ c1 j1, TSt E σ_s_119 (ad E a 0) T c1 j1 ∧ j1 = jt ∧ ((0 : Int) = 0 → c1 = 2) ∧ ((0 : Int) ≠ 0 → c1 = 0) := hw_118
          obtain ⟨cc_122, jj_123, hT_124, hw_118⟩ := hw_118
          have hUhT_124 := hT_124.2.2
          try replace hU0 := hid.mk hU0
          have h0_125 : ¬ cc_122 = 0 := by omega
          try simp only [h0_125, ne_eq, not_true_eq_false, not_false_eq_true, false_implies, true_implies, true_and, and_true, eq_self, false_or, or_false, false_and, and_false] at hUhT_124
          have e_126 : gI σ_s_119 (ad E a 0) 6 = 260 := by omega
          have hj_127 : jt = jj_123 := by omega
          subst hj_127
          refine lv_goto (tgt := 121) hx hb dX5_readStep_61 (by decide) ?_
          have hG_128 := hy3.much (c2 := cc_122) (j2 := jt) (t2 := 0) (x := 0) (by omega) (by omega) (by omega) rfl
          exact th_vret hx hb hr hlocks hH hS ⟨hO, hF, ⟨cc_122, jt, hT_124, by omega, by omega, hG_128.en (fun _ => by omega) (fun _ => by omega)⟩⟩ dX5_readStep_121
      · replace c_87 := mt (I_eq (a := z_5) (b := 91) rz_5 (show rng 91 from ⟨by decide, by decide⟩)).mpr c_87
        refine lv_iload_n hx hb dX5_readStep_27 rfl (lv_at hl 0 rfl) ?_
        refine lv_bipush (v := I 63) hx hb dX5_readStep_28 (by decide) ?_
        refine lv_icmp_eq (tgt := 44) hx hb dX5_readStep_30 (by decide) (fun c_129 => ?_) (fun c_129 => ?_)
        · replace c_129 := (I_eq (a := z_5) (b := 63) rz_5 (show rng 63 from ⟨by decide, by decide⟩)).mp c_129
          refine lv_aload_n hx hb dX5_readStep_44 rfl (lv_at hl 2 rfl) ?_
          refine ok.getIc hO h_b (by decide) k4_3 eb30 (fun _ _ he hv kk => th_getN (ci := 4) (C := RX4) (T := TX4) (N := 14) hx hb hts inX4 hown hK hH he rfl 3 (by decide) (nl_0 hK) hv dX5_readStep_45 kk) ?_
          refine lv_bipush (v := I 8) hx hb dX5_readStep_48 (by decide) ?_
          refine lv_icmp_lt (tgt := 64) hx hb dX5_readStep_50 (by decide) (fun c_130 => ?_) (fun c_130 => ?_)
          · replace c_130 := (I_lt (a := b30) (b := 8) rb30 (show rng 8 from ⟨by decide, by decide⟩)).mp c_130
            refine lv_aload_n hx hb dX5_readStep_64 rfl (lv_at hl 1 rfl) ?_
            refine ok.getR hO h_a (by decide) k11_0 (by decide) (fun _ _ he hv kk => th_get (ci := 5) (C := RX5) (T := TX5) (N := 1) hx hb hts inX5 hown hK hH he rfl 0 (by decide) fl0 hv dX5_readStep_65 kk) ?_
            obtain ⟨_, hc_131⟩ := hO.cell hp_4 (by decide) (ci := 8) rfl
            refine th_callv (va_runV (As := []) (rest := []) ⟨hx, hb, hml, hown, hts⟩ (f_step l G y b0 σ E hO (ad E a 0) hp_4 T 0 jt hT0) (cwV 0 hts gX5_readStep_X8_step rfl rfl rfl (by decide +kernel) ⟨Nat.le_of_ble_eq_true rfl, Nat.le_of_ble_eq_true rfl⟩) (th_PV hK hH rfl hc_131) rfl rfl hl.1 rfl (lv_room (Nat.le_of_ble_eq_true rfl)) dX5_readStep_68 ⟨Nat.le_of_ble_eq_true rfl, Nat.le_of_ble_eq_true rfl⟩) hS (fun σ_s_133 H locs hw_132 hH hS => ?_)
            obtain ⟨hO9, hF9, hw_132⟩ := hw_132
            have e_134 : gI σ_s_133 b 3 = b30 := (fr.ki hO hF9 h_b (by decide) (by decide) _).trans eb30
            have e_135 : gI σ_s_133 b 13 = b130 := (fr.ki hO hF9 h_b (by decide) (by decide) _).trans eb130
            replace hO := hO9
            replace hF := hF.tu hF9 (by decide)
            replace hw_132 : ∃ c1 j1, TSt E σ_s_133 (ad E a 0) T c1 j1 ∧ c1 = 0 ∧ ((0 : Int) ≠ 0 → j1 = jt) ∧ ((0 : Int) = 0 → tK T jt ≠ 259 → j1 = jt + 1) := hw_132
            obtain ⟨cc_136, jj_137, hT_138, hw_132⟩ := hw_132
            have hUhT_138 := hT_138.2.2
            try replace hU0 := hid.mk hU0
            have h0_139 : cc_136 = 0 := by omega
            subst h0_139
            try simp only [ne_eq, not_true_eq_false, not_false_eq_true, false_implies, true_implies, true_and, and_true, eq_self, false_or, or_false, false_and, and_false] at hUhT_138
            have e_140 : gI σ_s_133 (ad E a 0) 7 = 0 := by omega
            have hk_141 : gI σ_s_133 (ad E a 0) 6 = tK T jj_137 := by omega
            have hj_142 : jt + 1 = jj_137 := by omega
            subst hj_142
            refine lv_iload_n hx hb dX5_readStep_71 rfl (lv_at hl 0 rfl) ?_
            refine lv_bipush (v := I 46) hx hb dX5_readStep_72 (by decide) ?_
            refine lv_icmp_ne (tgt := 85) hx hb dX5_readStep_74 (by decide) (fun c_143 => ?_) (fun c_143 => ?_)
            · replace c_143 := mt (I_eq (a := z_5) (b := 46) rz_5 (show rng 46 from ⟨by decide, by decide⟩)).mpr c_143
              refine lv_iload_n hx hb dX5_readStep_85 rfl (lv_at hl 0 rfl) ?_
              refine lv_sipush (v := I 258) hx hb dX5_readStep_86 (by decide) ?_
              refine lv_icmp_ne (tgt := 102) hx hb dX5_readStep_89 (by decide) (fun c_144 => ?_) (fun c_144 => ?_)
              · replace c_144 := mt (I_eq (a := z_5) (b := 258) rz_5 (show rng 258 from ⟨by decide, by decide⟩)).mpr c_144
                refine lv_iload_n hx hb dX5_readStep_102 rfl (lv_at hl 0 rfl) ?_
                refine lv_bipush (v := I 91) hx hb dX5_readStep_103 (by decide) ?_
                refine lv_icmp_ne (tgt := 116) hx hb dX5_readStep_105 (by decide) (fun c_145 => ?_) (fun c_145 => ?_)
                · replace c_145 := mt (I_eq (a := z_5) (b := 91) rz_5 (show rng 91 from ⟨by decide, by decide⟩)).mpr c_145
                  refine lv_aload_n hx hb dX5_readStep_116 rfl (lv_at hl 1 rfl) ?_
                  refine lv_aload_n hx hb dX5_readStep_117 rfl (lv_at hl 2 rfl) ?_
                  obtain ⟨_, hc_146⟩ := hO.cell h_a (by decide) (ci := 5) rfl
                  refine th_callv (va_runV (As := [.ref b]) (rest := []) ⟨hx, hb, hml, hown, hts⟩ (s6_readFilter l G y b0 σ_s_133 E hO a h_a b h_b T 0 (jt + 1) hT_138 (by omega) (by omega)) (cwV 1 hts gX5_readStep_X5_readFilter rfl rfl rfl (by decide +kernel) ⟨Nat.le_of_ble_eq_true rfl, Nat.le_of_ble_eq_true rfl⟩) (th_PV hK hH rfl hc_146) rfl rfl hl.1 rfl (lv_room (Nat.le_of_ble_eq_true rfl)) dX5_readStep_118 ⟨Nat.le_of_ble_eq_true rfl, Nat.le_of_ble_eq_true rfl⟩) hS (fun σ_s_148 H locs hw_147 hH hS => ?_)
                  obtain ⟨hO9, hF9, hw_147⟩ := hw_147
                  replace hO := hO9
                  replace hF := hF.tu hF9 (by decide)
                  replace hw_147 : ∃ c1 j1, TSt E σ_s_148 (ad E a 0) T c1 j1 ∧ ((0 : Int) ≠ 0 → c1 = 0 ∧ j1 = (jt + 1)) ∧ ((0 : Int) = 0 → (jt + 1) ≤ j1 ∧ (c1 = 0 → (jt + 1) < j1) ∧ GS T [(5, 40), (2, 0), (5, 41)] (jt + 1) (gI σ_s_133 b 13) [] c1 j1 (gI σ_s_148 b 13)) ∧ (c1 = 0 → 0 ≤ gI σ_s_148 b 13 ∧ gI σ_s_148 b 13 ≤ 12) ∧ (0 ≤ gI σ_s_133 b 3 ∧ gI σ_s_133 b 3 < 8 → gI σ_s_148 b 3 = gI σ_s_133 b 3 + 1) := hw_147
                  obtain ⟨cc_149, jj_150, hT_151, hw_147⟩ := hw_147
                  have hUhT_151 := hT_151.2.2
                  try replace hUhT_138 := hid.mk hUhT_138
                  try replace hw_132 := hid.mk hw_132
                  have hb_152 : (jt + 1) ≤ jj_150 := by omega
                  try have hb_153 : cc_149 = 0 → 0 ≤ gI σ_s_148 b 13 ∧ gI σ_s_148 b 13 ≤ 12 := by omega
                  obtain ⟨z_154, e_155, rz_154, lz_154, uz_154⟩ := hO.gi h_b (by decide) k4_3
                  obtain ⟨z_156, e_157, rz_156, lz_156, uz_156⟩ := hO.gi h_b (by decide) k4_13
                  have hq9 := (hw_147.2.1 rfl).1
                  have hQ9 := (hw_147.2.1 rfl).2.1
                  have hR9 := hw_147.2.2
                  have hG_158 := hy3.byFilter (c2 := cc_149) (j2 := jj_150) (t2 := gI σ_s_148 b 13) (by omega) (by omega) (by have h9 := (hw_147.2.1 rfl).2.2; rw [show gI σ b 13 = gI σ_s_133 b 13 by omega]; exact h9)
                  exact th_vret hx hb hr hlocks hH hS ⟨hO, hF, ⟨cc_149, jj_150, hT_151, by omega, by omega, hG_158.en (fun _ => by omega) (fun _ => by omega)⟩⟩ dX5_readStep_121
                · replace c_145 := (I_eq (a := z_5) (b := 91) rz_5 (show rng 91 from ⟨by decide, by decide⟩)).mp c_145
                  exfalso; omega
              · replace c_144 := (I_eq (a := z_5) (b := 258) rz_5 (show rng 258 from ⟨by decide, by decide⟩)).mp c_144
                exfalso; omega
            · replace c_143 := (I_eq (a := z_5) (b := 46) rz_5 (show rng 46 from ⟨by decide, by decide⟩)).mp c_143
              exfalso; omega
          · replace c_130 := mt (I_lt (a := b30) (b := 8) rb30 (show rng 8 from ⟨by decide, by decide⟩)).mpr c_130
            refine lv_aload_n hx hb dX5_readStep_53 rfl (lv_at hl 1 rfl) ?_
            refine ok.getR hO h_a (by decide) k11_0 (by decide) (fun _ _ he hv kk => th_get (ci := 5) (C := RX5) (T := TX5) (N := 1) hx hb hts inX5 hown hK hH he rfl 0 (by decide) fl0 hv dX5_readStep_54 kk) ?_
            refine lv_iconst (v := I 2) hx hb dX5_readStep_57 (by decide) ?_
            obtain ⟨_, hc_159⟩ := hO.cell hp_4 (by decide) (ci := 8) rfl
            refine th_callv (va_runV (As := [.int (I 2)]) (rest := []) ⟨hx, hb, hml, hown, hts⟩ (f_fail l G y b0 σ E hO (ad E a 0) hp_4 2 (show rng 2 from (show rng 2 from ⟨by decide, by decide⟩)) T 0 jt hT0 (by omega)) (cwV 1 hts gX5_readStep_X8_fail rfl rfl rfl (by decide +kernel) ⟨Nat.le_of_ble_eq_true rfl, Nat.le_of_ble_eq_true rfl⟩) (th_PV hK hH rfl hc_159) rfl rfl hl.1 rfl (lv_room (Nat.le_of_ble_eq_true rfl)) dX5_readStep_58 ⟨Nat.le_of_ble_eq_true rfl, Nat.le_of_ble_eq_true rfl⟩) hS (fun σ_s_161 H locs hw_160 hH hS => ?_)
            obtain ⟨hO9, hF9, hw_160⟩ := hw_160
            have e_162 : gI σ_s_161 b 3 = b30 := (fr.ki hO hF9 h_b (by decide) (by decide) _).trans eb30
            have e_163 : gI σ_s_161 b 13 = b130 := (fr.ki hO hF9 h_b (by decide) (by decide) _).trans eb130
            replace hO := hO9
            replace hF := hF.tu hF9 (by decide)
            replace hw_160 : ∃ c1 j1, TSt E σ_s_161 (ad E a 0) T c1 j1 ∧ j1 = jt ∧ ((0 : Int) = 0 → c1 = 2) ∧ ((0 : Int) ≠ 0 → c1 = 0) := hw_160
            obtain ⟨cc_164, jj_165, hT_166, hw_160⟩ := hw_160
            have hUhT_166 := hT_166.2.2
            try replace hU0 := hid.mk hU0
            have h0_167 : ¬ cc_164 = 0 := by omega
            try simp only [h0_167, ne_eq, not_true_eq_false, not_false_eq_true, false_implies, true_implies, true_and, and_true, eq_self, false_or, or_false, false_and, and_false] at hUhT_166
            have e_168 : gI σ_s_161 (ad E a 0) 6 = 260 := by omega
            have hj_169 : jt = jj_165 := by omega
            subst hj_169
            refine lv_goto (tgt := 121) hx hb dX5_readStep_61 (by decide) ?_
            have hG_170 := hy3.much (c2 := cc_164) (j2 := jt) (t2 := 0) (x := 0) (by omega) (by omega) (by omega) rfl
            exact th_vret hx hb hr hlocks hH hS ⟨hO, hF, ⟨cc_164, jt, hT_166, by omega, by omega, hG_170.en (fun _ => by omega) (fun _ => by omega)⟩⟩ dX5_readStep_121
        · replace c_129 := mt (I_eq (a := z_5) (b := 63) rz_5 (show rng 63 from ⟨by decide, by decide⟩)).mpr c_129
          refine lv_aload_n hx hb dX5_readStep_33 rfl (lv_at hl 1 rfl) ?_
          refine ok.getR hO h_a (by decide) k11_0 (by decide) (fun _ _ he hv kk => th_get (ci := 5) (C := RX5) (T := TX5) (N := 1) hx hb hts inX5 hown hK hH he rfl 0 (by decide) fl0 hv dX5_readStep_34 kk) ?_
          refine lv_iconst (v := I 1) hx hb dX5_readStep_37 (by decide) ?_
          obtain ⟨_, hc_171⟩ := hO.cell hp_4 (by decide) (ci := 8) rfl
          refine th_callv (va_runV (As := [.int (I 1)]) (rest := []) ⟨hx, hb, hml, hown, hts⟩ (f_fail l G y b0 σ E hO (ad E a 0) hp_4 1 (show rng 1 from (show rng 1 from ⟨by decide, by decide⟩)) T 0 jt hT0 (by omega)) (cwV 1 hts gX5_readStep_X8_fail rfl rfl rfl (by decide +kernel) ⟨Nat.le_of_ble_eq_true rfl, Nat.le_of_ble_eq_true rfl⟩) (th_PV hK hH rfl hc_171) rfl rfl hl.1 rfl (lv_room (Nat.le_of_ble_eq_true rfl)) dX5_readStep_38 ⟨Nat.le_of_ble_eq_true rfl, Nat.le_of_ble_eq_true rfl⟩) hS (fun σ_s_173 H locs hw_172 hH hS => ?_)
          obtain ⟨hO9, hF9, hw_172⟩ := hw_172
          have e_174 : gI σ_s_173 b 3 = b30 := (fr.ki hO hF9 h_b (by decide) (by decide) _).trans eb30
          have e_175 : gI σ_s_173 b 13 = b130 := (fr.ki hO hF9 h_b (by decide) (by decide) _).trans eb130
          replace hO := hO9
          replace hF := hF.tu hF9 (by decide)
          replace hw_172 : ∃ c1 j1, TSt E σ_s_173 (ad E a 0) T c1 j1 ∧ j1 = jt ∧ ((0 : Int) = 0 → c1 = 1) ∧ ((0 : Int) ≠ 0 → c1 = 0) := hw_172
          obtain ⟨cc_176, jj_177, hT_178, hw_172⟩ := hw_172
          have hUhT_178 := hT_178.2.2
          try replace hU0 := hid.mk hU0
          have h0_179 : ¬ cc_176 = 0 := by omega
          try simp only [h0_179, ne_eq, not_true_eq_false, not_false_eq_true, false_implies, true_implies, true_and, and_true, eq_self, false_or, or_false, false_and, and_false] at hUhT_178
          have e_180 : gI σ_s_173 (ad E a 0) 6 = 260 := by omega
          have hj_181 : jt = jj_177 := by omega
          subst hj_181
          refine lv_goto (tgt := 121) hx hb dX5_readStep_41 (by decide) ?_
          have hG_182 := hy3.cant (c2 := cc_176) (j2 := jt) (t2 := 0) (x := 0) (by omega) (by omega) rfl
          exact th_vret hx hb hr hlocks hH hS ⟨hO, hF, ⟨cc_176, jt, hT_178, by omega, by omega, hG_182.en (fun _ => by omega) (fun _ => by omega)⟩⟩ dX5_readStep_121

set_option maxHeartbeats 20000000 in
set_option maxRecDepth 100000 in
theorem s6_read (l : Launch) (G : va_G) (y : Nat → ClassId) (b0 : Nat) (σ : th_M) (E : th_E) (hO : ok y E σ) (a : Nat) (h_a : kd E a = 11) (q : Nat) (h_q : kd E q = 12) (n : Int) (rn : rng n) (b : Nat) (h_b : kd E b = 4) (Bq : Int → Int) (hy0 : 0 ≤ n ∧ n ≤ 400) (hy1 : ∀ k : Int, 0 ≤ k → k < n → (aF σ (ad E q 0) k.toNat).toInt = Bq k) (hy2 : ∀ k, n ≤ k → Bq k = -1) (hy3 : byt Bq) (hy4 : ∀ k, 0 ≤ k → k < n → 0 ≤ Bq k) : Met l yX5_read wsX5_read ({ frames := 51, cells := 0, slots := 0, locals := 1979 }) (th_P G y b0 σ [.ref a, .ref (ad E q 0), .int (I n), .ref b]) (th_Qi G b0 (fun r σ1 => ok y E σ1 ∧ fr [3, 4] E σ σ1 ∧ (∃ T, tkSt Bq T ∧ PthR T r (gI σ1 (ad E a 0) 8)))) 0 0 (th_A b0) := by
  refine Met.ofW (cc := cX5_read) (maxL := 5) (ret := (some .int)) (by decide) rfl ?_
  intro p e s m args below meth c s₁ B hml hv
  obtain ⟨rfl, hH, hK⟩ := hv
  have hx := B.exec
  have hb := B.bytes
  have hr := B.returns
  have hts := atoms_spec (ws := wsX5_read) B.pre
  have hown : s.vm.findClass RX5 = some m.cls := findClass_of_methodNamed B.named
  have hlocks := B.notSynchronized
  have h00 : b0 ≤ s.heap.size := hH.1
  have hS : va_S (th_A b0) s.heap s.heap [] := va_S.rf
  have hF : fr [3, 4] E σ σ := fr.rf
  have inX5 : ∀ w ∈ wsX50, w ∈ wsX5_read := by decide +kernel
  have inX8 : ∀ w ∈ wsX80, w ∈ wsX5_read := by decide +kernel
  have fl0 := hts (.fieldLink RX5 9 "NestQuery$PathReader" "tokens" "LNestQuery$Tokens;") (by decide +kernel)
  have hl := lv_entry ([.ref a, .ref (ad E q 0), .int (I n), .ref b]) (n := 5) (Nat.le_of_ble_eq_true rfl)
  rw [lg_entry_eq]
  generalize (lg_sl ([.ref a, .ref (ad E q 0), .int (I n), .ref b]) ++ List.replicate (5 - (lg_sl ([.ref a, .ref (ad E q 0), .int (I n), .ref b])).length) Slot.unset).toArray = ls at hl ⊢
  have hl : lv_has ls 5 [(0, .ref a), (1, .ref (ad E q 0)), (2, .int (I n)), (3, .ref b)] := hl
  have hkt : kd E (ad E a 0) = 3 := ok.pk hO h_a (by decide) k11_0 rfl
  refine lv_aload_n hx hb dX5_read_0 rfl (lv_at hl 0 rfl) ?_
  have hp_1 : kd E (ad E a 0) = 3 := ok.pk hO h_a (by decide) k11_0 rfl
  refine ok.getR hO h_a (by decide) k11_0 (by decide) (fun _ _ he hv kk => th_get (ci := 5) (C := RX5) (T := TX5) (N := 1) hx hb hts inX5 hown hK hH he rfl 0 (by decide) fl0 hv dX5_read_1 kk) ?_
  refine lv_aload_n hx hb dX5_read_4 rfl (lv_at hl 1 rfl) ?_
  refine lv_iload_n hx hb dX5_read_5 rfl (lv_at hl 2 rfl) ?_
  obtain ⟨_, hc_2⟩ := hO.cell hp_1 (by decide) (ci := 8) rfl
  refine th_callv (va_runV (As := [.ref (ad E q 0), .int (I n)]) (rest := []) ⟨hx, hb, hml, hown, hts⟩ (f_begin l G y b0 σ E hO (ad E a 0) hp_1 q h_q n (show rng n from rn) Bq (by omega) (hy1) (hy2) (hy3) (hy4)) (cwV 2 hts gX5_read_X8_begin rfl rfl rfl (by decide +kernel) ⟨Nat.le_of_ble_eq_true rfl, Nat.le_of_ble_eq_true rfl⟩) (th_PV hK hH rfl hc_2) rfl rfl hl.1 rfl (lv_room (Nat.le_of_ble_eq_true rfl)) dX5_read_6 ⟨Nat.le_of_ble_eq_true rfl, Nat.le_of_ble_eq_true rfl⟩) hS (fun σ_s_4 H locs hw_3 hH hS => ?_)
  obtain ⟨hO9, hF9, hw_3⟩ := hw_3
  replace hO := hO9
  replace hF := hF.tu hF9 (by decide)
  replace hw_3 : ∃ T, TSt E σ_s_4 (ad E a 0) T 0 0 ∧ tkSt Bq T := hw_3
  obtain ⟨T, hT_5, hw_3⟩ := hw_3
  have hUhT_5 := hT_5.2.2
  try simp only [ne_eq, not_true_eq_false, not_false_eq_true, false_implies, true_implies, true_and, and_true, eq_self, false_or, or_false, false_and, and_false] at hUhT_5
  have e_6 : gI σ_s_4 (ad E a 0) 7 = 0 := by omega
  have hk_7 : gI σ_s_4 (ad E a 0) 6 = tK T 0 := by omega
  refine lv_aload_n hx hb dX5_read_9 rfl (lv_at hl 3 rfl) ?_
  obtain ⟨_, hc_8⟩ := hO.cell h_b (by decide) (ci := 4) rfl
  refine th_callv (va_runV (As := []) (rest := []) ⟨hx, hb, hml, hown, hts⟩ (p6_clear l G y b0 σ_s_4 E hO b h_b) (cwV 0 hts gX5_read_X4_clear rfl rfl rfl (by decide +kernel) ⟨Nat.le_of_ble_eq_true rfl, Nat.le_of_ble_eq_true rfl⟩) (th_PV hK hH rfl hc_8) rfl rfl hl.1 rfl (lv_room (Nat.le_of_ble_eq_true rfl)) dX5_read_10 ⟨Nat.le_of_ble_eq_true rfl, Nat.le_of_ble_eq_true rfl⟩) hS (fun σ_s_10 H locs hw_9 hH hS => ?_)
  obtain ⟨hO9, hF9, hw_9⟩ := hw_9
  have e_11 : gI σ_s_10 (ad E a 0) 7 = 0 := (fr.ki hO hF9 hkt (by decide) (by decide) _).trans e_6
  have hT_12 : TSt E σ_s_10 (ad E a 0) T 0 0 := TSt.mv hO hF9 hkt (by decide) hT_5
  have hUhT_12 := hT_12.2.2
  replace hO := hO9
  replace hF := hF.tu hF9 (by decide)
  replace hw_9 : gI σ_s_10 b 3 = 0 ∧ gI σ_s_10 b 13 = 0 := hw_9
  try replace hUhT_5 := hid.mk hUhT_5
  try replace hw_3 := hid.mk hw_3
  try simp only [ne_eq, not_true_eq_false, not_false_eq_true, false_implies, true_implies, true_and, and_true, eq_self, false_or, or_false, false_and, and_false] at hUhT_12
  have e_13 : gI σ_s_10 (ad E a 0) 7 = 0 := by omega
  have hk_14 : gI σ_s_10 (ad E a 0) 6 = tK T 0 := by omega
  obtain ⟨z_15, e_16, rz_15, lz_15, uz_15⟩ := hO.gi h_b (by decide) k4_3
  obtain ⟨z_17, e_18, rz_17, lz_17, uz_17⟩ := hO.gi h_b (by decide) k4_13
  have hG_19 := (GP.start (T := T)).en (t2 := gI σ_s_10 b 13) (n2 := gI σ_s_10 b 3) (fun _ => by omega) (fun _ => by omega)
  refine lv_iconst (v := I 0) hx hb dX5_read_13 (by decide) ?_
  refine lv_istore (lv' := [(4, .int (I 0)), (0, .ref a), (1, .ref (ad E q 0)), (2, .int (I n)), (3, .ref b)]) hx hb dX5_read_14 hl (by decide) rfl (fun ls hl => ?_)
  replace hl : lv_has ls 5 [(4, .int (I 0)), (0, .ref a), (3, .ref b)] := lv_sub hl [0, 1, 4] rfl
  refine th_loop (α := Int × Int) (pc := 16) (fun x9 => (tm T - x9.2).toNat) (fun x9 σ9 H9 l9 ls9 => ok y E σ9 ∧ fr [3, 4] E σ σ9 ∧ th_H G b0 σ9 H9 ∧ va_S (th_A b0) s.heap H9 l9 ∧ lv_has ls9 5 [(0, .ref a), (3, .ref b), (4, .int (I x9.1))] ∧ rng x9.1 ∧ (0 ≤ x9.1) ∧ (x9.1 ≤ 400) ∧ (x9.1 ≤ x9.2) ∧ (0 ≤ gI σ9 b 13 ∧ gI σ9 b 13 ≤ 12) ∧ (0 ≤ gI σ9 b 3 ∧ gI σ9 b 3 ≤ 8) ∧ (TSt E σ9 (ad E a 0) T 0 x9.2) ∧ (GP T 0 x9.2 (gI σ9 b 13) (gI σ9 b 3))) ?_ (0, 0) σ_s_10 _ _ _ ⟨hO, hF, hH, hS, lv_sub hl [1, 2, 0] rfl, (show rng 0 from ⟨by decide, by decide⟩), by first | (dsimp only; omega) | omega, by first | (dsimp only; omega) | omega, by first | (dsimp only; omega) | omega, by first | (dsimp only; omega) | omega, by first | (dsimp only; omega) | omega, hT_12, (hG_19.en (fun _ => by omega) (fun _ => by omega))⟩
  intro x9 σ_J_66 H locs ls hI9 ihJ_66
  obtain ⟨v4q65, jqq64⟩ := x9
  obtain ⟨hO, hF, hH, hS, hl, rv4q65, J_66_0, J_66_1, J_66_2, J_66_3, J_66_4, J_66_5, J_66_6⟩ := hI9
  replace hl : lv_has ls 5 [(0, .ref a), (3, .ref b), (4, .int (I v4q65))] := hl
  replace rv4q65 : rng v4q65 := rv4q65
  replace J_66_0 : 0 ≤ v4q65 := J_66_0
  replace J_66_1 : v4q65 ≤ 400 := J_66_1
  replace J_66_2 : v4q65 ≤ jqq64 := J_66_2
  replace J_66_3 : 0 ≤ gI σ_J_66 b 13 ∧ gI σ_J_66 b 13 ≤ 12 := J_66_3
  replace J_66_4 : 0 ≤ gI σ_J_66 b 3 ∧ gI σ_J_66 b 3 ≤ 8 := J_66_4
  replace J_66_5 : TSt E σ_J_66 (ad E a 0) T 0 jqq64 := J_66_5
  replace J_66_6 : GP T 0 jqq64 (gI σ_J_66 b 13) (gI σ_J_66 b 3) := J_66_6
  try replace hUhT_12 := hid.mk hUhT_12
  try replace hw_9 := hid.mk hw_9
  have hUJ_66_5 := J_66_5.2.2
  have hfJ_66_5 := J_66_5.2.1 jqq64 (by have h9 := hUJ_66_5; omega) (by have h9 := hUJ_66_5; omega)
  try simp only [ne_eq, not_true_eq_false, not_false_eq_true, false_implies, true_implies, true_and, and_true, eq_self, false_or, or_false, false_and, and_false] at hUJ_66_5
  have e_67 : gI σ_J_66 (ad E a 0) 7 = 0 := by omega
  have hk_68 : gI σ_J_66 (ad E a 0) 6 = tK T jqq64 := by omega
  obtain ⟨z_69, e_70, rz_69, lz_69, uz_69⟩ := hO.gi h_b (by decide) k4_3
  obtain ⟨z_71, e_72, rz_71, lz_71, uz_71⟩ := hO.gi h_b (by decide) k4_13
  refine lv_aload_n hx hb dX5_read_16 rfl (lv_at hl 0 rfl) ?_
  refine ok.getR hO h_a (by decide) k11_0 (by decide) (fun _ _ he hv kk => th_get (ci := 5) (C := RX5) (T := TX5) (N := 1) hx hb hts inX5 hown hK hH he rfl 0 (by decide) fl0 hv dX5_read_17 kk) ?_
  refine ok.getIc hO hp_1 (by decide) k3_7 e_67 (fun _ _ he hv kk => th_getN (ci := 8) (C := RX8) (T := TX8) (N := 9) hx hb hts inX8 hown hK hH he rfl 7 (by decide) (nl_6 hK) hv dX5_read_20 kk) ?_
  refine lv_if_ne (tgt := 58) hx hb dX5_read_23 (by decide) (fun c_73 => absurd (by decide) c_73) (fun _ => ?_)
  refine lv_aload_n hx hb dX5_read_26 rfl (lv_at hl 0 rfl) ?_
  refine ok.getR hO h_a (by decide) k11_0 (by decide) (fun _ _ he hv kk => th_get (ci := 5) (C := RX5) (T := TX5) (N := 1) hx hb hts inX5 hown hK hH he rfl 0 (by decide) fl0 hv dX5_read_27 kk) ?_
  refine ok.getI hO hp_1 (by decide) k3_6 (fun _ _ he hv kk => th_getN (ci := 8) (C := RX8) (T := TX8) (N := 9) hx hb hts inX8 hown hK hH he rfl 6 (by decide) (nl_5 hK) hv dX5_read_30 kk) (fun z_74 e_75 rz_74 lz_74 uz_74 => ?_)
  refine lv_sipush (v := I 259) hx hb dX5_read_33 (by decide) ?_
  refine lv_icmp_eq (tgt := 58) hx hb dX5_read_36 (by decide) (fun c_76 => ?_) (fun c_76 => ?_)
  · replace c_76 := (I_eq (a := z_74) (b := 259) rz_74 (show rng 259 from ⟨by decide, by decide⟩)).mp c_76
    refine lv_aload_n hx hb dX5_read_58 rfl (lv_at hl 0 rfl) ?_
    refine ok.getR hO h_a (by decide) k11_0 (by decide) (fun _ _ he hv kk => th_get (ci := 5) (C := RX5) (T := TX5) (N := 1) hx hb hts inX5 hown hK hH he rfl 0 (by decide) fl0 hv dX5_read_59 kk) ?_
    refine ok.getIc hO hp_1 (by decide) k3_7 e_67 (fun _ _ he hv kk => th_getN (ci := 8) (C := RX8) (T := TX8) (N := 9) hx hb hts inX8 hown hK hH he rfl 7 (by decide) (nl_6 hK) hv dX5_read_62 kk) ?_
    exact th_iret hx hb hr hlocks hH hS (z := 0) (show rng 0 from ⟨by decide, by decide⟩) ⟨hO, hF, ⟨T, hw_3, GPe.fin (GPe.of J_66_6) (fun _ => by omega) (show (0 : Int) = 0 by omega) (by omega)⟩⟩ dX5_read_65
  · replace c_76 := mt (I_eq (a := z_74) (b := 259) rz_74 (show rng 259 from ⟨by decide, by decide⟩)).mpr c_76
    refine lv_iload hx hb dX5_read_39 (lv_at hl 2 rfl) ?_
    refine lv_sipush (v := I 400) hx hb dX5_read_41 (by decide) ?_
    refine lv_icmp_ge (tgt := 58) hx hb dX5_read_44 (by decide) (fun c_77 => ?_) (fun c_77 => ?_)
    · replace c_77 := (I_le (a := 400) (b := v4q65) (show rng 400 from ⟨by decide, by decide⟩) rv4q65).mp c_77
      exfalso; omega
    · replace c_77 := mt (I_le (a := 400) (b := v4q65) (show rng 400 from ⟨by decide, by decide⟩) rv4q65).mpr c_77
      refine lv_aload_n hx hb dX5_read_47 rfl (lv_at hl 0 rfl) ?_
      refine lv_aload_n hx hb dX5_read_48 rfl (lv_at hl 1 rfl) ?_
      obtain ⟨_, hc_78⟩ := hO.cell h_a (by decide) (ci := 5) rfl
      refine th_callv (va_runV (As := [.ref b]) (rest := []) ⟨hx, hb, hml, hown, hts⟩ (s6_readStep l G y b0 σ_J_66 E hO a h_a b h_b T 0 jqq64 J_66_5 (by omega) (by omega) (by omega) (J_66_6)) (cwV 1 hts gX5_read_X5_readStep rfl rfl rfl (by decide +kernel) ⟨Nat.le_of_ble_eq_true rfl, Nat.le_of_ble_eq_true rfl⟩) (th_PV hK hH rfl hc_78) rfl rfl hl.1 rfl (lv_room (Nat.le_of_ble_eq_true rfl)) dX5_read_49 ⟨Nat.le_of_ble_eq_true rfl, Nat.le_of_ble_eq_true rfl⟩) hS (fun σ_s_80 H locs hw_79 hH hS => ?_)
      obtain ⟨hO9, hF9, hw_79⟩ := hw_79
      replace hO := hO9
      replace hF := hF.tu hF9 (by decide)
      replace hw_79 : ∃ c1 j1, TSt E σ_s_80 (ad E a 0) T c1 j1 ∧ jqq64 ≤ j1 ∧ (c1 = 0 → jqq64 < j1 ∧ 0 ≤ gI σ_s_80 b 13 ∧ gI σ_s_80 b 13 ≤ 12) ∧ GP T c1 j1 (gI σ_s_80 b 13) (gI σ_s_80 b 3) := hw_79
      obtain ⟨cc_81, jj_82, hT_83, hw_79⟩ := hw_79
      have hUhT_83 := hT_83.2.2
      try replace hUJ_66_5 := hid.mk hUJ_66_5
      obtain ⟨z_84, e_85, rz_84, lz_84, uz_84⟩ := hO.gi h_b (by decide) k4_3
      obtain ⟨z_86, e_87, rz_86, lz_86, uz_86⟩ := hO.gi h_b (by decide) k4_13
      rcases Classical.em (cc_81 = 0) with h0_88 | h0_88
      · subst h0_88
        try simp only [ne_eq, not_true_eq_false, not_false_eq_true, false_implies, true_implies, true_and, and_true, eq_self, false_or, or_false, false_and, and_false] at hUhT_83
        have e_89 : gI σ_s_80 (ad E a 0) 7 = 0 := by omega
        have hk_90 : gI σ_s_80 (ad E a 0) 6 = tK T jj_82 := by omega
        have hqhw_79 := hw_79.1
        have hQhw_79 := hw_79.2.1
        have hG_91 := hw_79.2.2
        try replace hw_79 := hid.mk hw_79
        refine lv_iinc (v := I (v4q65 + 1)) (lv' := [(4, .int (I (v4q65 + 1))), (0, .ref a), (3, .ref b)]) hx hb dX5_read_52 hl (k := 2) rfl (I_add _ _) (by decide) rfl (fun ls hl => ?_)
        refine lv_goto (tgt := 16) hx hb dX5_read_55 (by decide) ?_
        exact ihJ_66 (v4q65 + 1, jj_82) σ_s_80 _ _ _ (by first | (dsimp only; omega) | omega) ⟨hO, hF, hH, hS, lv_sub hl [1, 2, 0] rfl, ⟨by first | (dsimp only; omega) | omega, by first | (dsimp only; omega) | omega⟩, by first | (dsimp only; omega) | omega, by first | (dsimp only; omega) | omega, by first | (dsimp only; omega) | omega, by first | (dsimp only; omega) | omega, by first | (dsimp only; omega) | omega, hT_83, (hG_91.en (fun _ => by omega) (fun _ => by omega))⟩
      · try simp only [h0_88, ne_eq, not_true_eq_false, not_false_eq_true, false_implies, true_implies, true_and, and_true, eq_self, false_or, or_false, false_and, and_false] at hUhT_83
        have e_92 : gI σ_s_80 (ad E a 0) 6 = 260 := by omega
        have hqhw_79 := hw_79.1
        have hQhw_79 := hw_79.2.1
        have hG_93 := hw_79.2.2
        try replace hw_79 := hid.mk hw_79
        refine lv_iinc (v := I (v4q65 + 1)) (lv' := [(4, .int (I (v4q65 + 1))), (0, .ref a), (3, .ref b)]) hx hb dX5_read_52 hl (k := 2) rfl (I_add _ _) (by decide) rfl (fun ls hl => ?_)
        refine lv_goto (tgt := 16) hx hb dX5_read_55 (by decide) ?_
        refine lv_aload_n hx hb dX5_read_16 rfl (lv_at hl 1 rfl) ?_
        refine ok.getR hO h_a (by decide) k11_0 (by decide) (fun _ _ he hv kk => th_get (ci := 5) (C := RX5) (T := TX5) (N := 1) hx hb hts inX5 hown hK hH he rfl 0 (by decide) fl0 hv dX5_read_17 kk) ?_
        refine ok.getI hO hp_1 (by decide) k3_7 (fun _ _ he hv kk => th_getN (ci := 8) (C := RX8) (T := TX8) (N := 9) hx hb hts inX8 hown hK hH he rfl 7 (by decide) (nl_6 hK) hv dX5_read_20 kk) (fun z_94 e_95 rz_94 lz_94 uz_94 => ?_)
        refine lv_if_ne (tgt := 58) hx hb dX5_read_23 (by decide) (fun c_96 => ?_) (fun c_96 => ?_)
        · replace c_96 := mt (I_eq (a := z_94) (b := 0) rz_94 (show rng 0 from ⟨by decide, by decide⟩)).mpr c_96
          refine lv_aload_n hx hb dX5_read_58 rfl (lv_at hl 1 rfl) ?_
          refine ok.getR hO h_a (by decide) k11_0 (by decide) (fun _ _ he hv kk => th_get (ci := 5) (C := RX5) (T := TX5) (N := 1) hx hb hts inX5 hown hK hH he rfl 0 (by decide) fl0 hv dX5_read_59 kk) ?_
          refine ok.getIc hO hp_1 (by decide) k3_7 e_95 (fun _ _ he hv kk => th_getN (ci := 8) (C := RX8) (T := TX8) (N := 9) hx hb hts inX8 hown hK hH he rfl 7 (by decide) (nl_6 hK) hv dX5_read_62 kk) ?_
          exact th_iret hx hb hr hlocks hH hS (z := z_94) rz_94 ⟨hO, hF, ⟨T, hw_3, GPe.fin (GPe.of hG_93) (fun h9 => absurd h9 h0_88) (show z_94 = cc_81 by omega) (by omega)⟩⟩ dX5_read_65
        · replace c_96 := (I_eq (a := z_94) (b := 0) rz_94 (show rng 0 from ⟨by decide, by decide⟩)).mp c_96
          exfalso; omega
