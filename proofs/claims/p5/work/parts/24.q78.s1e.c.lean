set_option maxHeartbeats 4000000 in
set_option maxRecDepth 100000 in
theorem n_readWord (l : Launch) (G : va_G) (y : Nat → ClassId) (b0 : Nat) (σ : th_M) (E : th_E) (hO : ok y E σ) (a : Nat) (h_a : kd E a = 13) (Bf : Int → Int) (hsr : sr E σ a Bf) (T : tkT) (hSt : tkSt Bf T) (fc jt : Int) (hR0 : RSt σ a T fc jt) (hy0 : 0 ≤ gI σ a 17 ∧ gI σ a 17 ≤ gI σ a 13 ∧ gI σ a 13 ≤ gI σ a 11 ∧ gI σ a 11 ≤ 400) : Met l yX11_readWord wsX11_readWord ({ frames := 3, cells := 0, slots := 0, locals := 90 }) (th_P G y b0 σ [.ref a]) (th_Qi G b0 (fun r σ1 => ok y E σ1 ∧ fr [13] E σ σ1 ∧ fm [13, 14, 15, 16, 17, 18, 19, 20] E σ σ1 a ∧ (((gI σ a 13 ≤ gI σ1 a 13 ∧ gI σ1 a 13 ≤ gI σ a 11 ∧ 0 ≤ gI σ1 a 17 ∧ gI σ1 a 17 ≤ gI σ1 a 13) ∧ pgo (gI σ1 a 19) (gI σ1 a 14) (gI σ a 13) (gI σ1 a 13) ∧ bdo (gI σ a 19) (gI σ1 a 19)) ∧ ∃ c1 j1, RSt σ1 a T c1 j1 ∧ ((fc ≠ 0 → c1 = fc ∧ j1 = jt) ∧ (fc = 0 → (tK T jt ≠ 256 ∧ c1 = 1 ∧ j1 = jt) ∨ (tK T jt = 256 ∧ 6 < tL T jt ∧ c1 = 2 ∧ j1 = jt) ∨ (tK T jt = 256 ∧ tL T jt ≤ 6 ∧ c1 = 0 ∧ j1 = jt + 1 ∧ r = tV T jt)))))) 0 0 (th_A b0) := by
  refine Met.ofW (cc := cX11_readWord) (maxL := 2) (ret := (some .int)) (by decide) rfl ?_
  intro p e s m args below meth c s₁ B hml hv
  obtain ⟨rfl, hH, hK⟩ := hv
  have hx := B.exec
  have hb := B.bytes
  have hr := B.returns
  have hts := atoms_spec (ws := wsX11_readWord) B.pre
  have hown : s.vm.findClass RX11 = some m.cls := findClass_of_methodNamed B.named
  have hlocks := B.notSynchronized
  have h00 : b0 ≤ s.heap.size := hH.1
  have hS : va_S (th_A b0) s.heap s.heap [] := va_S.rf
  have hF : fr [13] E σ σ := fr.rf
  have hM : fm [13, 14, 15, 16, 17, 18, 19, 20] E σ σ a := fm.rf
  have hl := lv_entry ([.ref a]) (n := 2) (Nat.le_of_ble_eq_true rfl)
  rw [lg_entry_eq]
  generalize (lg_sl ([.ref a]) ++ List.replicate (2 - (lg_sl ([.ref a])).length) Slot.unset).toArray = ls at hl ⊢
  have hl : lv_has ls 2 [(0, .ref a)] := hl
  obtain ⟨a110, ea110, ra110, la110, ua110⟩ := hO.gi h_a (by decide) k13_11
  obtain ⟨a130, ea130, ra130, la130, ua130⟩ := hO.gi h_a (by decide) k13_13
  obtain ⟨a140, ea140, ra140, la140, ua140⟩ := hO.gi h_a (by decide) k13_14
  obtain ⟨a170, ea170, ra170, la170, ua170⟩ := hO.gi h_a (by decide) k13_17
  obtain ⟨a190, ea190, ra190, la190, ua190⟩ := hO.gi h_a (by decide) k13_19
  have hV0 := hR0.1
  rcases Classical.em (fc = 0) with h0_1 | h0_1
  · try simp only [h0_1, ne_eq, not_true_eq_false, not_false_eq_true, false_implies, true_implies, true_and, and_true, eq_self, false_or, or_false, false_and, and_false] at hV0
    refine lv_aload_n hx hb dX11_readWord_0 rfl (lv_at hl 0 rfl) ?_
    obtain ⟨_, hc_2⟩ := hO.cell h_a (by decide) (ci := 11) rfl
    refine th_calli (va_runV (As := []) (rest := []) ⟨hx, hb, hml, hown, hts⟩ (n_wordNow l G y b0 σ E hO a h_a Bf hsr T hSt fc jt hR0 (by omega)) (cwV 0 hts gX11_readWord_X11_wordNow rfl rfl rfl (by decide +kernel) ⟨Nat.le_of_ble_eq_true rfl, Nat.le_of_ble_eq_true rfl⟩) (th_PV hK hH rfl hc_2) rfl rfl hl.1 rfl (lv_room (Nat.le_of_ble_eq_true rfl)) dX11_readWord_1 ⟨Nat.le_of_ble_eq_true rfl, Nat.le_of_ble_eq_true rfl⟩) hS (fun z_5 σ_s_4 H locs rz_5 hw_3 hH hS => ?_)
    obtain ⟨hO9, hF9, hM9, hw_3⟩ := hw_3
    replace hM := hM.tu hM9 (by decide)
    replace hF := hF.tu hF9 (by decide)
    have e_6 : gI σ_s_4 a 11 = a110 := (hM9.i (by decide)).trans ea110
    have e_7 : gI σ_s_4 a 13 = a130 := (hM9.i (by decide)).trans ea130
    have e_8 : gI σ_s_4 a 14 = a140 := (hM9.i (by decide)).trans ea140
    have e_9 : gI σ_s_4 a 17 = a170 := (hM9.i (by decide)).trans ea170
    replace hsr := hsr.mv hM9 (by decide) (by decide) (by decide) (by decide) (by decide)
    replace hO := hO9
    replace hw_3 : (bdo (gI σ a 19) (gI σ_s_4 a 19)) ∧ ∃ c1 j1, RSt σ_s_4 a T c1 j1 ∧ (j1 = jt ∧ (fc ≠ 0 → c1 = fc) ∧ (fc = 0 → (tK T jt ≠ 256 ∧ c1 = 1) ∨ (tK T jt = 256 ∧ 6 < tL T jt ∧ c1 = 2) ∨ (tK T jt = 256 ∧ tL T jt ≤ 6 ∧ c1 = 0 ∧ z_5 = tV T jt))) := hw_3
    simp only [pgo, bdo] at hw_3
    have hn_10 := hw_3.2
    replace hw_3 := hw_3.1
    obtain ⟨cc_11, jj_12, hR_13, hn_10⟩ := hn_10
    have hVhR_13 := hR_13.1
    have hj9 := hn_10.1.symm
    subst hj9
    try simp only [h0_1, ne_eq, not_true_eq_false, not_false_eq_true, false_implies, true_implies, true_and, and_true, eq_self, false_or, or_false, false_and, and_false] at hn_10
    rcases Classical.em (cc_11 = 0) with h0_14 | h0_14
    · try simp only [h0_14, ne_eq, not_true_eq_false, not_false_eq_true, false_implies, true_implies, true_and, and_true, eq_self, false_or, or_false, false_and, and_false] at hVhR_13
      refine lv_istore_n (lv' := [(1, .int (I z_5)), (0, .ref a)]) hx hb dX11_readWord_4 rfl hl (by decide) rfl (fun ls hl => ?_)
      refine lv_aload_n hx hb dX11_readWord_5 rfl (lv_at hl 1 rfl) ?_
      obtain ⟨_, hc_15⟩ := hO.cell h_a (by decide) (ci := 11) rfl
      refine th_callv (va_runV (As := []) (rest := []) ⟨hx, hb, hml, hown, hts⟩ (n_pass l G y b0 σ_s_4 E hO a h_a Bf hsr T hSt cc_11 jt hR_13 (by omega) (by omega)) (cwV 0 hts gX11_readWord_X11_pass rfl rfl rfl (by decide +kernel) ⟨Nat.le_of_ble_eq_true rfl, Nat.le_of_ble_eq_true rfl⟩) (th_PV hK hH rfl hc_15) rfl rfl hl.1 rfl (lv_room (Nat.le_of_ble_eq_true rfl)) dX11_readWord_6 ⟨Nat.le_of_ble_eq_true rfl, Nat.le_of_ble_eq_true rfl⟩) hS (fun σ_s_17 H locs hw_16 hH hS => ?_)
      obtain ⟨hO9, hF9, hM9, hw_16⟩ := hw_16
      replace hM := hM.tu hM9 (by decide)
      replace hF := hF.tu hF9 (by decide)
      have e_18 : gI σ_s_17 a 11 = a110 := (hM9.i (by decide)).trans e_6
      replace hsr := hsr.mv hM9 (by decide) (by decide) (by decide) (by decide) (by decide)
      replace hO := hO9
      replace hw_16 : ((gI σ_s_4 a 13 ≤ gI σ_s_17 a 13 ∧ gI σ_s_17 a 13 ≤ gI σ_s_4 a 11 ∧ 0 ≤ gI σ_s_17 a 17 ∧ gI σ_s_17 a 17 ≤ gI σ_s_17 a 13) ∧ pgo (gI σ_s_17 a 19) (gI σ_s_17 a 14) (gI σ_s_4 a 13) (gI σ_s_17 a 13) ∧ gI σ_s_17 a 19 = gI σ_s_4 a 19) ∧ ∃ c1 j1, RSt σ_s_17 a T c1 j1 ∧ (c1 = cc_11 ∧ (cc_11 ≠ 0 → j1 = jt) ∧ (cc_11 = 0 → j1 = jt + 1)) := hw_16
      simp only [pgo, bdo] at hw_16
      have hn_19 := hw_16.2
      replace hw_16 := hw_16.1
      obtain ⟨cc_20, jj_21, hR_22, hn_19⟩ := hn_19
      have hVhR_22 := hR_22.1
      try simp only [h0_14, ne_eq, not_true_eq_false, not_false_eq_true, false_implies, true_implies, true_and, and_true, eq_self, false_or, or_false, false_and, and_false] at hn_19
      have h0_23 : cc_20 = 0 := by omega
      try simp only [h0_23, ne_eq, not_true_eq_false, not_false_eq_true, false_implies, true_implies, true_and, and_true, eq_self, false_or, or_false, false_and, and_false] at hVhR_22
      refine lv_iload_n hx hb dX11_readWord_9 rfl (lv_at hl 0 rfl) ?_
      exact th_iret hx hb hr hlocks hH hS (z := z_5) rz_5 ⟨hO, hF, hM, ⟨⟨by omega, pgo.of (by omega), bdo.of (by omega)⟩, cc_20, jj_21, hR_22, by omega, by omega⟩⟩ dX11_readWord_10
    · try simp only [h0_14, ne_eq, not_true_eq_false, not_false_eq_true, false_implies, true_implies, true_and, and_true, eq_self, false_or, or_false, false_and, and_false] at hVhR_13
      refine lv_istore_n (lv' := [(1, .int (I z_5)), (0, .ref a)]) hx hb dX11_readWord_4 rfl hl (by decide) rfl (fun ls hl => ?_)
      refine lv_aload_n hx hb dX11_readWord_5 rfl (lv_at hl 1 rfl) ?_
      obtain ⟨_, hc_24⟩ := hO.cell h_a (by decide) (ci := 11) rfl
      refine th_callv (va_runV (As := []) (rest := []) ⟨hx, hb, hml, hown, hts⟩ (n_pass l G y b0 σ_s_4 E hO a h_a Bf hsr T hSt cc_11 jt hR_13 (by omega) (by omega)) (cwV 0 hts gX11_readWord_X11_pass rfl rfl rfl (by decide +kernel) ⟨Nat.le_of_ble_eq_true rfl, Nat.le_of_ble_eq_true rfl⟩) (th_PV hK hH rfl hc_24) rfl rfl hl.1 rfl (lv_room (Nat.le_of_ble_eq_true rfl)) dX11_readWord_6 ⟨Nat.le_of_ble_eq_true rfl, Nat.le_of_ble_eq_true rfl⟩) hS (fun σ_s_26 H locs hw_25 hH hS => ?_)
      obtain ⟨hO9, hF9, hM9, hw_25⟩ := hw_25
      replace hM := hM.tu hM9 (by decide)
      replace hF := hF.tu hF9 (by decide)
      have e_27 : gI σ_s_26 a 11 = a110 := (hM9.i (by decide)).trans e_6
      replace hsr := hsr.mv hM9 (by decide) (by decide) (by decide) (by decide) (by decide)
      replace hO := hO9
      replace hw_25 : ((gI σ_s_4 a 13 ≤ gI σ_s_26 a 13 ∧ gI σ_s_26 a 13 ≤ gI σ_s_4 a 11 ∧ 0 ≤ gI σ_s_26 a 17 ∧ gI σ_s_26 a 17 ≤ gI σ_s_26 a 13) ∧ pgo (gI σ_s_26 a 19) (gI σ_s_26 a 14) (gI σ_s_4 a 13) (gI σ_s_26 a 13) ∧ gI σ_s_26 a 19 = gI σ_s_4 a 19) ∧ ∃ c1 j1, RSt σ_s_26 a T c1 j1 ∧ (c1 = cc_11 ∧ (cc_11 ≠ 0 → j1 = jt) ∧ (cc_11 = 0 → j1 = jt + 1)) := hw_25
      simp only [pgo, bdo] at hw_25
      have hn_28 := hw_25.2
      replace hw_25 := hw_25.1
      obtain ⟨cc_29, jj_30, hR_31, hn_28⟩ := hn_28
      have hVhR_31 := hR_31.1
      try simp only [h0_14, ne_eq, not_true_eq_false, not_false_eq_true, false_implies, true_implies, true_and, and_true, eq_self, false_or, or_false, false_and, and_false] at hn_28
      have h0_32 : ¬ cc_29 = 0 := by omega
      try simp only [h0_32, ne_eq, not_true_eq_false, not_false_eq_true, false_implies, true_implies, true_and, and_true, eq_self, false_or, or_false, false_and, and_false] at hVhR_31
      refine lv_iload_n hx hb dX11_readWord_9 rfl (lv_at hl 0 rfl) ?_
      exact th_iret hx hb hr hlocks hH hS (z := z_5) rz_5 ⟨hO, hF, hM, ⟨⟨by omega, pgo.of (by omega), bdo.of (by omega)⟩, cc_29, jj_30, hR_31, by omega, by omega⟩⟩ dX11_readWord_10
  · try simp only [h0_1, ne_eq, not_true_eq_false, not_false_eq_true, false_implies, true_implies, true_and, and_true, eq_self, false_or, or_false, false_and, and_false] at hV0
    refine lv_aload_n hx hb dX11_readWord_0 rfl (lv_at hl 0 rfl) ?_
    obtain ⟨_, hc_33⟩ := hO.cell h_a (by decide) (ci := 11) rfl
    refine th_calli (va_runV (As := []) (rest := []) ⟨hx, hb, hml, hown, hts⟩ (n_wordNow l G y b0 σ E hO a h_a Bf hsr T hSt fc jt hR0 (by omega)) (cwV 0 hts gX11_readWord_X11_wordNow rfl rfl rfl (by decide +kernel) ⟨Nat.le_of_ble_eq_true rfl, Nat.le_of_ble_eq_true rfl⟩) (th_PV hK hH rfl hc_33) rfl rfl hl.1 rfl (lv_room (Nat.le_of_ble_eq_true rfl)) dX11_readWord_1 ⟨Nat.le_of_ble_eq_true rfl, Nat.le_of_ble_eq_true rfl⟩) hS (fun z_36 σ_s_35 H locs rz_36 hw_34 hH hS => ?_)
    obtain ⟨hO9, hF9, hM9, hw_34⟩ := hw_34
    replace hM := hM.tu hM9 (by decide)
    replace hF := hF.tu hF9 (by decide)
    have e_37 : gI σ_s_35 a 11 = a110 := (hM9.i (by decide)).trans ea110
    have e_38 : gI σ_s_35 a 13 = a130 := (hM9.i (by decide)).trans ea130
    have e_39 : gI σ_s_35 a 14 = a140 := (hM9.i (by decide)).trans ea140
    have e_40 : gI σ_s_35 a 17 = a170 := (hM9.i (by decide)).trans ea170
    replace hsr := hsr.mv hM9 (by decide) (by decide) (by decide) (by decide) (by decide)
    replace hO := hO9
    replace hw_34 : (bdo (gI σ a 19) (gI σ_s_35 a 19)) ∧ ∃ c1 j1, RSt σ_s_35 a T c1 j1 ∧ (j1 = jt ∧ (fc ≠ 0 → c1 = fc) ∧ (fc = 0 → (tK T jt ≠ 256 ∧ c1 = 1) ∨ (tK T jt = 256 ∧ 6 < tL T jt ∧ c1 = 2) ∨ (tK T jt = 256 ∧ tL T jt ≤ 6 ∧ c1 = 0 ∧ z_36 = tV T jt))) := hw_34
    simp only [pgo, bdo] at hw_34
    have hn_41 := hw_34.2
    replace hw_34 := hw_34.1
    obtain ⟨cc_42, jj_43, hR_44, hn_41⟩ := hn_41
    have hVhR_44 := hR_44.1
    have hj9 := hn_41.1.symm
    subst hj9
    try simp only [h0_1, ne_eq, not_true_eq_false, not_false_eq_true, false_implies, true_implies, true_and, and_true, eq_self, false_or, or_false, false_and, and_false] at hn_41
    have h0_45 : ¬ cc_42 = 0 := by omega
    try simp only [h0_45, ne_eq, not_true_eq_false, not_false_eq_true, false_implies, true_implies, true_and, and_true, eq_self, false_or, or_false, false_and, and_false] at hVhR_44
    refine lv_istore_n (lv' := [(1, .int (I z_36)), (0, .ref a)]) hx hb dX11_readWord_4 rfl hl (by decide) rfl (fun ls hl => ?_)
    refine lv_aload_n hx hb dX11_readWord_5 rfl (lv_at hl 1 rfl) ?_
    obtain ⟨_, hc_46⟩ := hO.cell h_a (by decide) (ci := 11) rfl
    refine th_callv (va_runV (As := []) (rest := []) ⟨hx, hb, hml, hown, hts⟩ (n_pass l G y b0 σ_s_35 E hO a h_a Bf hsr T hSt cc_42 jt hR_44 (by omega) (by omega)) (cwV 0 hts gX11_readWord_X11_pass rfl rfl rfl (by decide +kernel) ⟨Nat.le_of_ble_eq_true rfl, Nat.le_of_ble_eq_true rfl⟩) (th_PV hK hH rfl hc_46) rfl rfl hl.1 rfl (lv_room (Nat.le_of_ble_eq_true rfl)) dX11_readWord_6 ⟨Nat.le_of_ble_eq_true rfl, Nat.le_of_ble_eq_true rfl⟩) hS (fun σ_s_48 H locs hw_47 hH hS => ?_)
    obtain ⟨hO9, hF9, hM9, hw_47⟩ := hw_47
    replace hM := hM.tu hM9 (by decide)
    replace hF := hF.tu hF9 (by decide)
    have e_49 : gI σ_s_48 a 11 = a110 := (hM9.i (by decide)).trans e_37
    replace hsr := hsr.mv hM9 (by decide) (by decide) (by decide) (by decide) (by decide)
    replace hO := hO9
    replace hw_47 : ((gI σ_s_35 a 13 ≤ gI σ_s_48 a 13 ∧ gI σ_s_48 a 13 ≤ gI σ_s_35 a 11 ∧ 0 ≤ gI σ_s_48 a 17 ∧ gI σ_s_48 a 17 ≤ gI σ_s_48 a 13) ∧ pgo (gI σ_s_48 a 19) (gI σ_s_48 a 14) (gI σ_s_35 a 13) (gI σ_s_48 a 13) ∧ gI σ_s_48 a 19 = gI σ_s_35 a 19) ∧ ∃ c1 j1, RSt σ_s_48 a T c1 j1 ∧ (c1 = cc_42 ∧ (cc_42 ≠ 0 → j1 = jt) ∧ (cc_42 = 0 → j1 = jt + 1)) := hw_47
    simp only [pgo, bdo] at hw_47
    have hn_50 := hw_47.2
    replace hw_47 := hw_47.1
    obtain ⟨cc_51, jj_52, hR_53, hn_50⟩ := hn_50
    have hVhR_53 := hR_53.1
    try simp only [h0_45, ne_eq, not_true_eq_false, not_false_eq_true, false_implies, true_implies, true_and, and_true, eq_self, false_or, or_false, false_and, and_false] at hn_50
    have h0_54 : ¬ cc_51 = 0 := by omega
    try simp only [h0_54, ne_eq, not_true_eq_false, not_false_eq_true, false_implies, true_implies, true_and, and_true, eq_self, false_or, or_false, false_and, and_false] at hVhR_53
    refine lv_iload_n hx hb dX11_readWord_9 rfl (lv_at hl 0 rfl) ?_
    exact th_iret hx hb hr hlocks hH hS (z := z_36) rz_36 ⟨hO, hF, hM, ⟨⟨by omega, pgo.of (by omega), bdo.of (by omega)⟩, cc_51, jj_52, hR_53, by omega, by omega⟩⟩ dX11_readWord_10

set_option maxHeartbeats 4000000 in
set_option maxRecDepth 100000 in
theorem n_begin6 (l : Launch) (G : va_G) (y : Nat → ClassId) (b0 : Nat) (σ : th_M) (E : th_E) (hO : ok y E σ) (a : Nat) (h_a : kd E a = 13) (pl : Int) (rpl : rng pl) (l_pl : 0 ≤ pl) (u_pl : pl ≤ 0) (nn : Int) (rnn : rng nn) (l_nn : 0 ≤ nn) (u_nn : nn ≤ 400) (f6 : Nat → Int32) (ef6 : aF σ (ad E a 6) = f6) (T : tkT) (hSt : tkSt (byf f6 nn) T) : Met l yX11_beginText wsX11_beginText ({ frames := 2, cells := 0, slots := 0, locals := 66 }) (th_P G y b0 σ [.ref a, .ref (ad E a 6), .int (I pl), .int (I nn)]) (th_Qv G b0 (fun σ1 => ok y E σ1 ∧ fr [13] E σ σ1 ∧ fm [9, 10, 11, 13, 14, 15, 16, 17, 18, 19, 20] E σ σ1 a ∧ ∃ Bf, sr E σ1 a Bf ∧ ((gI σ1 a 11 = nn ∧ 0 ≤ gI σ1 a 17 ∧ gI σ1 a 17 ≤ gI σ1 a 13 ∧ gI σ1 a 13 ≤ gI σ1 a 11 ∧ gI σ1 a 19 = 0) ∧ Bf = byf f6 nn ∧ RSt σ1 a T 0 0))) 0 0 (th_A b0) := by
  refine Met.ofW (cc := cX11_beginText) (maxL := 4) (ret := none) (by decide) rfl ?_
  intro p e s m args below meth c s₁ B hml hv
  obtain ⟨rfl, hH, hK⟩ := hv
  have hx := B.exec
  have hb := B.bytes
  have hr := B.returns
  have hts := atoms_spec (ws := wsX11_beginText) B.pre
  have hown : s.vm.findClass RX11 = some m.cls := findClass_of_methodNamed B.named
  have hlocks := B.notSynchronized
  have h00 : b0 ≤ s.heap.size := hH.1
  have hS : va_S (th_A b0) s.heap s.heap [] := va_S.rf
  have hF : fr [13] E σ σ := fr.rf
  have hM : fm [9, 10, 11, 13, 14, 15, 16, 17, 18, 19, 20] E σ σ a := fm.rf
  have inX11 : ∀ w ∈ wsX110, w ∈ wsX11_beginText := by decide +kernel
  have fl0 := hts (.fieldLink RX11 120 "NestQueryModel" "source" "[I") (by decide +kernel)
  have fl1 := hts (.fieldLink RX11 123 "NestQueryModel" "from" "I") (by decide +kernel)
  have fl2 := hts (.fieldLink RX11 117 "NestQueryModel" "textSize" "I") (by decide +kernel)
  have fl3 := hts (.fieldLink RX11 126 "NestQueryModel" "at" "I") (by decide +kernel)
  have fl4 := hts (.fieldLink RX11 162 "NestQueryModel" "bad" "I") (by decide +kernel)
  have hl := lv_entry ([.ref a, .ref (ad E a 6), .int (I pl), .int (I nn)]) (n := 4) (Nat.le_of_ble_eq_true rfl)
  rw [lg_entry_eq]
  generalize (lg_sl ([.ref a, .ref (ad E a 6), .int (I pl), .int (I nn)]) ++ List.replicate (4 - (lg_sl ([.ref a, .ref (ad E a 6), .int (I pl), .int (I nn)])).length) Slot.unset).toArray = ls at hl ⊢
  have hl : lv_has ls 4 [(0, .ref a), (1, .ref (ad E a 6)), (2, .int (I pl)), (3, .int (I nn))] := hl
  refine lv_aload_n hx hb dX11_beginText_0 rfl (lv_at hl 0 rfl) ?_
  refine lv_aload_n hx hb dX11_beginText_1 rfl (lv_at hl 1 rfl) ?_
  refine ok.putS (j := 6) hO h_a (by decide) (fun _ he hl9 kk => th_put (ci := 11) (v := .ref (ad E a 6)) (ty := .array .int) (C := RX11) (T := TX11) (N := 66) hx hb hts inX11 tyX11 tyX11_ok nmX11 hown hK hH hS h00 he rfl 9 (by decide) fl0 rfl (by decide +kernel) rfl rfl hl9 dX11_beginText_2 kk) (fun σ_s_1 H locs hO hF9 hM9 hg9 ha9 hH hS => ?_)
  replace hM := hM.tu hM9 (by decide)
  replace hF := hF.tu hF9 (by decide)
  have e_2 : aF σ_s_1 (ad E a 6) = f6 := (hM9.a (by decide) (by decide)).trans ef6
  have es_3 := hg9
  refine lv_aload_n hx hb dX11_beginText_5 rfl (lv_at hl 0 rfl) ?_
  refine lv_iload_n hx hb dX11_beginText_6 rfl (lv_at hl 2 rfl) ?_
  refine ok.putJ hO h_a k13_10 rpl (by omega) (by omega) (fun _ he hl9 kk => th_put (ci := 11) (v := .int (I pl)) (ty := .int) (C := RX11) (T := TX11) (N := 66) hx hb hts inX11 tyX11 tyX11_ok nmX11 hown hK hH hS h00 he rfl 10 (by decide) fl1 rfl (by decide +kernel) rfl rfl hl9 dX11_beginText_7 kk) (fun σ_s_4 H locs hO hF9 hM9 hg9 ha9 hH hS => ?_)
  replace hM := hM.tu hM9 (by decide)
  replace hF := hF.tu hF9 (by decide)
  have e_5 : aF σ_s_4 (ad E a 6) = f6 := (hM9.a (by decide) (by decide)).trans e_2
  have e_6 : gV σ_s_4 a 9 = some (.ref (ad E a 6)) := (hM9.1 9 (by decide)).trans es_3
  have e_7 := hg9
  refine lv_aload_n hx hb dX11_beginText_10 rfl (lv_at hl 0 rfl) ?_
  refine lv_iload_n hx hb dX11_beginText_11 rfl (lv_at hl 3 rfl) ?_
  refine ok.putJ hO h_a k13_11 rnn (by omega) (by omega) (fun _ he hl9 kk => th_put (ci := 11) (v := .int (I nn)) (ty := .int) (C := RX11) (T := TX11) (N := 66) hx hb hts inX11 tyX11 tyX11_ok nmX11 hown hK hH hS h00 he rfl 11 (by decide) fl2 rfl (by decide +kernel) rfl rfl hl9 dX11_beginText_12 kk) (fun σ_s_8 H locs hO hF9 hM9 hg9 ha9 hH hS => ?_)
  replace hM := hM.tu hM9 (by decide)
  replace hF := hF.tu hF9 (by decide)
  have e_9 : aF σ_s_8 (ad E a 6) = f6 := (hM9.a (by decide) (by decide)).trans e_5
  have e_10 : gV σ_s_8 a 9 = some (.ref (ad E a 6)) := (hM9.1 9 (by decide)).trans e_6
  have e_11 : gI σ_s_8 a 10 = pl := (hM9.i (by decide)).trans e_7
  have e_12 := hg9
  refine lv_aload_n hx hb dX11_beginText_15 rfl (lv_at hl 0 rfl) ?_
  refine lv_iconst (v := I 0) hx hb dX11_beginText_16 (by decide) ?_
  refine ok.putJ hO h_a k13_13 (show rng 0 from ⟨by decide, by decide⟩) (by omega) (by omega) (fun _ he hl9 kk => th_put (ci := 11) (v := .int (I 0)) (ty := .int) (C := RX11) (T := TX11) (N := 66) hx hb hts inX11 tyX11 tyX11_ok nmX11 hown hK hH hS h00 he rfl 13 (by decide) fl3 rfl (by decide +kernel) rfl rfl hl9 dX11_beginText_17 kk) (fun σ_s_13 H locs hO hF9 hM9 hg9 ha9 hH hS => ?_)
  replace hM := hM.tu hM9 (by decide)
  replace hF := hF.tu hF9 (by decide)
  have e_14 : aF σ_s_13 (ad E a 6) = f6 := (hM9.a (by decide) (by decide)).trans e_9
  have e_15 : gV σ_s_13 a 9 = some (.ref (ad E a 6)) := (hM9.1 9 (by decide)).trans e_10
  have e_16 : gI σ_s_13 a 10 = pl := (hM9.i (by decide)).trans e_11
  have e_17 : gI σ_s_13 a 11 = nn := (hM9.i (by decide)).trans e_12
  have e_18 := hg9
  refine lv_aload_n hx hb dX11_beginText_20 rfl (lv_at hl 0 rfl) ?_
  refine lv_iconst (v := I 0) hx hb dX11_beginText_21 (by decide) ?_
  refine ok.putJ hO h_a k13_19 (show rng 0 from ⟨by decide, by decide⟩) (by omega) (by omega) (fun _ he hl9 kk => th_put (ci := 11) (v := .int (I 0)) (ty := .int) (C := RX11) (T := TX11) (N := 66) hx hb hts inX11 tyX11 tyX11_ok nmX11 hown hK hH hS h00 he rfl 19 (by decide) fl4 rfl (by decide +kernel) rfl rfl hl9 dX11_beginText_22 kk) (fun σ_s_19 H locs hO hF9 hM9 hg9 ha9 hH hS => ?_)
  replace hM := hM.tu hM9 (by decide)
  replace hF := hF.tu hF9 (by decide)
  have e_20 : aF σ_s_19 (ad E a 6) = f6 := (hM9.a (by decide) (by decide)).trans e_14
  have e_21 : gV σ_s_19 a 9 = some (.ref (ad E a 6)) := (hM9.1 9 (by decide)).trans e_15
  have e_22 : gI σ_s_19 a 10 = pl := (hM9.i (by decide)).trans e_16
  have e_23 : gI σ_s_19 a 11 = nn := (hM9.i (by decide)).trans e_17
  have e_24 : gI σ_s_19 a 13 = 0 := (hM9.i (by decide)).trans e_18
  have e_25 := hg9
  refine lv_aload_n hx hb dX11_beginText_25 rfl (lv_at hl 0 rfl) ?_
  obtain ⟨Bf, hsr, hBf⟩ := sr_mk6 e_21 (by omega) e_23 (by omega) (by omega)
  have hSt9 : tkSt Bf T := by rw [hBf, e_20]; exact hSt
  obtain ⟨_, hc_26⟩ := hO.cell h_a (by decide) (ci := 11) rfl
  refine th_callv (va_runV (As := []) (rest := []) ⟨hx, hb, hml, hown, hts⟩ (n_stepOn l G y b0 σ_s_19 E hO a h_a Bf hsr (by omega) (hSt9.1)) (cwV 0 hts gX11_beginText_X11_stepOn rfl rfl rfl (by decide +kernel) ⟨Nat.le_of_ble_eq_true rfl, Nat.le_of_ble_eq_true rfl⟩) (th_PV hK hH rfl hc_26) rfl rfl hl.1 rfl (lv_room (Nat.le_of_ble_eq_true rfl)) dX11_beginText_26 ⟨Nat.le_of_ble_eq_true rfl, Nat.le_of_ble_eq_true rfl⟩) hS (fun σ_s_28 H locs hw_27 hH hS => ?_)
  obtain ⟨hO9, hF9, hM9, hw_27⟩ := hw_27
  replace hM := hM.tu hM9 (by decide)
  replace hF := hF.tu hF9 (by decide)
  have e_29 : aF σ_s_28 (ad E a 6) = f6 := (hM9.a (by decide) (by decide)).trans e_20
  have e_30 : gV σ_s_28 a 9 = some (.ref (ad E a 6)) := (hM9.1 9 (by decide)).trans e_21
  have e_31 : gI σ_s_28 a 10 = pl := (hM9.i (by decide)).trans e_22
  have e_32 : gI σ_s_28 a 11 = nn := (hM9.i (by decide)).trans e_23
  have e_33 : gI σ_s_28 a 19 = 0 := (hM9.i (by decide)).trans e_25
  replace hsr := hsr.mv hM9 (by decide) (by decide) (by decide) (by decide) (by decide)
  replace hO := hO9
  replace hw_27 : (gI σ_s_19 a 13 ≤ gI σ_s_28 a 13 ∧ gI σ_s_28 a 13 ≤ gI σ_s_19 a 11 ∧ 0 ≤ gI σ_s_28 a 17 ∧ gI σ_s_28 a 17 ≤ gI σ_s_28 a 13 ∧ (gI σ_s_28 a 14 = 0 ∨ gI σ_s_19 a 13 < gI σ_s_28 a 13)) ∧ rtok Bf σ_s_28 a (gI σ_s_19 a 13) := hw_27
  exact th_vret hx hb hr hlocks hH hS ⟨hO, hF, hM, Bf, hsr, ⟨⟨by omega, by omega, by omega, by omega, by omega⟩, by rw [hBf, e_20], RSt.first hSt9 (by have h9 := hw_27.2; rwa [show gI σ_s_19 a 13 = 0 by omega] at h9) (by omega)⟩⟩ dX11_beginText_29
