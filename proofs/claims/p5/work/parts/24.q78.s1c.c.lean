set_option maxHeartbeats 4000000 in
set_option maxRecDepth 100000 in
theorem n_need (l : Launch) (G : va_G) (y : Nat → ClassId) (b0 : Nat) (σ : th_M) (E : th_E) (hO : ok y E σ) (a : Nat) (h_a : kd E a = 13) (i : Int) (ri : rng i) (l_i : 0 ≤ i) (u_i : i ≤ 255) (Bf : Int → Int) (hsr : sr E σ a Bf) (T : tkT) (hSt : tkSt Bf T) (fc jt : Int) (hR0 : RSt σ a T fc jt) (hy0 : 0 ≤ gI σ a 17 ∧ gI σ a 17 ≤ gI σ a 13 ∧ gI σ a 13 ≤ gI σ a 11 ∧ gI σ a 11 ≤ 400) : Met l yX11_need wsX11_need ({ frames := 3, cells := 0, slots := 0, locals := 90 }) (th_P G y b0 σ [.ref a, .int (I i)]) (th_Qv G b0 (fun σ1 => ok y E σ1 ∧ fr [13] E σ σ1 ∧ fm [13, 14, 15, 16, 17, 18, 19, 20] E σ σ1 a ∧ (((gI σ a 13 ≤ gI σ1 a 13 ∧ gI σ1 a 13 ≤ gI σ a 11 ∧ 0 ≤ gI σ1 a 17 ∧ gI σ1 a 17 ≤ gI σ1 a 13) ∧ pgo (gI σ1 a 19) (gI σ1 a 14) (gI σ a 13) (gI σ1 a 13) ∧ bdo (gI σ a 19) (gI σ1 a 19)) ∧ ∃ c1 j1, RSt σ1 a T c1 j1 ∧ ((fc ≠ 0 → c1 = fc ∧ j1 = jt) ∧ (fc = 0 → (tK T jt = i ∧ c1 = 0 ∧ j1 = jt + 1) ∨ (tK T jt ≠ i ∧ c1 = 1 ∧ j1 = jt)))))) 0 0 (th_A b0) := by
  refine Met.ofW (cc := cX11_need) (maxL := 2) (ret := none) (by decide) rfl ?_
  intro p e s m args below meth c s₁ B hml hv
  obtain ⟨rfl, hH, hK⟩ := hv
  have hx := B.exec
  have hb := B.bytes
  have hr := B.returns
  have hts := atoms_spec (ws := wsX11_need) B.pre
  have hown : s.vm.findClass RX11 = some m.cls := findClass_of_methodNamed B.named
  have hlocks := B.notSynchronized
  have h00 : b0 ≤ s.heap.size := hH.1
  have hS : va_S (th_A b0) s.heap s.heap [] := va_S.rf
  have hF : fr [13] E σ σ := fr.rf
  have hM : fm [13, 14, 15, 16, 17, 18, 19, 20] E σ σ a := fm.rf
  have hl := lv_entry ([.ref a, .int (I i)]) (n := 2) (Nat.le_of_ble_eq_true rfl)
  rw [lg_entry_eq]
  generalize (lg_sl ([.ref a, .int (I i)]) ++ List.replicate (2 - (lg_sl ([.ref a, .int (I i)])).length) Slot.unset).toArray = ls at hl ⊢
  have hl : lv_has ls 2 [(0, .ref a), (1, .int (I i))] := hl
  obtain ⟨a110, ea110, ra110, la110, ua110⟩ := hO.gi h_a (by decide) k13_11
  obtain ⟨a130, ea130, ra130, la130, ua130⟩ := hO.gi h_a (by decide) k13_13
  obtain ⟨a140, ea140, ra140, la140, ua140⟩ := hO.gi h_a (by decide) k13_14
  obtain ⟨a170, ea170, ra170, la170, ua170⟩ := hO.gi h_a (by decide) k13_17
  obtain ⟨a190, ea190, ra190, la190, ua190⟩ := hO.gi h_a (by decide) k13_19
  have hV0 := hR0.1
  rcases Classical.em (fc = 0) with h0_1 | h0_1
  · try simp only [h0_1, ne_eq, not_true_eq_false, not_false_eq_true, false_implies, true_implies, true_and, and_true, eq_self, false_or, or_false, false_and, and_false] at hV0
    refine lv_aload_n hx hb dX11_need_0 rfl (lv_at hl 0 rfl) ?_
    refine lv_iload_n hx hb dX11_need_1 rfl (lv_at hl 1 rfl) ?_
    obtain ⟨_, hc_2⟩ := hO.cell h_a (by decide) (ci := 11) rfl
    refine th_calli (va_runV (As := [.int (I i)]) (rest := []) ⟨hx, hb, hml, hown, hts⟩ (n_isMarked l G y b0 σ E hO a h_a i (show rng i from ri) (by omega) (by omega) Bf hsr T hSt fc jt hR0 (by omega)) (cwV 1 hts gX11_need_X11_isMarked rfl rfl rfl (by decide +kernel) ⟨Nat.le_of_ble_eq_true rfl, Nat.le_of_ble_eq_true rfl⟩) (th_PV hK hH rfl hc_2) rfl rfl hl.1 rfl (lv_room (Nat.le_of_ble_eq_true rfl)) dX11_need_2 ⟨Nat.le_of_ble_eq_true rfl, Nat.le_of_ble_eq_true rfl⟩) hS (fun z_5 σ_s_4 H locs rz_5 hw_3 hH hS => ?_)
    obtain ⟨e9, bhw_3, hw_3⟩ := hw_3
    replace e9 := e9.symm
    subst e9
    replace hw_3 : (z_5 = 1 ∧ fc = 0 ∧ tK T jt = i) ∨ (z_5 = 0 ∧ (fc ≠ 0 ∨ tK T jt ≠ i)) := hw_3
    try simp only [h0_1, ne_eq, not_true_eq_false, not_false_eq_true, false_implies, true_implies, true_and, and_true, eq_self, false_or, or_false, false_and, and_false] at hw_3
    refine lv_if_ne (tgt := 13) hx hb dX11_need_5 (by decide) (fun c_6 => ?_) (fun c_6 => ?_)
    · replace c_6 := mt (I_eq (a := z_5) (b := 0) rz_5 (show rng 0 from ⟨by decide, by decide⟩)).mpr c_6
      refine lv_aload_n hx hb dX11_need_13 rfl (lv_at hl 0 rfl) ?_
      obtain ⟨_, hc_7⟩ := hO.cell h_a (by decide) (ci := 11) rfl
      refine th_callv (va_runV (As := []) (rest := []) ⟨hx, hb, hml, hown, hts⟩ (n_pass l G y b0 σ E hO a h_a Bf hsr T hSt fc jt hR0 (by omega) (by omega)) (cwV 0 hts gX11_need_X11_pass rfl rfl rfl (by decide +kernel) ⟨Nat.le_of_ble_eq_true rfl, Nat.le_of_ble_eq_true rfl⟩) (th_PV hK hH rfl hc_7) rfl rfl hl.1 rfl (lv_room (Nat.le_of_ble_eq_true rfl)) dX11_need_14 ⟨Nat.le_of_ble_eq_true rfl, Nat.le_of_ble_eq_true rfl⟩) hS (fun σ_s_9 H locs hw_8 hH hS => ?_)
      obtain ⟨hO9, hF9, hM9, hw_8⟩ := hw_8
      replace hM := hM.tu hM9 (by decide)
      replace hF := hF.tu hF9 (by decide)
      have e_10 : gI σ_s_9 a 11 = a110 := (hM9.i (by decide)).trans ea110
      have e_11 : gI σ_s_9 a 19 = a190 := (hM9.i (by decide)).trans ea190
      replace hsr := hsr.mv hM9 (by decide) (by decide) (by decide) (by decide) (by decide)
      replace hO := hO9
      replace hw_8 : ((gI σ a 13 ≤ gI σ_s_9 a 13 ∧ gI σ_s_9 a 13 ≤ gI σ a 11 ∧ 0 ≤ gI σ_s_9 a 17 ∧ gI σ_s_9 a 17 ≤ gI σ_s_9 a 13) ∧ pgo (gI σ_s_9 a 19) (gI σ_s_9 a 14) (gI σ a 13) (gI σ_s_9 a 13) ∧ gI σ_s_9 a 19 = gI σ a 19) ∧ ∃ c1 j1, RSt σ_s_9 a T c1 j1 ∧ (c1 = fc ∧ (fc ≠ 0 → j1 = jt) ∧ (fc = 0 → j1 = jt + 1)) := hw_8
      simp only [pgo, bdo] at hw_8
      have hn_12 := hw_8.2
      replace hw_8 := hw_8.1
      obtain ⟨cc_13, jj_14, hR_15, hn_12⟩ := hn_12
      have hVhR_15 := hR_15.1
      try simp only [h0_1, ne_eq, not_true_eq_false, not_false_eq_true, false_implies, true_implies, true_and, and_true, eq_self, false_or, or_false, false_and, and_false] at hn_12
      have h0_16 : cc_13 = 0 := by omega
      try simp only [h0_16, ne_eq, not_true_eq_false, not_false_eq_true, false_implies, true_implies, true_and, and_true, eq_self, false_or, or_false, false_and, and_false] at hVhR_15
      exact th_vret hx hb hr hlocks hH hS ⟨hO, hF, hM, ⟨⟨by omega, pgo.of (by omega), bdo.of (by omega)⟩, cc_13, jj_14, hR_15, by omega, by omega⟩⟩ dX11_need_17
    · replace c_6 := (I_eq (a := z_5) (b := 0) rz_5 (show rng 0 from ⟨by decide, by decide⟩)).mp c_6
      refine lv_aload_n hx hb dX11_need_8 rfl (lv_at hl 0 rfl) ?_
      refine lv_iconst (v := I 1) hx hb dX11_need_9 (by decide) ?_
      obtain ⟨_, hc_17⟩ := hO.cell h_a (by decide) (ci := 11) rfl
      refine th_callv (va_runV (As := [.int (I 1)]) (rest := []) ⟨hx, hb, hml, hown, hts⟩ (n_wrong l G y b0 σ E hO a h_a 1 (show rng 1 from (show rng 1 from ⟨by decide, by decide⟩)) (by omega) (by omega) Bf hsr T hSt fc jt hR0) (cwV 1 hts gX11_need_X11_wrong rfl rfl rfl (by decide +kernel) ⟨Nat.le_of_ble_eq_true rfl, Nat.le_of_ble_eq_true rfl⟩) (th_PV hK hH rfl hc_17) rfl rfl hl.1 rfl (lv_room (Nat.le_of_ble_eq_true rfl)) dX11_need_10 ⟨Nat.le_of_ble_eq_true rfl, Nat.le_of_ble_eq_true rfl⟩) hS (fun σ_s_19 H locs hw_18 hH hS => ?_)
      obtain ⟨hO9, hF9, hM9, hw_18⟩ := hw_18
      replace hM := hM.tu hM9 (by decide)
      replace hF := hF.tu hF9 (by decide)
      have e_20 : gI σ_s_19 a 11 = a110 := (hM9.i (by decide)).trans ea110
      have e_21 : gI σ_s_19 a 13 = a130 := (hM9.i (by decide)).trans ea130
      have e_22 : gI σ_s_19 a 14 = a140 := (hM9.i (by decide)).trans ea140
      have e_23 : gI σ_s_19 a 17 = a170 := (hM9.i (by decide)).trans ea170
      replace hsr := hsr.mv hM9 (by decide) (by decide) (by decide) (by decide) (by decide)
      replace hO := hO9
      replace hw_18 : (¬ gI σ_s_19 a 19 = 0 ∧ (gI σ a 19 = 0 ∨ gI σ_s_19 a 19 = gI σ a 19)) ∧ ∃ c1 j1, RSt σ_s_19 a T c1 j1 ∧ (j1 = jt ∧ (fc = 0 → c1 = 1) ∧ (fc ≠ 0 → c1 = fc)) := hw_18
      have hn_24 := hw_18.2
      replace hw_18 := hw_18.1
      obtain ⟨cc_25, jj_26, hR_27, hn_24⟩ := hn_24
      have hVhR_27 := hR_27.1
      have hj9 := hn_24.1.symm
      subst hj9
      try simp only [h0_1, ne_eq, not_true_eq_false, not_false_eq_true, false_implies, true_implies, true_and, and_true, eq_self, false_or, or_false, false_and, and_false] at hn_24
      have h0_28 : ¬ cc_25 = 0 := by omega
      try simp only [h0_28, ne_eq, not_true_eq_false, not_false_eq_true, false_implies, true_implies, true_and, and_true, eq_self, false_or, or_false, false_and, and_false] at hVhR_27
      refine lv_aload_n hx hb dX11_need_13 rfl (lv_at hl 0 rfl) ?_
      obtain ⟨_, hc_29⟩ := hO.cell h_a (by decide) (ci := 11) rfl
      refine th_callv (va_runV (As := []) (rest := []) ⟨hx, hb, hml, hown, hts⟩ (n_pass l G y b0 σ_s_19 E hO a h_a Bf hsr T hSt cc_25 jt hR_27 (by omega) (by omega)) (cwV 0 hts gX11_need_X11_pass rfl rfl rfl (by decide +kernel) ⟨Nat.le_of_ble_eq_true rfl, Nat.le_of_ble_eq_true rfl⟩) (th_PV hK hH rfl hc_29) rfl rfl hl.1 rfl (lv_room (Nat.le_of_ble_eq_true rfl)) dX11_need_14 ⟨Nat.le_of_ble_eq_true rfl, Nat.le_of_ble_eq_true rfl⟩) hS (fun σ_s_31 H locs hw_30 hH hS => ?_)
      obtain ⟨hO9, hF9, hM9, hw_30⟩ := hw_30
      replace hM := hM.tu hM9 (by decide)
      replace hF := hF.tu hF9 (by decide)
      have e_32 : gI σ_s_31 a 11 = a110 := (hM9.i (by decide)).trans e_20
      replace hsr := hsr.mv hM9 (by decide) (by decide) (by decide) (by decide) (by decide)
      replace hO := hO9
      replace hw_30 : ((gI σ_s_19 a 13 ≤ gI σ_s_31 a 13 ∧ gI σ_s_31 a 13 ≤ gI σ_s_19 a 11 ∧ 0 ≤ gI σ_s_31 a 17 ∧ gI σ_s_31 a 17 ≤ gI σ_s_31 a 13) ∧ pgo (gI σ_s_31 a 19) (gI σ_s_31 a 14) (gI σ_s_19 a 13) (gI σ_s_31 a 13) ∧ gI σ_s_31 a 19 = gI σ_s_19 a 19) ∧ ∃ c1 j1, RSt σ_s_31 a T c1 j1 ∧ (c1 = cc_25 ∧ (cc_25 ≠ 0 → j1 = jt) ∧ (cc_25 = 0 → j1 = jt + 1)) := hw_30
      simp only [pgo, bdo] at hw_30
      have hn_33 := hw_30.2
      replace hw_30 := hw_30.1
      obtain ⟨cc_34, jj_35, hR_36, hn_33⟩ := hn_33
      have hVhR_36 := hR_36.1
      try simp only [h0_28, ne_eq, not_true_eq_false, not_false_eq_true, false_implies, true_implies, true_and, and_true, eq_self, false_or, or_false, false_and, and_false] at hn_33
      have h0_37 : ¬ cc_34 = 0 := by omega
      try simp only [h0_37, ne_eq, not_true_eq_false, not_false_eq_true, false_implies, true_implies, true_and, and_true, eq_self, false_or, or_false, false_and, and_false] at hVhR_36
      exact th_vret hx hb hr hlocks hH hS ⟨hO, hF, hM, ⟨⟨by omega, pgo.of (by omega), bdo.of (by omega)⟩, cc_34, jj_35, hR_36, by omega, by omega⟩⟩ dX11_need_17
  · try simp only [h0_1, ne_eq, not_true_eq_false, not_false_eq_true, false_implies, true_implies, true_and, and_true, eq_self, false_or, or_false, false_and, and_false] at hV0
    refine lv_aload_n hx hb dX11_need_0 rfl (lv_at hl 0 rfl) ?_
    refine lv_iload_n hx hb dX11_need_1 rfl (lv_at hl 1 rfl) ?_
    obtain ⟨_, hc_38⟩ := hO.cell h_a (by decide) (ci := 11) rfl
    refine th_calli (va_runV (As := [.int (I i)]) (rest := []) ⟨hx, hb, hml, hown, hts⟩ (n_isMarked l G y b0 σ E hO a h_a i (show rng i from ri) (by omega) (by omega) Bf hsr T hSt fc jt hR0 (by omega)) (cwV 1 hts gX11_need_X11_isMarked rfl rfl rfl (by decide +kernel) ⟨Nat.le_of_ble_eq_true rfl, Nat.le_of_ble_eq_true rfl⟩) (th_PV hK hH rfl hc_38) rfl rfl hl.1 rfl (lv_room (Nat.le_of_ble_eq_true rfl)) dX11_need_2 ⟨Nat.le_of_ble_eq_true rfl, Nat.le_of_ble_eq_true rfl⟩) hS (fun z_41 σ_s_40 H locs rz_41 hw_39 hH hS => ?_)
    obtain ⟨e9, bhw_39, hw_39⟩ := hw_39
    replace e9 := e9.symm
    subst e9
    replace hw_39 : (z_41 = 1 ∧ fc = 0 ∧ tK T jt = i) ∨ (z_41 = 0 ∧ (fc ≠ 0 ∨ tK T jt ≠ i)) := hw_39
    try simp only [h0_1, ne_eq, not_true_eq_false, not_false_eq_true, false_implies, true_implies, true_and, and_true, eq_self, false_or, or_false, false_and, and_false] at hw_39
    refine lv_if_ne (tgt := 13) hx hb dX11_need_5 (by decide) (fun c_42 => ?_) (fun c_42 => ?_)
    · replace c_42 := mt (I_eq (a := z_41) (b := 0) rz_41 (show rng 0 from ⟨by decide, by decide⟩)).mpr c_42
      refine lv_aload_n hx hb dX11_need_13 rfl (lv_at hl 0 rfl) ?_
      obtain ⟨_, hc_43⟩ := hO.cell h_a (by decide) (ci := 11) rfl
      refine th_callv (va_runV (As := []) (rest := []) ⟨hx, hb, hml, hown, hts⟩ (n_pass l G y b0 σ E hO a h_a Bf hsr T hSt fc jt hR0 (by omega) (by omega)) (cwV 0 hts gX11_need_X11_pass rfl rfl rfl (by decide +kernel) ⟨Nat.le_of_ble_eq_true rfl, Nat.le_of_ble_eq_true rfl⟩) (th_PV hK hH rfl hc_43) rfl rfl hl.1 rfl (lv_room (Nat.le_of_ble_eq_true rfl)) dX11_need_14 ⟨Nat.le_of_ble_eq_true rfl, Nat.le_of_ble_eq_true rfl⟩) hS (fun σ_s_45 H locs hw_44 hH hS => ?_)
      obtain ⟨hO9, hF9, hM9, hw_44⟩ := hw_44
      replace hM := hM.tu hM9 (by decide)
      replace hF := hF.tu hF9 (by decide)
      have e_46 : gI σ_s_45 a 11 = a110 := (hM9.i (by decide)).trans ea110
      have e_47 : gI σ_s_45 a 19 = a190 := (hM9.i (by decide)).trans ea190
      replace hsr := hsr.mv hM9 (by decide) (by decide) (by decide) (by decide) (by decide)
      replace hO := hO9
      replace hw_44 : ((gI σ a 13 ≤ gI σ_s_45 a 13 ∧ gI σ_s_45 a 13 ≤ gI σ a 11 ∧ 0 ≤ gI σ_s_45 a 17 ∧ gI σ_s_45 a 17 ≤ gI σ_s_45 a 13) ∧ pgo (gI σ_s_45 a 19) (gI σ_s_45 a 14) (gI σ a 13) (gI σ_s_45 a 13) ∧ gI σ_s_45 a 19 = gI σ a 19) ∧ ∃ c1 j1, RSt σ_s_45 a T c1 j1 ∧ (c1 = fc ∧ (fc ≠ 0 → j1 = jt) ∧ (fc = 0 → j1 = jt + 1)) := hw_44
      simp only [pgo, bdo] at hw_44
      have hn_48 := hw_44.2
      replace hw_44 := hw_44.1
      obtain ⟨cc_49, jj_50, hR_51, hn_48⟩ := hn_48
      have hVhR_51 := hR_51.1
      try simp only [h0_1, ne_eq, not_true_eq_false, not_false_eq_true, false_implies, true_implies, true_and, and_true, eq_self, false_or, or_false, false_and, and_false] at hn_48
      have h0_52 : ¬ cc_49 = 0 := by omega
      try simp only [h0_52, ne_eq, not_true_eq_false, not_false_eq_true, false_implies, true_implies, true_and, and_true, eq_self, false_or, or_false, false_and, and_false] at hVhR_51
      exact th_vret hx hb hr hlocks hH hS ⟨hO, hF, hM, ⟨⟨by omega, pgo.of (by omega), bdo.of (by omega)⟩, cc_49, jj_50, hR_51, by omega, by omega⟩⟩ dX11_need_17
    · replace c_42 := (I_eq (a := z_41) (b := 0) rz_41 (show rng 0 from ⟨by decide, by decide⟩)).mp c_42
      refine lv_aload_n hx hb dX11_need_8 rfl (lv_at hl 0 rfl) ?_
      refine lv_iconst (v := I 1) hx hb dX11_need_9 (by decide) ?_
      obtain ⟨_, hc_53⟩ := hO.cell h_a (by decide) (ci := 11) rfl
      refine th_callv (va_runV (As := [.int (I 1)]) (rest := []) ⟨hx, hb, hml, hown, hts⟩ (n_wrong l G y b0 σ E hO a h_a 1 (show rng 1 from (show rng 1 from ⟨by decide, by decide⟩)) (by omega) (by omega) Bf hsr T hSt fc jt hR0) (cwV 1 hts gX11_need_X11_wrong rfl rfl rfl (by decide +kernel) ⟨Nat.le_of_ble_eq_true rfl, Nat.le_of_ble_eq_true rfl⟩) (th_PV hK hH rfl hc_53) rfl rfl hl.1 rfl (lv_room (Nat.le_of_ble_eq_true rfl)) dX11_need_10 ⟨Nat.le_of_ble_eq_true rfl, Nat.le_of_ble_eq_true rfl⟩) hS (fun σ_s_55 H locs hw_54 hH hS => ?_)
      obtain ⟨hO9, hF9, hM9, hw_54⟩ := hw_54
      replace hM := hM.tu hM9 (by decide)
      replace hF := hF.tu hF9 (by decide)
      have e_56 : gI σ_s_55 a 11 = a110 := (hM9.i (by decide)).trans ea110
      have e_57 : gI σ_s_55 a 13 = a130 := (hM9.i (by decide)).trans ea130
      have e_58 : gI σ_s_55 a 14 = a140 := (hM9.i (by decide)).trans ea140
      have e_59 : gI σ_s_55 a 17 = a170 := (hM9.i (by decide)).trans ea170
      replace hsr := hsr.mv hM9 (by decide) (by decide) (by decide) (by decide) (by decide)
      replace hO := hO9
      replace hw_54 : (¬ gI σ_s_55 a 19 = 0 ∧ (gI σ a 19 = 0 ∨ gI σ_s_55 a 19 = gI σ a 19)) ∧ ∃ c1 j1, RSt σ_s_55 a T c1 j1 ∧ (j1 = jt ∧ (fc = 0 → c1 = 1) ∧ (fc ≠ 0 → c1 = fc)) := hw_54
      have hn_60 := hw_54.2
      replace hw_54 := hw_54.1
      obtain ⟨cc_61, jj_62, hR_63, hn_60⟩ := hn_60
      have hVhR_63 := hR_63.1
      have hj9 := hn_60.1.symm
      subst hj9
      try simp only [h0_1, ne_eq, not_true_eq_false, not_false_eq_true, false_implies, true_implies, true_and, and_true, eq_self, false_or, or_false, false_and, and_false] at hn_60
      have h0_64 : ¬ cc_61 = 0 := by omega
      try simp only [h0_64, ne_eq, not_true_eq_false, not_false_eq_true, false_implies, true_implies, true_and, and_true, eq_self, false_or, or_false, false_and, and_false] at hVhR_63
      refine lv_aload_n hx hb dX11_need_13 rfl (lv_at hl 0 rfl) ?_
      obtain ⟨_, hc_65⟩ := hO.cell h_a (by decide) (ci := 11) rfl
      refine th_callv (va_runV (As := []) (rest := []) ⟨hx, hb, hml, hown, hts⟩ (n_pass l G y b0 σ_s_55 E hO a h_a Bf hsr T hSt cc_61 jt hR_63 (by omega) (by omega)) (cwV 0 hts gX11_need_X11_pass rfl rfl rfl (by decide +kernel) ⟨Nat.le_of_ble_eq_true rfl, Nat.le_of_ble_eq_true rfl⟩) (th_PV hK hH rfl hc_65) rfl rfl hl.1 rfl (lv_room (Nat.le_of_ble_eq_true rfl)) dX11_need_14 ⟨Nat.le_of_ble_eq_true rfl, Nat.le_of_ble_eq_true rfl⟩) hS (fun σ_s_67 H locs hw_66 hH hS => ?_)
      obtain ⟨hO9, hF9, hM9, hw_66⟩ := hw_66
      replace hM := hM.tu hM9 (by decide)
      replace hF := hF.tu hF9 (by decide)
      have e_68 : gI σ_s_67 a 11 = a110 := (hM9.i (by decide)).trans e_56
      replace hsr := hsr.mv hM9 (by decide) (by decide) (by decide) (by decide) (by decide)
      replace hO := hO9
      replace hw_66 : ((gI σ_s_55 a 13 ≤ gI σ_s_67 a 13 ∧ gI σ_s_67 a 13 ≤ gI σ_s_55 a 11 ∧ 0 ≤ gI σ_s_67 a 17 ∧ gI σ_s_67 a 17 ≤ gI σ_s_67 a 13) ∧ pgo (gI σ_s_67 a 19) (gI σ_s_67 a 14) (gI σ_s_55 a 13) (gI σ_s_67 a 13) ∧ gI σ_s_67 a 19 = gI σ_s_55 a 19) ∧ ∃ c1 j1, RSt σ_s_67 a T c1 j1 ∧ (c1 = cc_61 ∧ (cc_61 ≠ 0 → j1 = jt) ∧ (cc_61 = 0 → j1 = jt + 1)) := hw_66
      simp only [pgo, bdo] at hw_66
      have hn_69 := hw_66.2
      replace hw_66 := hw_66.1
      obtain ⟨cc_70, jj_71, hR_72, hn_69⟩ := hn_69
      have hVhR_72 := hR_72.1
      try simp only [h0_64, ne_eq, not_true_eq_false, not_false_eq_true, false_implies, true_implies, true_and, and_true, eq_self, false_or, or_false, false_and, and_false] at hn_69
      have h0_73 : ¬ cc_70 = 0 := by omega
      try simp only [h0_73, ne_eq, not_true_eq_false, not_false_eq_true, false_implies, true_implies, true_and, and_true, eq_self, false_or, or_false, false_and, and_false] at hVhR_72
      exact th_vret hx hb hr hlocks hH hS ⟨hO, hF, hM, ⟨⟨by omega, pgo.of (by omega), bdo.of (by omega)⟩, cc_70, jj_71, hR_72, by omega, by omega⟩⟩ dX11_need_17

set_option maxHeartbeats 4000000 in
set_option maxRecDepth 100000 in
theorem n_readDigits (l : Launch) (G : va_G) (y : Nat → ClassId) (b0 : Nat) (σ : th_M) (E : th_E) (hO : ok y E σ) (a : Nat) (h_a : kd E a = 13) (Bf : Int → Int) (hsr : sr E σ a Bf) (T : tkT) (hSt : tkSt Bf T) (fc jt : Int) (hR0 : RSt σ a T fc jt) (hy0 : 0 ≤ gI σ a 17 ∧ gI σ a 17 ≤ gI σ a 13 ∧ gI σ a 13 ≤ gI σ a 11 ∧ gI σ a 11 ≤ 400) : Met l yX11_readDigits wsX11_readDigits ({ frames := 3, cells := 0, slots := 0, locals := 90 }) (th_P G y b0 σ [.ref a]) (th_Qi G b0 (fun r σ1 => ok y E σ1 ∧ fr [13] E σ σ1 ∧ fm [13, 14, 15, 16, 17, 18, 19, 20] E σ σ1 a ∧ (((gI σ a 13 ≤ gI σ1 a 13 ∧ gI σ1 a 13 ≤ gI σ a 11 ∧ 0 ≤ gI σ1 a 17 ∧ gI σ1 a 17 ≤ gI σ1 a 13) ∧ pgo (gI σ1 a 19) (gI σ1 a 14) (gI σ a 13) (gI σ1 a 13) ∧ bdo (gI σ a 19) (gI σ1 a 19)) ∧ ∃ c1 j1, RSt σ1 a T c1 j1 ∧ ((fc ≠ 0 → c1 = fc ∧ j1 = jt) ∧ (fc = 0 → (tK T jt ≠ 257 ∧ c1 = 1 ∧ j1 = jt) ∨ (tK T jt = 257 ∧ 3 < tL T jt ∧ c1 = 2 ∧ j1 = jt) ∨ (tK T jt = 257 ∧ tL T jt ≤ 3 ∧ c1 = 0 ∧ j1 = jt + 1)))))) 0 0 (th_A b0) := by
  refine Met.ofW (cc := cX11_readDigits) (maxL := 2) (ret := (some .int)) (by decide) rfl ?_
  intro p e s m args below meth c s₁ B hml hv
  obtain ⟨rfl, hH, hK⟩ := hv
  have hx := B.exec
  have hb := B.bytes
  have hr := B.returns
  have hts := atoms_spec (ws := wsX11_readDigits) B.pre
  have hown : s.vm.findClass RX11 = some m.cls := findClass_of_methodNamed B.named
  have hlocks := B.notSynchronized
  have h00 : b0 ≤ s.heap.size := hH.1
  have hS : va_S (th_A b0) s.heap s.heap [] := va_S.rf
  have hF : fr [13] E σ σ := fr.rf
  have hM : fm [13, 14, 15, 16, 17, 18, 19, 20] E σ σ a := fm.rf
  have h29 := hR0.t2
  have inX11 : ∀ w ∈ wsX110, w ∈ wsX11_readDigits := by decide +kernel
  have fl0 := hts (.fieldLink RX11 162 "NestQueryModel" "bad" "I") (by decide +kernel)
  have fl1 := hts (.fieldLink RX11 149 "NestQueryModel" "number" "I") (by decide +kernel)
  have fl2 := hts (.fieldLink RX11 159 "NestQueryModel" "stops" "I") (by decide +kernel)
  have fl3 := hts (.fieldLink RX11 133 "NestQueryModel" "begins" "I") (by decide +kernel)
  have fl4 := hts (.fieldLink RX11 136 "NestQueryModel" "token" "I") (by decide +kernel)
  have hl := lv_entry ([.ref a]) (n := 2) (Nat.le_of_ble_eq_true rfl)
  rw [lg_entry_eq]
  generalize (lg_sl ([.ref a]) ++ List.replicate (2 - (lg_sl ([.ref a])).length) Slot.unset).toArray = ls at hl ⊢
  have hl : lv_has ls 2 [(0, .ref a)] := hl
  obtain ⟨a110, ea110, ra110, la110, ua110⟩ := hO.gi h_a (by decide) k13_11
  obtain ⟨a130, ea130, ra130, la130, ua130⟩ := hO.gi h_a (by decide) k13_13
  obtain ⟨a140, ea140, ra140, la140, ua140⟩ := hO.gi h_a (by decide) k13_14
  obtain ⟨a170, ea170, ra170, la170, ua170⟩ := hO.gi h_a (by decide) k13_17
  obtain ⟨a190, ea190, ra190, la190, ua190⟩ := hO.gi h_a (by decide) k13_19
  have hV0 := hR0.1
  rcases Classical.em (fc = 0) with h0_1 | h0_1
  · try simp only [h0_1, ne_eq, not_true_eq_false, not_false_eq_true, false_implies, true_implies, true_and, and_true, eq_self, false_or, or_false, false_and, and_false] at hV0
    refine lv_aload_n hx hb dX11_readDigits_0 rfl (lv_at hl 0 rfl) ?_
    refine ok.getIc hO h_a (by decide) k13_19 ea190 (fun _ _ he hv kk => th_get (ci := 11) (C := RX11) (T := TX11) (N := 66) hx hb hts inX11 hown hK hH he rfl 19 (by decide) fl0 hv dX11_readDigits_1 kk) ?_
    refine lv_if_ne (tgt := 20) hx hb dX11_readDigits_4 (by decide) (fun c_2 => ?_) (fun c_2 => ?_)
    · replace c_2 := mt (I_eq (a := a190) (b := 0) ra190 (show rng 0 from ⟨by decide, by decide⟩)).mpr c_2
      refine lv_aload_n hx hb dX11_readDigits_20 rfl (lv_at hl 0 rfl) ?_
      refine ok.getIc hO h_a (by decide) k13_19 ea190 (fun _ _ he hv kk => th_get (ci := 11) (C := RX11) (T := TX11) (N := 66) hx hb hts inX11 hown hK hH he rfl 19 (by decide) fl0 hv dX11_readDigits_21 kk) ?_
      refine lv_if_ne (tgt := 45) hx hb dX11_readDigits_24 (by decide) (fun c_3 => ?_) (fun c_3 => ?_)
      · replace c_3 := mt (I_eq (a := a190) (b := 0) ra190 (show rng 0 from ⟨by decide, by decide⟩)).mpr c_3
        refine lv_aload_n hx hb dX11_readDigits_45 rfl (lv_at hl 0 rfl) ?_
        refine ok.getI hO h_a (by decide) k13_15 (fun _ _ he hv kk => th_get (ci := 11) (C := RX11) (T := TX11) (N := 66) hx hb hts inX11 hown hK hH he rfl 15 (by decide) fl1 hv dX11_readDigits_46 kk) (fun z_4 e_5 rz_4 lz_4 uz_4 => ?_)
        refine lv_istore_n (lv' := [(1, .int (I z_4)), (0, .ref a)]) hx hb dX11_readDigits_49 rfl hl (by decide) rfl (fun ls hl => ?_)
        refine lv_aload_n hx hb dX11_readDigits_50 rfl (lv_at hl 1 rfl) ?_
        obtain ⟨_, hc_6⟩ := hO.cell h_a (by decide) (ci := 11) rfl
        refine th_callv (va_runV (As := []) (rest := []) ⟨hx, hb, hml, hown, hts⟩ (n_pass l G y b0 σ E hO a h_a Bf hsr T hSt fc jt hR0 (by omega) (by omega)) (cwV 0 hts gX11_readDigits_X11_pass rfl rfl rfl (by decide +kernel) ⟨Nat.le_of_ble_eq_true rfl, Nat.le_of_ble_eq_true rfl⟩) (th_PV hK hH rfl hc_6) rfl rfl hl.1 rfl (lv_room (Nat.le_of_ble_eq_true rfl)) dX11_readDigits_51 ⟨Nat.le_of_ble_eq_true rfl, Nat.le_of_ble_eq_true rfl⟩) hS (fun σ_s_8 H locs hw_7 hH hS => ?_)
        obtain ⟨hO9, hF9, hM9, hw_7⟩ := hw_7
        replace hM := hM.tu hM9 (by decide)
        replace hF := hF.tu hF9 (by decide)
        have e_9 : gI σ_s_8 a 11 = a110 := (hM9.i (by decide)).trans ea110
        have e_10 : gI σ_s_8 a 19 = a190 := (hM9.i (by decide)).trans ea190
        replace hsr := hsr.mv hM9 (by decide) (by decide) (by decide) (by decide) (by decide)
        replace hO := hO9
        replace hw_7 : ((gI σ a 13 ≤ gI σ_s_8 a 13 ∧ gI σ_s_8 a 13 ≤ gI σ a 11 ∧ 0 ≤ gI σ_s_8 a 17 ∧ gI σ_s_8 a 17 ≤ gI σ_s_8 a 13) ∧ pgo (gI σ_s_8 a 19) (gI σ_s_8 a 14) (gI σ a 13) (gI σ_s_8 a 13) ∧ gI σ_s_8 a 19 = gI σ a 19) ∧ ∃ c1 j1, RSt σ_s_8 a T c1 j1 ∧ (c1 = fc ∧ (fc ≠ 0 → j1 = jt) ∧ (fc = 0 → j1 = jt + 1)) := hw_7
        simp only [pgo, bdo] at hw_7
        have hn_11 := hw_7.2
        replace hw_7 := hw_7.1
        obtain ⟨cc_12, jj_13, hR_14, hn_11⟩ := hn_11
        have hVhR_14 := hR_14.1
        try simp only [h0_1, ne_eq, not_true_eq_false, not_false_eq_true, false_implies, true_implies, true_and, and_true, eq_self, false_or, or_false, false_and, and_false] at hn_11
        have h0_15 : cc_12 = 0 := by omega
        try simp only [h0_15, ne_eq, not_true_eq_false, not_false_eq_true, false_implies, true_implies, true_and, and_true, eq_self, false_or, or_false, false_and, and_false] at hVhR_14
        refine lv_iload_n hx hb dX11_readDigits_54 rfl (lv_at hl 0 rfl) ?_
        exact th_iret hx hb hr hlocks hH hS (z := z_4) rz_4 ⟨hO, hF, hM, ⟨⟨by omega, pgo.of (by omega), bdo.of (by omega)⟩, cc_12, jj_13, hR_14, by omega, by omega⟩⟩ dX11_readDigits_55
      · replace c_3 := (I_eq (a := a190) (b := 0) ra190 (show rng 0 from ⟨by decide, by decide⟩)).mp c_3
        refine lv_aload_n hx hb dX11_readDigits_27 rfl (lv_at hl 0 rfl) ?_
        refine ok.getI hO h_a (by decide) k13_18 (fun _ _ he hv kk => th_get (ci := 11) (C := RX11) (T := TX11) (N := 66) hx hb hts inX11 hown hK hH he rfl 18 (by decide) fl2 hv dX11_readDigits_28 kk) (fun z_16 e_17 rz_16 lz_16 uz_16 => ?_)
        refine lv_aload_n hx hb dX11_readDigits_31 rfl (lv_at hl 0 rfl) ?_
        refine ok.getIc hO h_a (by decide) k13_17 ea170 (fun _ _ he hv kk => th_get (ci := 11) (C := RX11) (T := TX11) (N := 66) hx hb hts inX11 hown hK hH he rfl 17 (by decide) fl3 hv dX11_readDigits_32 kk) ?_
        refine lv_isub hx hb dX11_readDigits_35 ?_
        refine th_subo (fun z_18 rz_18 hz_18 => ?_)
        refine lv_iconst (v := I 3) hx hb dX11_readDigits_36 (by decide) ?_
        refine lv_icmp_le (tgt := 45) hx hb dX11_readDigits_37 (by decide) (fun c_19 => ?_) (fun c_19 => ?_)
        · replace c_19 := (I_le (a := z_18) (b := 3) rz_18 (show rng 3 from ⟨by decide, by decide⟩)).mp c_19
          refine lv_aload_n hx hb dX11_readDigits_45 rfl (lv_at hl 0 rfl) ?_
          refine ok.getI hO h_a (by decide) k13_15 (fun _ _ he hv kk => th_get (ci := 11) (C := RX11) (T := TX11) (N := 66) hx hb hts inX11 hown hK hH he rfl 15 (by decide) fl1 hv dX11_readDigits_46 kk) (fun z_20 e_21 rz_20 lz_20 uz_20 => ?_)
          refine lv_istore_n (lv' := [(1, .int (I z_20)), (0, .ref a)]) hx hb dX11_readDigits_49 rfl hl (by decide) rfl (fun ls hl => ?_)
          refine lv_aload_n hx hb dX11_readDigits_50 rfl (lv_at hl 1 rfl) ?_
          obtain ⟨_, hc_22⟩ := hO.cell h_a (by decide) (ci := 11) rfl
          refine th_callv (va_runV (As := []) (rest := []) ⟨hx, hb, hml, hown, hts⟩ (n_pass l G y b0 σ E hO a h_a Bf hsr T hSt fc jt hR0 (by omega) (by omega)) (cwV 0 hts gX11_readDigits_X11_pass rfl rfl rfl (by decide +kernel) ⟨Nat.le_of_ble_eq_true rfl, Nat.le_of_ble_eq_true rfl⟩) (th_PV hK hH rfl hc_22) rfl rfl hl.1 rfl (lv_room (Nat.le_of_ble_eq_true rfl)) dX11_readDigits_51 ⟨Nat.le_of_ble_eq_true rfl, Nat.le_of_ble_eq_true rfl⟩) hS (fun σ_s_24 H locs hw_23 hH hS => ?_)
          obtain ⟨hO9, hF9, hM9, hw_23⟩ := hw_23
          replace hM := hM.tu hM9 (by decide)
          replace hF := hF.tu hF9 (by decide)
          have e_25 : gI σ_s_24 a 11 = a110 := (hM9.i (by decide)).trans ea110
          have e_26 : gI σ_s_24 a 19 = a190 := (hM9.i (by decide)).trans ea190
          replace hsr := hsr.mv hM9 (by decide) (by decide) (by decide) (by decide) (by decide)
          replace hO := hO9
          replace hw_23 : ((gI σ a 13 ≤ gI σ_s_24 a 13 ∧ gI σ_s_24 a 13 ≤ gI σ a 11 ∧ 0 ≤ gI σ_s_24 a 17 ∧ gI σ_s_24 a 17 ≤ gI σ_s_24 a 13) ∧ pgo (gI σ_s_24 a 19) (gI σ_s_24 a 14) (gI σ a 13) (gI σ_s_24 a 13) ∧ gI σ_s_24 a 19 = gI σ a 19) ∧ ∃ c1 j1, RSt σ_s_24 a T c1 j1 ∧ (c1 = fc ∧ (fc ≠ 0 → j1 = jt) ∧ (fc = 0 → j1 = jt + 1)) := hw_23
          simp only [pgo, bdo] at hw_23
          have hn_27 := hw_23.2
          replace hw_23 := hw_23.1
          obtain ⟨cc_28, jj_29, hR_30, hn_27⟩ := hn_27
          have hVhR_30 := hR_30.1
          try simp only [h0_1, ne_eq, not_true_eq_false, not_false_eq_true, false_implies, true_implies, true_and, and_true, eq_self, false_or, or_false, false_and, and_false] at hn_27
          have h0_31 : cc_28 = 0 := by omega
          try simp only [h0_31, ne_eq, not_true_eq_false, not_false_eq_true, false_implies, true_implies, true_and, and_true, eq_self, false_or, or_false, false_and, and_false] at hVhR_30
          refine lv_iload_n hx hb dX11_readDigits_54 rfl (lv_at hl 0 rfl) ?_
          exact th_iret hx hb hr hlocks hH hS (z := z_20) rz_20 ⟨hO, hF, hM, ⟨⟨by omega, pgo.of (by omega), bdo.of (by omega)⟩, cc_28, jj_29, hR_30, by omega, by omega⟩⟩ dX11_readDigits_55
        · replace c_19 := mt (I_le (a := z_18) (b := 3) rz_18 (show rng 3 from ⟨by decide, by decide⟩)).mpr c_19
          refine lv_aload_n hx hb dX11_readDigits_40 rfl (lv_at hl 0 rfl) ?_
          refine lv_iconst (v := I 2) hx hb dX11_readDigits_41 (by decide) ?_
          obtain ⟨_, hc_32⟩ := hO.cell h_a (by decide) (ci := 11) rfl
          refine th_callv (va_runV (As := [.int (I 2)]) (rest := []) ⟨hx, hb, hml, hown, hts⟩ (n_wrong l G y b0 σ E hO a h_a 2 (show rng 2 from (show rng 2 from ⟨by decide, by decide⟩)) (by omega) (by omega) Bf hsr T hSt fc jt hR0) (cwV 1 hts gX11_readDigits_X11_wrong rfl rfl rfl (by decide +kernel) ⟨Nat.le_of_ble_eq_true rfl, Nat.le_of_ble_eq_true rfl⟩) (th_PV hK hH rfl hc_32) rfl rfl hl.1 rfl (lv_room (Nat.le_of_ble_eq_true rfl)) dX11_readDigits_42 ⟨Nat.le_of_ble_eq_true rfl, Nat.le_of_ble_eq_true rfl⟩) hS (fun σ_s_34 H locs hw_33 hH hS => ?_)
          obtain ⟨hO9, hF9, hM9, hw_33⟩ := hw_33
          replace hM := hM.tu hM9 (by decide)
          replace hF := hF.tu hF9 (by decide)
          have e_35 : gI σ_s_34 a 11 = a110 := (hM9.i (by decide)).trans ea110
          have e_36 : gI σ_s_34 a 13 = a130 := (hM9.i (by decide)).trans ea130
          have e_37 : gI σ_s_34 a 14 = a140 := (hM9.i (by decide)).trans ea140
          have e_38 : gI σ_s_34 a 17 = a170 := (hM9.i (by decide)).trans ea170
          have e_39 : gI σ_s_34 a 18 = z_16 := (hM9.i (by decide)).trans e_17
          replace hsr := hsr.mv hM9 (by decide) (by decide) (by decide) (by decide) (by decide)
          replace hO := hO9
          replace hw_33 : (¬ gI σ_s_34 a 19 = 0 ∧ (gI σ a 19 = 0 ∨ gI σ_s_34 a 19 = gI σ a 19)) ∧ ∃ c1 j1, RSt σ_s_34 a T c1 j1 ∧ (j1 = jt ∧ (fc = 0 → c1 = 2) ∧ (fc ≠ 0 → c1 = fc)) := hw_33
          have hn_40 := hw_33.2
          replace hw_33 := hw_33.1
          obtain ⟨cc_41, jj_42, hR_43, hn_40⟩ := hn_40
          have hVhR_43 := hR_43.1
          have hj9 := hn_40.1.symm
          subst hj9
          try simp only [h0_1, ne_eq, not_true_eq_false, not_false_eq_true, false_implies, true_implies, true_and, and_true, eq_self, false_or, or_false, false_and, and_false] at hn_40
          have h0_44 : ¬ cc_41 = 0 := by omega
          try simp only [h0_44, ne_eq, not_true_eq_false, not_false_eq_true, false_implies, true_implies, true_and, and_true, eq_self, false_or, or_false, false_and, and_false] at hVhR_43
          refine lv_aload_n hx hb dX11_readDigits_45 rfl (lv_at hl 0 rfl) ?_
          refine ok.getI hO h_a (by decide) k13_15 (fun _ _ he hv kk => th_get (ci := 11) (C := RX11) (T := TX11) (N := 66) hx hb hts inX11 hown hK hH he rfl 15 (by decide) fl1 hv dX11_readDigits_46 kk) (fun z_45 e_46 rz_45 lz_45 uz_45 => ?_)
          refine lv_istore_n (lv' := [(1, .int (I z_45)), (0, .ref a)]) hx hb dX11_readDigits_49 rfl hl (by decide) rfl (fun ls hl => ?_)
          refine lv_aload_n hx hb dX11_readDigits_50 rfl (lv_at hl 1 rfl) ?_
          obtain ⟨_, hc_47⟩ := hO.cell h_a (by decide) (ci := 11) rfl
          refine th_callv (va_runV (As := []) (rest := []) ⟨hx, hb, hml, hown, hts⟩ (n_pass l G y b0 σ_s_34 E hO a h_a Bf hsr T hSt cc_41 jt hR_43 (by omega) (by omega)) (cwV 0 hts gX11_readDigits_X11_pass rfl rfl rfl (by decide +kernel) ⟨Nat.le_of_ble_eq_true rfl, Nat.le_of_ble_eq_true rfl⟩) (th_PV hK hH rfl hc_47) rfl rfl hl.1 rfl (lv_room (Nat.le_of_ble_eq_true rfl)) dX11_readDigits_51 ⟨Nat.le_of_ble_eq_true rfl, Nat.le_of_ble_eq_true rfl⟩) hS (fun σ_s_49 H locs hw_48 hH hS => ?_)
          obtain ⟨hO9, hF9, hM9, hw_48⟩ := hw_48
          replace hM := hM.tu hM9 (by decide)
          replace hF := hF.tu hF9 (by decide)
          have e_50 : gI σ_s_49 a 11 = a110 := (hM9.i (by decide)).trans e_35
          replace hsr := hsr.mv hM9 (by decide) (by decide) (by decide) (by decide) (by decide)
          replace hO := hO9
          replace hw_48 : ((gI σ_s_34 a 13 ≤ gI σ_s_49 a 13 ∧ gI σ_s_49 a 13 ≤ gI σ_s_34 a 11 ∧ 0 ≤ gI σ_s_49 a 17 ∧ gI σ_s_49 a 17 ≤ gI σ_s_49 a 13) ∧ pgo (gI σ_s_49 a 19) (gI σ_s_49 a 14) (gI σ_s_34 a 13) (gI σ_s_49 a 13) ∧ gI σ_s_49 a 19 = gI σ_s_34 a 19) ∧ ∃ c1 j1, RSt σ_s_49 a T c1 j1 ∧ (c1 = cc_41 ∧ (cc_41 ≠ 0 → j1 = jt) ∧ (cc_41 = 0 → j1 = jt + 1)) := hw_48
          simp only [pgo, bdo] at hw_48
          have hn_51 := hw_48.2
          replace hw_48 := hw_48.1
          obtain ⟨cc_52, jj_53, hR_54, hn_51⟩ := hn_51
          have hVhR_54 := hR_54.1
          try simp only [h0_44, ne_eq, not_true_eq_false, not_false_eq_true, false_implies, true_implies, true_and, and_true, eq_self, false_or, or_false, false_and, and_false] at hn_51
          have h0_55 : ¬ cc_52 = 0 := by omega
          try simp only [h0_55, ne_eq, not_true_eq_false, not_false_eq_true, false_implies, true_implies, true_and, and_true, eq_self, false_or, or_false, false_and, and_false] at hVhR_54
          refine lv_iload_n hx hb dX11_readDigits_54 rfl (lv_at hl 0 rfl) ?_
          exact th_iret hx hb hr hlocks hH hS (z := z_45) rz_45 ⟨hO, hF, hM, ⟨⟨by omega, pgo.of (by omega), bdo.of (by omega)⟩, cc_52, jj_53, hR_54, by omega, by omega⟩⟩ dX11_readDigits_55
    · replace c_2 := (I_eq (a := a190) (b := 0) ra190 (show rng 0 from ⟨by decide, by decide⟩)).mp c_2
      refine lv_aload_n hx hb dX11_readDigits_7 rfl (lv_at hl 0 rfl) ?_
      refine ok.getIc hO h_a (by decide) k13_14 ea140 (fun _ _ he hv kk => th_get (ci := 11) (C := RX11) (T := TX11) (N := 66) hx hb hts inX11 hown hK hH he rfl 14 (by decide) fl4 hv dX11_readDigits_8 kk) ?_
      refine lv_iconst (v := I 2) hx hb dX11_readDigits_11 (by decide) ?_
      refine lv_icmp_eq (tgt := 20) hx hb dX11_readDigits_12 (by decide) (fun c_56 => ?_) (fun c_56 => ?_)
      · replace c_56 := (I_eq (a := a140) (b := 2) ra140 (show rng 2 from ⟨by decide, by decide⟩)).mp c_56
        refine lv_aload_n hx hb dX11_readDigits_20 rfl (lv_at hl 0 rfl) ?_
        refine ok.getIc hO h_a (by decide) k13_19 ea190 (fun _ _ he hv kk => th_get (ci := 11) (C := RX11) (T := TX11) (N := 66) hx hb hts inX11 hown hK hH he rfl 19 (by decide) fl0 hv dX11_readDigits_21 kk) ?_
        refine lv_if_ne (tgt := 45) hx hb dX11_readDigits_24 (by decide) (fun c_57 => ?_) (fun c_57 => ?_)
        · replace c_57 := mt (I_eq (a := a190) (b := 0) ra190 (show rng 0 from ⟨by decide, by decide⟩)).mpr c_57
          refine lv_aload_n hx hb dX11_readDigits_45 rfl (lv_at hl 0 rfl) ?_
          refine ok.getI hO h_a (by decide) k13_15 (fun _ _ he hv kk => th_get (ci := 11) (C := RX11) (T := TX11) (N := 66) hx hb hts inX11 hown hK hH he rfl 15 (by decide) fl1 hv dX11_readDigits_46 kk) (fun z_58 e_59 rz_58 lz_58 uz_58 => ?_)
          refine lv_istore_n (lv' := [(1, .int (I z_58)), (0, .ref a)]) hx hb dX11_readDigits_49 rfl hl (by decide) rfl (fun ls hl => ?_)
          refine lv_aload_n hx hb dX11_readDigits_50 rfl (lv_at hl 1 rfl) ?_
          obtain ⟨_, hc_60⟩ := hO.cell h_a (by decide) (ci := 11) rfl
          refine th_callv (va_runV (As := []) (rest := []) ⟨hx, hb, hml, hown, hts⟩ (n_pass l G y b0 σ E hO a h_a Bf hsr T hSt fc jt hR0 (by omega) (by omega)) (cwV 0 hts gX11_readDigits_X11_pass rfl rfl rfl (by decide +kernel) ⟨Nat.le_of_ble_eq_true rfl, Nat.le_of_ble_eq_true rfl⟩) (th_PV hK hH rfl hc_60) rfl rfl hl.1 rfl (lv_room (Nat.le_of_ble_eq_true rfl)) dX11_readDigits_51 ⟨Nat.le_of_ble_eq_true rfl, Nat.le_of_ble_eq_true rfl⟩) hS (fun σ_s_62 H locs hw_61 hH hS => ?_)
          obtain ⟨hO9, hF9, hM9, hw_61⟩ := hw_61
          replace hM := hM.tu hM9 (by decide)
          replace hF := hF.tu hF9 (by decide)
          have e_63 : gI σ_s_62 a 11 = a110 := (hM9.i (by decide)).trans ea110
          have e_64 : gI σ_s_62 a 19 = a190 := (hM9.i (by decide)).trans ea190
          replace hsr := hsr.mv hM9 (by decide) (by decide) (by decide) (by decide) (by decide)
          replace hO := hO9
          replace hw_61 : ((gI σ a 13 ≤ gI σ_s_62 a 13 ∧ gI σ_s_62 a 13 ≤ gI σ a 11 ∧ 0 ≤ gI σ_s_62 a 17 ∧ gI σ_s_62 a 17 ≤ gI σ_s_62 a 13) ∧ pgo (gI σ_s_62 a 19) (gI σ_s_62 a 14) (gI σ a 13) (gI σ_s_62 a 13) ∧ gI σ_s_62 a 19 = gI σ a 19) ∧ ∃ c1 j1, RSt σ_s_62 a T c1 j1 ∧ (c1 = fc ∧ (fc ≠ 0 → j1 = jt) ∧ (fc = 0 → j1 = jt + 1)) := hw_61
          simp only [pgo, bdo] at hw_61
          have hn_65 := hw_61.2
          replace hw_61 := hw_61.1
          obtain ⟨cc_66, jj_67, hR_68, hn_65⟩ := hn_65
          have hVhR_68 := hR_68.1
          try simp only [h0_1, ne_eq, not_true_eq_false, not_false_eq_true, false_implies, true_implies, true_and, and_true, eq_self, false_or, or_false, false_and, and_false] at hn_65
          have h0_69 : cc_66 = 0 := by omega
          try simp only [h0_69, ne_eq, not_true_eq_false, not_false_eq_true, false_implies, true_implies, true_and, and_true, eq_self, false_or, or_false, false_and, and_false] at hVhR_68
          refine lv_iload_n hx hb dX11_readDigits_54 rfl (lv_at hl 0 rfl) ?_
          exact th_iret hx hb hr hlocks hH hS (z := z_58) rz_58 ⟨hO, hF, hM, ⟨⟨by omega, pgo.of (by omega), bdo.of (by omega)⟩, cc_66, jj_67, hR_68, by omega, by omega⟩⟩ dX11_readDigits_55
        · replace c_57 := (I_eq (a := a190) (b := 0) ra190 (show rng 0 from ⟨by decide, by decide⟩)).mp c_57
          refine lv_aload_n hx hb dX11_readDigits_27 rfl (lv_at hl 0 rfl) ?_
          refine ok.getI hO h_a (by decide) k13_18 (fun _ _ he hv kk => th_get (ci := 11) (C := RX11) (T := TX11) (N := 66) hx hb hts inX11 hown hK hH he rfl 18 (by decide) fl2 hv dX11_readDigits_28 kk) (fun z_70 e_71 rz_70 lz_70 uz_70 => ?_)
          refine lv_aload_n hx hb dX11_readDigits_31 rfl (lv_at hl 0 rfl) ?_
          refine ok.getIc hO h_a (by decide) k13_17 ea170 (fun _ _ he hv kk => th_get (ci := 11) (C := RX11) (T := TX11) (N := 66) hx hb hts inX11 hown hK hH he rfl 17 (by decide) fl3 hv dX11_readDigits_32 kk) ?_
          refine lv_isub hx hb dX11_readDigits_35 ?_
          refine th_subo (fun z_72 rz_72 hz_72 => ?_)
          refine lv_iconst (v := I 3) hx hb dX11_readDigits_36 (by decide) ?_
          refine lv_icmp_le (tgt := 45) hx hb dX11_readDigits_37 (by decide) (fun c_73 => ?_) (fun c_73 => ?_)
          · replace c_73 := (I_le (a := z_72) (b := 3) rz_72 (show rng 3 from ⟨by decide, by decide⟩)).mp c_73
            refine lv_aload_n hx hb dX11_readDigits_45 rfl (lv_at hl 0 rfl) ?_
            refine ok.getI hO h_a (by decide) k13_15 (fun _ _ he hv kk => th_get (ci := 11) (C := RX11) (T := TX11) (N := 66) hx hb hts inX11 hown hK hH he rfl 15 (by decide) fl1 hv dX11_readDigits_46 kk) (fun z_74 e_75 rz_74 lz_74 uz_74 => ?_)
            refine lv_istore_n (lv' := [(1, .int (I z_74)), (0, .ref a)]) hx hb dX11_readDigits_49 rfl hl (by decide) rfl (fun ls hl => ?_)
            refine lv_aload_n hx hb dX11_readDigits_50 rfl (lv_at hl 1 rfl) ?_
            obtain ⟨_, hc_76⟩ := hO.cell h_a (by decide) (ci := 11) rfl
            refine th_callv (va_runV (As := []) (rest := []) ⟨hx, hb, hml, hown, hts⟩ (n_pass l G y b0 σ E hO a h_a Bf hsr T hSt fc jt hR0 (by omega) (by omega)) (cwV 0 hts gX11_readDigits_X11_pass rfl rfl rfl (by decide +kernel) ⟨Nat.le_of_ble_eq_true rfl, Nat.le_of_ble_eq_true rfl⟩) (th_PV hK hH rfl hc_76) rfl rfl hl.1 rfl (lv_room (Nat.le_of_ble_eq_true rfl)) dX11_readDigits_51 ⟨Nat.le_of_ble_eq_true rfl, Nat.le_of_ble_eq_true rfl⟩) hS (fun σ_s_78 H locs hw_77 hH hS => ?_)
            obtain ⟨hO9, hF9, hM9, hw_77⟩ := hw_77
            replace hM := hM.tu hM9 (by decide)
            replace hF := hF.tu hF9 (by decide)
            have e_79 : gI σ_s_78 a 11 = a110 := (hM9.i (by decide)).trans ea110
            have e_80 : gI σ_s_78 a 19 = a190 := (hM9.i (by decide)).trans ea190
            replace hsr := hsr.mv hM9 (by decide) (by decide) (by decide) (by decide) (by decide)
            replace hO := hO9
            replace hw_77 : ((gI σ a 13 ≤ gI σ_s_78 a 13 ∧ gI σ_s_78 a 13 ≤ gI σ a 11 ∧ 0 ≤ gI σ_s_78 a 17 ∧ gI σ_s_78 a 17 ≤ gI σ_s_78 a 13) ∧ pgo (gI σ_s_78 a 19) (gI σ_s_78 a 14) (gI σ a 13) (gI σ_s_78 a 13) ∧ gI σ_s_78 a 19 = gI σ a 19) ∧ ∃ c1 j1, RSt σ_s_78 a T c1 j1 ∧ (c1 = fc ∧ (fc ≠ 0 → j1 = jt) ∧ (fc = 0 → j1 = jt + 1)) := hw_77
            simp only [pgo, bdo] at hw_77
            have hn_81 := hw_77.2
            replace hw_77 := hw_77.1
            obtain ⟨cc_82, jj_83, hR_84, hn_81⟩ := hn_81
            have hVhR_84 := hR_84.1
            try simp only [h0_1, ne_eq, not_true_eq_false, not_false_eq_true, false_implies, true_implies, true_and, and_true, eq_self, false_or, or_false, false_and, and_false] at hn_81
            have h0_85 : cc_82 = 0 := by omega
            try simp only [h0_85, ne_eq, not_true_eq_false, not_false_eq_true, false_implies, true_implies, true_and, and_true, eq_self, false_or, or_false, false_and, and_false] at hVhR_84
            refine lv_iload_n hx hb dX11_readDigits_54 rfl (lv_at hl 0 rfl) ?_
            exact th_iret hx hb hr hlocks hH hS (z := z_74) rz_74 ⟨hO, hF, hM, ⟨⟨by omega, pgo.of (by omega), bdo.of (by omega)⟩, cc_82, jj_83, hR_84, by omega, by omega⟩⟩ dX11_readDigits_55
          · replace c_73 := mt (I_le (a := z_72) (b := 3) rz_72 (show rng 3 from ⟨by decide, by decide⟩)).mpr c_73
            refine lv_aload_n hx hb dX11_readDigits_40 rfl (lv_at hl 0 rfl) ?_
            refine lv_iconst (v := I 2) hx hb dX11_readDigits_41 (by decide) ?_
            obtain ⟨_, hc_86⟩ := hO.cell h_a (by decide) (ci := 11) rfl
            refine th_callv (va_runV (As := [.int (I 2)]) (rest := []) ⟨hx, hb, hml, hown, hts⟩ (n_wrong l G y b0 σ E hO a h_a 2 (show rng 2 from (show rng 2 from ⟨by decide, by decide⟩)) (by omega) (by omega) Bf hsr T hSt fc jt hR0) (cwV 1 hts gX11_readDigits_X11_wrong rfl rfl rfl (by decide +kernel) ⟨Nat.le_of_ble_eq_true rfl, Nat.le_of_ble_eq_true rfl⟩) (th_PV hK hH rfl hc_86) rfl rfl hl.1 rfl (lv_room (Nat.le_of_ble_eq_true rfl)) dX11_readDigits_42 ⟨Nat.le_of_ble_eq_true rfl, Nat.le_of_ble_eq_true rfl⟩) hS (fun σ_s_88 H locs hw_87 hH hS => ?_)
            obtain ⟨hO9, hF9, hM9, hw_87⟩ := hw_87
            replace hM := hM.tu hM9 (by decide)
            replace hF := hF.tu hF9 (by decide)
            have e_89 : gI σ_s_88 a 11 = a110 := (hM9.i (by decide)).trans ea110
            have e_90 : gI σ_s_88 a 13 = a130 := (hM9.i (by decide)).trans ea130
            have e_91 : gI σ_s_88 a 14 = a140 := (hM9.i (by decide)).trans ea140
            have e_92 : gI σ_s_88 a 17 = a170 := (hM9.i (by decide)).trans ea170
            have e_93 : gI σ_s_88 a 18 = z_70 := (hM9.i (by decide)).trans e_71
            replace hsr := hsr.mv hM9 (by decide) (by decide) (by decide) (by decide) (by decide)
            replace hO := hO9
            replace hw_87 : (¬ gI σ_s_88 a 19 = 0 ∧ (gI σ a 19 = 0 ∨ gI σ_s_88 a 19 = gI σ a 19)) ∧ ∃ c1 j1, RSt σ_s_88 a T c1 j1 ∧ (j1 = jt ∧ (fc = 0 → c1 = 2) ∧ (fc ≠ 0 → c1 = fc)) := hw_87
            have hn_94 := hw_87.2
            replace hw_87 := hw_87.1
            obtain ⟨cc_95, jj_96, hR_97, hn_94⟩ := hn_94
            have hVhR_97 := hR_97.1
            have hj9 := hn_94.1.symm
            subst hj9
            try simp only [h0_1, ne_eq, not_true_eq_false, not_false_eq_true, false_implies, true_implies, true_and, and_true, eq_self, false_or, or_false, false_and, and_false] at hn_94
            have h0_98 : ¬ cc_95 = 0 := by omega
            try simp only [h0_98, ne_eq, not_true_eq_false, not_false_eq_true, false_implies, true_implies, true_and, and_true, eq_self, false_or, or_false, false_and, and_false] at hVhR_97
            refine lv_aload_n hx hb dX11_readDigits_45 rfl (lv_at hl 0 rfl) ?_
            refine ok.getI hO h_a (by decide) k13_15 (fun _ _ he hv kk => th_get (ci := 11) (C := RX11) (T := TX11) (N := 66) hx hb hts inX11 hown hK hH he rfl 15 (by decide) fl1 hv dX11_readDigits_46 kk) (fun z_99 e_100 rz_99 lz_99 uz_99 => ?_)
            refine lv_istore_n (lv' := [(1, .int (I z_99)), (0, .ref a)]) hx hb dX11_readDigits_49 rfl hl (by decide) rfl (fun ls hl => ?_)
            refine lv_aload_n hx hb dX11_readDigits_50 rfl (lv_at hl 1 rfl) ?_
            obtain ⟨_, hc_101⟩ := hO.cell h_a (by decide) (ci := 11) rfl
            refine th_callv (va_runV (As := []) (rest := []) ⟨hx, hb, hml, hown, hts⟩ (n_pass l G y b0 σ_s_88 E hO a h_a Bf hsr T hSt cc_95 jt hR_97 (by omega) (by omega)) (cwV 0 hts gX11_readDigits_X11_pass rfl rfl rfl (by decide +kernel) ⟨Nat.le_of_ble_eq_true rfl, Nat.le_of_ble_eq_true rfl⟩) (th_PV hK hH rfl hc_101) rfl rfl hl.1 rfl (lv_room (Nat.le_of_ble_eq_true rfl)) dX11_readDigits_51 ⟨Nat.le_of_ble_eq_true rfl, Nat.le_of_ble_eq_true rfl⟩) hS (fun σ_s_103 H locs hw_102 hH hS => ?_)
            obtain ⟨hO9, hF9, hM9, hw_102⟩ := hw_102
            replace hM := hM.tu hM9 (by decide)
            replace hF := hF.tu hF9 (by decide)
            have e_104 : gI σ_s_103 a 11 = a110 := (hM9.i (by decide)).trans e_89
            replace hsr := hsr.mv hM9 (by decide) (by decide) (by decide) (by decide) (by decide)
            replace hO := hO9
            replace hw_102 : ((gI σ_s_88 a 13 ≤ gI σ_s_103 a 13 ∧ gI σ_s_103 a 13 ≤ gI σ_s_88 a 11 ∧ 0 ≤ gI σ_s_103 a 17 ∧ gI σ_s_103 a 17 ≤ gI σ_s_103 a 13) ∧ pgo (gI σ_s_103 a 19) (gI σ_s_103 a 14) (gI σ_s_88 a 13) (gI σ_s_103 a 13) ∧ gI σ_s_103 a 19 = gI σ_s_88 a 19) ∧ ∃ c1 j1, RSt σ_s_103 a T c1 j1 ∧ (c1 = cc_95 ∧ (cc_95 ≠ 0 → j1 = jt) ∧ (cc_95 = 0 → j1 = jt + 1)) := hw_102
            simp only [pgo, bdo] at hw_102
            have hn_105 := hw_102.2
            replace hw_102 := hw_102.1
            obtain ⟨cc_106, jj_107, hR_108, hn_105⟩ := hn_105
            have hVhR_108 := hR_108.1
            try simp only [h0_98, ne_eq, not_true_eq_false, not_false_eq_true, false_implies, true_implies, true_and, and_true, eq_self, false_or, or_false, false_and, and_false] at hn_105
            have h0_109 : ¬ cc_106 = 0 := by omega
            try simp only [h0_109, ne_eq, not_true_eq_false, not_false_eq_true, false_implies, true_implies, true_and, and_true, eq_self, false_or, or_false, false_and, and_false] at hVhR_108
            refine lv_iload_n hx hb dX11_readDigits_54 rfl (lv_at hl 0 rfl) ?_
            exact th_iret hx hb hr hlocks hH hS (z := z_99) rz_99 ⟨hO, hF, hM, ⟨⟨by omega, pgo.of (by omega), bdo.of (by omega)⟩, cc_106, jj_107, hR_108, by omega, by omega⟩⟩ dX11_readDigits_55
      · replace c_56 := mt (I_eq (a := a140) (b := 2) ra140 (show rng 2 from ⟨by decide, by decide⟩)).mpr c_56
        refine lv_aload_n hx hb dX11_readDigits_15 rfl (lv_at hl 0 rfl) ?_
        refine lv_iconst (v := I 1) hx hb dX11_readDigits_16 (by decide) ?_
        obtain ⟨_, hc_110⟩ := hO.cell h_a (by decide) (ci := 11) rfl
        refine th_callv (va_runV (As := [.int (I 1)]) (rest := []) ⟨hx, hb, hml, hown, hts⟩ (n_wrong l G y b0 σ E hO a h_a 1 (show rng 1 from (show rng 1 from ⟨by decide, by decide⟩)) (by omega) (by omega) Bf hsr T hSt fc jt hR0) (cwV 1 hts gX11_readDigits_X11_wrong rfl rfl rfl (by decide +kernel) ⟨Nat.le_of_ble_eq_true rfl, Nat.le_of_ble_eq_true rfl⟩) (th_PV hK hH rfl hc_110) rfl rfl hl.1 rfl (lv_room (Nat.le_of_ble_eq_true rfl)) dX11_readDigits_17 ⟨Nat.le_of_ble_eq_true rfl, Nat.le_of_ble_eq_true rfl⟩) hS (fun σ_s_112 H locs hw_111 hH hS => ?_)
        obtain ⟨hO9, hF9, hM9, hw_111⟩ := hw_111
        replace hM := hM.tu hM9 (by decide)
        replace hF := hF.tu hF9 (by decide)
        have e_113 : gI σ_s_112 a 11 = a110 := (hM9.i (by decide)).trans ea110
        have e_114 : gI σ_s_112 a 13 = a130 := (hM9.i (by decide)).trans ea130
        have e_115 : gI σ_s_112 a 14 = a140 := (hM9.i (by decide)).trans ea140
        have e_116 : gI σ_s_112 a 17 = a170 := (hM9.i (by decide)).trans ea170
        replace hsr := hsr.mv hM9 (by decide) (by decide) (by decide) (by decide) (by decide)
        replace hO := hO9
        replace hw_111 : (¬ gI σ_s_112 a 19 = 0 ∧ (gI σ a 19 = 0 ∨ gI σ_s_112 a 19 = gI σ a 19)) ∧ ∃ c1 j1, RSt σ_s_112 a T c1 j1 ∧ (j1 = jt ∧ (fc = 0 → c1 = 1) ∧ (fc ≠ 0 → c1 = fc)) := hw_111
        have hn_117 := hw_111.2
        replace hw_111 := hw_111.1
        obtain ⟨cc_118, jj_119, hR_120, hn_117⟩ := hn_117
        have hVhR_120 := hR_120.1
        have hj9 := hn_117.1.symm
        subst hj9
        try simp only [h0_1, ne_eq, not_true_eq_false, not_false_eq_true, false_implies, true_implies, true_and, and_true, eq_self, false_or, or_false, false_and, and_false] at hn_117
        have h0_121 : ¬ cc_118 = 0 := by omega
        try simp only [h0_121, ne_eq, not_true_eq_false, not_false_eq_true, false_implies, true_implies, true_and, and_true, eq_self, false_or, or_false, false_and, and_false] at hVhR_120
        refine lv_aload_n hx hb dX11_readDigits_20 rfl (lv_at hl 0 rfl) ?_
        refine ok.getI hO h_a (by decide) k13_19 (fun _ _ he hv kk => th_get (ci := 11) (C := RX11) (T := TX11) (N := 66) hx hb hts inX11 hown hK hH he rfl 19 (by decide) fl0 hv dX11_readDigits_21 kk) (fun z_122 e_123 rz_122 lz_122 uz_122 => ?_)
        refine lv_if_ne (tgt := 45) hx hb dX11_readDigits_24 (by decide) (fun c_124 => ?_) (fun c_124 => ?_)
        · replace c_124 := mt (I_eq (a := z_122) (b := 0) rz_122 (show rng 0 from ⟨by decide, by decide⟩)).mpr c_124
          refine lv_aload_n hx hb dX11_readDigits_45 rfl (lv_at hl 0 rfl) ?_
          refine ok.getI hO h_a (by decide) k13_15 (fun _ _ he hv kk => th_get (ci := 11) (C := RX11) (T := TX11) (N := 66) hx hb hts inX11 hown hK hH he rfl 15 (by decide) fl1 hv dX11_readDigits_46 kk) (fun z_125 e_126 rz_125 lz_125 uz_125 => ?_)
          refine lv_istore_n (lv' := [(1, .int (I z_125)), (0, .ref a)]) hx hb dX11_readDigits_49 rfl hl (by decide) rfl (fun ls hl => ?_)
          refine lv_aload_n hx hb dX11_readDigits_50 rfl (lv_at hl 1 rfl) ?_
          obtain ⟨_, hc_127⟩ := hO.cell h_a (by decide) (ci := 11) rfl
          refine th_callv (va_runV (As := []) (rest := []) ⟨hx, hb, hml, hown, hts⟩ (n_pass l G y b0 σ_s_112 E hO a h_a Bf hsr T hSt cc_118 jt hR_120 (by omega) (by omega)) (cwV 0 hts gX11_readDigits_X11_pass rfl rfl rfl (by decide +kernel) ⟨Nat.le_of_ble_eq_true rfl, Nat.le_of_ble_eq_true rfl⟩) (th_PV hK hH rfl hc_127) rfl rfl hl.1 rfl (lv_room (Nat.le_of_ble_eq_true rfl)) dX11_readDigits_51 ⟨Nat.le_of_ble_eq_true rfl, Nat.le_of_ble_eq_true rfl⟩) hS (fun σ_s_129 H locs hw_128 hH hS => ?_)
          obtain ⟨hO9, hF9, hM9, hw_128⟩ := hw_128
          replace hM := hM.tu hM9 (by decide)
          replace hF := hF.tu hF9 (by decide)
          have e_130 : gI σ_s_129 a 11 = a110 := (hM9.i (by decide)).trans e_113
          have e_131 : gI σ_s_129 a 19 = z_122 := (hM9.i (by decide)).trans e_123
          replace hsr := hsr.mv hM9 (by decide) (by decide) (by decide) (by decide) (by decide)
          replace hO := hO9
          replace hw_128 : ((gI σ_s_112 a 13 ≤ gI σ_s_129 a 13 ∧ gI σ_s_129 a 13 ≤ gI σ_s_112 a 11 ∧ 0 ≤ gI σ_s_129 a 17 ∧ gI σ_s_129 a 17 ≤ gI σ_s_129 a 13) ∧ pgo (gI σ_s_129 a 19) (gI σ_s_129 a 14) (gI σ_s_112 a 13) (gI σ_s_129 a 13) ∧ gI σ_s_129 a 19 = gI σ_s_112 a 19) ∧ ∃ c1 j1, RSt σ_s_129 a T c1 j1 ∧ (c1 = cc_118 ∧ (cc_118 ≠ 0 → j1 = jt) ∧ (cc_118 = 0 → j1 = jt + 1)) := hw_128
          simp only [pgo, bdo] at hw_128
          have hn_132 := hw_128.2
          replace hw_128 := hw_128.1
          obtain ⟨cc_133, jj_134, hR_135, hn_132⟩ := hn_132
          have hVhR_135 := hR_135.1
          try simp only [h0_121, ne_eq, not_true_eq_false, not_false_eq_true, false_implies, true_implies, true_and, and_true, eq_self, false_or, or_false, false_and, and_false] at hn_132
          have h0_136 : ¬ cc_133 = 0 := by omega
          try simp only [h0_136, ne_eq, not_true_eq_false, not_false_eq_true, false_implies, true_implies, true_and, and_true, eq_self, false_or, or_false, false_and, and_false] at hVhR_135
          refine lv_iload_n hx hb dX11_readDigits_54 rfl (lv_at hl 0 rfl) ?_
          exact th_iret hx hb hr hlocks hH hS (z := z_125) rz_125 ⟨hO, hF, hM, ⟨⟨by omega, pgo.of (by omega), bdo.of (by omega)⟩, cc_133, jj_134, hR_135, by omega, by omega⟩⟩ dX11_readDigits_55
        · replace c_124 := (I_eq (a := z_122) (b := 0) rz_122 (show rng 0 from ⟨by decide, by decide⟩)).mp c_124
          refine lv_aload_n hx hb dX11_readDigits_27 rfl (lv_at hl 0 rfl) ?_
          refine ok.getI hO h_a (by decide) k13_18 (fun _ _ he hv kk => th_get (ci := 11) (C := RX11) (T := TX11) (N := 66) hx hb hts inX11 hown hK hH he rfl 18 (by decide) fl2 hv dX11_readDigits_28 kk) (fun z_137 e_138 rz_137 lz_137 uz_137 => ?_)
          refine lv_aload_n hx hb dX11_readDigits_31 rfl (lv_at hl 0 rfl) ?_
          refine ok.getIc hO h_a (by decide) k13_17 e_116 (fun _ _ he hv kk => th_get (ci := 11) (C := RX11) (T := TX11) (N := 66) hx hb hts inX11 hown hK hH he rfl 17 (by decide) fl3 hv dX11_readDigits_32 kk) ?_
          refine lv_isub hx hb dX11_readDigits_35 ?_
          refine th_subo (fun z_139 rz_139 hz_139 => ?_)
          refine lv_iconst (v := I 3) hx hb dX11_readDigits_36 (by decide) ?_
          refine lv_icmp_le (tgt := 45) hx hb dX11_readDigits_37 (by decide) (fun c_140 => ?_) (fun c_140 => ?_)
          · replace c_140 := (I_le (a := z_139) (b := 3) rz_139 (show rng 3 from ⟨by decide, by decide⟩)).mp c_140
            refine lv_aload_n hx hb dX11_readDigits_45 rfl (lv_at hl 0 rfl) ?_
            refine ok.getI hO h_a (by decide) k13_15 (fun _ _ he hv kk => th_get (ci := 11) (C := RX11) (T := TX11) (N := 66) hx hb hts inX11 hown hK hH he rfl 15 (by decide) fl1 hv dX11_readDigits_46 kk) (fun z_141 e_142 rz_141 lz_141 uz_141 => ?_)
            refine lv_istore_n (lv' := [(1, .int (I z_141)), (0, .ref a)]) hx hb dX11_readDigits_49 rfl hl (by decide) rfl (fun ls hl => ?_)
            refine lv_aload_n hx hb dX11_readDigits_50 rfl (lv_at hl 1 rfl) ?_
            obtain ⟨_, hc_143⟩ := hO.cell h_a (by decide) (ci := 11) rfl
            refine th_callv (va_runV (As := []) (rest := []) ⟨hx, hb, hml, hown, hts⟩ (n_pass l G y b0 σ_s_112 E hO a h_a Bf hsr T hSt cc_118 jt hR_120 (by omega) (by omega)) (cwV 0 hts gX11_readDigits_X11_pass rfl rfl rfl (by decide +kernel) ⟨Nat.le_of_ble_eq_true rfl, Nat.le_of_ble_eq_true rfl⟩) (th_PV hK hH rfl hc_143) rfl rfl hl.1 rfl (lv_room (Nat.le_of_ble_eq_true rfl)) dX11_readDigits_51 ⟨Nat.le_of_ble_eq_true rfl, Nat.le_of_ble_eq_true rfl⟩) hS (fun σ_s_145 H locs hw_144 hH hS => ?_)
            obtain ⟨hO9, hF9, hM9, hw_144⟩ := hw_144
            replace hM := hM.tu hM9 (by decide)
            replace hF := hF.tu hF9 (by decide)
            have e_146 : gI σ_s_145 a 11 = a110 := (hM9.i (by decide)).trans e_113
            have e_147 : gI σ_s_145 a 19 = z_122 := (hM9.i (by decide)).trans e_123
            replace hsr := hsr.mv hM9 (by decide) (by decide) (by decide) (by decide) (by decide)
            replace hO := hO9
            replace hw_144 : ((gI σ_s_112 a 13 ≤ gI σ_s_145 a 13 ∧ gI σ_s_145 a 13 ≤ gI σ_s_112 a 11 ∧ 0 ≤ gI σ_s_145 a 17 ∧ gI σ_s_145 a 17 ≤ gI σ_s_145 a 13) ∧ pgo (gI σ_s_145 a 19) (gI σ_s_145 a 14) (gI σ_s_112 a 13) (gI σ_s_145 a 13) ∧ gI σ_s_145 a 19 = gI σ_s_112 a 19) ∧ ∃ c1 j1, RSt σ_s_145 a T c1 j1 ∧ (c1 = cc_118 ∧ (cc_118 ≠ 0 → j1 = jt) ∧ (cc_118 = 0 → j1 = jt + 1)) := hw_144
            simp only [pgo, bdo] at hw_144
            have hn_148 := hw_144.2
            replace hw_144 := hw_144.1
            obtain ⟨cc_149, jj_150, hR_151, hn_148⟩ := hn_148
            have hVhR_151 := hR_151.1
            try simp only [h0_121, ne_eq, not_true_eq_false, not_false_eq_true, false_implies, true_implies, true_and, and_true, eq_self, false_or, or_false, false_and, and_false] at hn_148
            have h0_152 : ¬ cc_149 = 0 := by omega
            try simp only [h0_152, ne_eq, not_true_eq_false, not_false_eq_true, false_implies, true_implies, true_and, and_true, eq_self, false_or, or_false, false_and, and_false] at hVhR_151
            refine lv_iload_n hx hb dX11_readDigits_54 rfl (lv_at hl 0 rfl) ?_
            exact th_iret hx hb hr hlocks hH hS (z := z_141) rz_141 ⟨hO, hF, hM, ⟨⟨by omega, pgo.of (by omega), bdo.of (by omega)⟩, cc_149, jj_150, hR_151, by omega, by omega⟩⟩ dX11_readDigits_55
          · replace c_140 := mt (I_le (a := z_139) (b := 3) rz_139 (show rng 3 from ⟨by decide, by decide⟩)).mpr c_140
            refine lv_aload_n hx hb dX11_readDigits_40 rfl (lv_at hl 0 rfl) ?_
            refine lv_iconst (v := I 2) hx hb dX11_readDigits_41 (by decide) ?_
            obtain ⟨_, hc_153⟩ := hO.cell h_a (by decide) (ci := 11) rfl
            refine th_callv (va_runV (As := [.int (I 2)]) (rest := []) ⟨hx, hb, hml, hown, hts⟩ (n_wrong l G y b0 σ_s_112 E hO a h_a 2 (show rng 2 from (show rng 2 from ⟨by decide, by decide⟩)) (by omega) (by omega) Bf hsr T hSt cc_118 jt hR_120) (cwV 1 hts gX11_readDigits_X11_wrong rfl rfl rfl (by decide +kernel) ⟨Nat.le_of_ble_eq_true rfl, Nat.le_of_ble_eq_true rfl⟩) (th_PV hK hH rfl hc_153) rfl rfl hl.1 rfl (lv_room (Nat.le_of_ble_eq_true rfl)) dX11_readDigits_42 ⟨Nat.le_of_ble_eq_true rfl, Nat.le_of_ble_eq_true rfl⟩) hS (fun σ_s_155 H locs hw_154 hH hS => ?_)
            obtain ⟨hO9, hF9, hM9, hw_154⟩ := hw_154
            replace hM := hM.tu hM9 (by decide)
            replace hF := hF.tu hF9 (by decide)
            have e_156 : gI σ_s_155 a 11 = a110 := (hM9.i (by decide)).trans e_113
            have e_157 : gI σ_s_155 a 13 = a130 := (hM9.i (by decide)).trans e_114
            have e_158 : gI σ_s_155 a 14 = a140 := (hM9.i (by decide)).trans e_115
            have e_159 : gI σ_s_155 a 17 = a170 := (hM9.i (by decide)).trans e_116
            have e_160 : gI σ_s_155 a 18 = z_137 := (hM9.i (by decide)).trans e_138
            replace hsr := hsr.mv hM9 (by decide) (by decide) (by decide) (by decide) (by decide)
            replace hO := hO9
            replace hw_154 : (¬ gI σ_s_155 a 19 = 0 ∧ (gI σ_s_112 a 19 = 0 ∨ gI σ_s_155 a 19 = gI σ_s_112 a 19)) ∧ ∃ c1 j1, RSt σ_s_155 a T c1 j1 ∧ (j1 = jt ∧ (cc_118 = 0 → c1 = 2) ∧ (cc_118 ≠ 0 → c1 = cc_118)) := hw_154
            have hn_161 := hw_154.2
            replace hw_154 := hw_154.1
            obtain ⟨cc_162, jj_163, hR_164, hn_161⟩ := hn_161
            have hVhR_164 := hR_164.1
            have hj9 := hn_161.1.symm
            subst hj9
            try simp only [h0_121, ne_eq, not_true_eq_false, not_false_eq_true, false_implies, true_implies, true_and, and_true, eq_self, false_or, or_false, false_and, and_false] at hn_161
            have h0_165 : ¬ cc_162 = 0 := by omega
            try simp only [h0_165, ne_eq, not_true_eq_false, not_false_eq_true, false_implies, true_implies, true_and, and_true, eq_self, false_or, or_false, false_and, and_false] at hVhR_164
            refine lv_aload_n hx hb dX11_readDigits_45 rfl (lv_at hl 0 rfl) ?_
            refine ok.getI hO h_a (by decide) k13_15 (fun _ _ he hv kk => th_get (ci := 11) (C := RX11) (T := TX11) (N := 66) hx hb hts inX11 hown hK hH he rfl 15 (by decide) fl1 hv dX11_readDigits_46 kk) (fun z_166 e_167 rz_166 lz_166 uz_166 => ?_)
            refine lv_istore_n (lv' := [(1, .int (I z_166)), (0, .ref a)]) hx hb dX11_readDigits_49 rfl hl (by decide) rfl (fun ls hl => ?_)
            refine lv_aload_n hx hb dX11_readDigits_50 rfl (lv_at hl 1 rfl) ?_
            obtain ⟨_, hc_168⟩ := hO.cell h_a (by decide) (ci := 11) rfl
            refine th_callv (va_runV (As := []) (rest := []) ⟨hx, hb, hml, hown, hts⟩ (n_pass l G y b0 σ_s_155 E hO a h_a Bf hsr T hSt cc_162 jt hR_164 (by omega) (by omega)) (cwV 0 hts gX11_readDigits_X11_pass rfl rfl rfl (by decide +kernel) ⟨Nat.le_of_ble_eq_true rfl, Nat.le_of_ble_eq_true rfl⟩) (th_PV hK hH rfl hc_168) rfl rfl hl.1 rfl (lv_room (Nat.le_of_ble_eq_true rfl)) dX11_readDigits_51 ⟨Nat.le_of_ble_eq_true rfl, Nat.le_of_ble_eq_true rfl⟩) hS (fun σ_s_170 H locs hw_169 hH hS => ?_)
            obtain ⟨hO9, hF9, hM9, hw_169⟩ := hw_169
            replace hM := hM.tu hM9 (by decide)
            replace hF := hF.tu hF9 (by decide)
            have e_171 : gI σ_s_170 a 11 = a110 := (hM9.i (by decide)).trans e_156
            replace hsr := hsr.mv hM9 (by decide) (by decide) (by decide) (by decide) (by decide)
            replace hO := hO9
            replace hw_169 : ((gI σ_s_155 a 13 ≤ gI σ_s_170 a 13 ∧ gI σ_s_170 a 13 ≤ gI σ_s_155 a 11 ∧ 0 ≤ gI σ_s_170 a 17 ∧ gI σ_s_170 a 17 ≤ gI σ_s_170 a 13) ∧ pgo (gI σ_s_170 a 19) (gI σ_s_170 a 14) (gI σ_s_155 a 13) (gI σ_s_170 a 13) ∧ gI σ_s_170 a 19 = gI σ_s_155 a 19) ∧ ∃ c1 j1, RSt σ_s_170 a T c1 j1 ∧ (c1 = cc_162 ∧ (cc_162 ≠ 0 → j1 = jt) ∧ (cc_162 = 0 → j1 = jt + 1)) := hw_169
            simp only [pgo, bdo] at hw_169
            have hn_172 := hw_169.2
            replace hw_169 := hw_169.1
            obtain ⟨cc_173, jj_174, hR_175, hn_172⟩ := hn_172
            have hVhR_175 := hR_175.1
            try simp only [h0_165, ne_eq, not_true_eq_false, not_false_eq_true, false_implies, true_implies, true_and, and_true, eq_self, false_or, or_false, false_and, and_false] at hn_172
            have h0_176 : ¬ cc_173 = 0 := by omega
            try simp only [h0_176, ne_eq, not_true_eq_false, not_false_eq_true, false_implies, true_implies, true_and, and_true, eq_self, false_or, or_false, false_and, and_false] at hVhR_175
            refine lv_iload_n hx hb dX11_readDigits_54 rfl (lv_at hl 0 rfl) ?_
            exact th_iret hx hb hr hlocks hH hS (z := z_166) rz_166 ⟨hO, hF, hM, ⟨⟨by omega, pgo.of (by omega), bdo.of (by omega)⟩, cc_173, jj_174, hR_175, by omega, by omega⟩⟩ dX11_readDigits_55
  · try simp only [h0_1, ne_eq, not_true_eq_false, not_false_eq_true, false_implies, true_implies, true_and, and_true, eq_self, false_or, or_false, false_and, and_false] at hV0
    refine lv_aload_n hx hb dX11_readDigits_0 rfl (lv_at hl 0 rfl) ?_
    refine ok.getIc hO h_a (by decide) k13_19 ea190 (fun _ _ he hv kk => th_get (ci := 11) (C := RX11) (T := TX11) (N := 66) hx hb hts inX11 hown hK hH he rfl 19 (by decide) fl0 hv dX11_readDigits_1 kk) ?_
    refine lv_if_ne (tgt := 20) hx hb dX11_readDigits_4 (by decide) (fun c_177 => ?_) (fun c_177 => ?_)
    · replace c_177 := mt (I_eq (a := a190) (b := 0) ra190 (show rng 0 from ⟨by decide, by decide⟩)).mpr c_177
      refine lv_aload_n hx hb dX11_readDigits_20 rfl (lv_at hl 0 rfl) ?_
      refine ok.getIc hO h_a (by decide) k13_19 ea190 (fun _ _ he hv kk => th_get (ci := 11) (C := RX11) (T := TX11) (N := 66) hx hb hts inX11 hown hK hH he rfl 19 (by decide) fl0 hv dX11_readDigits_21 kk) ?_
      refine lv_if_ne (tgt := 45) hx hb dX11_readDigits_24 (by decide) (fun c_178 => ?_) (fun c_178 => ?_)
      · replace c_178 := mt (I_eq (a := a190) (b := 0) ra190 (show rng 0 from ⟨by decide, by decide⟩)).mpr c_178
        refine lv_aload_n hx hb dX11_readDigits_45 rfl (lv_at hl 0 rfl) ?_
        refine ok.getI hO h_a (by decide) k13_15 (fun _ _ he hv kk => th_get (ci := 11) (C := RX11) (T := TX11) (N := 66) hx hb hts inX11 hown hK hH he rfl 15 (by decide) fl1 hv dX11_readDigits_46 kk) (fun z_179 e_180 rz_179 lz_179 uz_179 => ?_)
        refine lv_istore_n (lv' := [(1, .int (I z_179)), (0, .ref a)]) hx hb dX11_readDigits_49 rfl hl (by decide) rfl (fun ls hl => ?_)
        refine lv_aload_n hx hb dX11_readDigits_50 rfl (lv_at hl 1 rfl) ?_
        obtain ⟨_, hc_181⟩ := hO.cell h_a (by decide) (ci := 11) rfl
        refine th_callv (va_runV (As := []) (rest := []) ⟨hx, hb, hml, hown, hts⟩ (n_pass l G y b0 σ E hO a h_a Bf hsr T hSt fc jt hR0 (by omega) (by omega)) (cwV 0 hts gX11_readDigits_X11_pass rfl rfl rfl (by decide +kernel) ⟨Nat.le_of_ble_eq_true rfl, Nat.le_of_ble_eq_true rfl⟩) (th_PV hK hH rfl hc_181) rfl rfl hl.1 rfl (lv_room (Nat.le_of_ble_eq_true rfl)) dX11_readDigits_51 ⟨Nat.le_of_ble_eq_true rfl, Nat.le_of_ble_eq_true rfl⟩) hS (fun σ_s_183 H locs hw_182 hH hS => ?_)
        obtain ⟨hO9, hF9, hM9, hw_182⟩ := hw_182
        replace hM := hM.tu hM9 (by decide)
        replace hF := hF.tu hF9 (by decide)
        have e_184 : gI σ_s_183 a 11 = a110 := (hM9.i (by decide)).trans ea110
        have e_185 : gI σ_s_183 a 19 = a190 := (hM9.i (by decide)).trans ea190
        replace hsr := hsr.mv hM9 (by decide) (by decide) (by decide) (by decide) (by decide)
        replace hO := hO9
        replace hw_182 : ((gI σ a 13 ≤ gI σ_s_183 a 13 ∧ gI σ_s_183 a 13 ≤ gI σ a 11 ∧ 0 ≤ gI σ_s_183 a 17 ∧ gI σ_s_183 a 17 ≤ gI σ_s_183 a 13) ∧ pgo (gI σ_s_183 a 19) (gI σ_s_183 a 14) (gI σ a 13) (gI σ_s_183 a 13) ∧ gI σ_s_183 a 19 = gI σ a 19) ∧ ∃ c1 j1, RSt σ_s_183 a T c1 j1 ∧ (c1 = fc ∧ (fc ≠ 0 → j1 = jt) ∧ (fc = 0 → j1 = jt + 1)) := hw_182
        simp only [pgo, bdo] at hw_182
        have hn_186 := hw_182.2
        replace hw_182 := hw_182.1
        obtain ⟨cc_187, jj_188, hR_189, hn_186⟩ := hn_186
        have hVhR_189 := hR_189.1
        try simp only [h0_1, ne_eq, not_true_eq_false, not_false_eq_true, false_implies, true_implies, true_and, and_true, eq_self, false_or, or_false, false_and, and_false] at hn_186
        have h0_190 : ¬ cc_187 = 0 := by omega
        try simp only [h0_190, ne_eq, not_true_eq_false, not_false_eq_true, false_implies, true_implies, true_and, and_true, eq_self, false_or, or_false, false_and, and_false] at hVhR_189
        refine lv_iload_n hx hb dX11_readDigits_54 rfl (lv_at hl 0 rfl) ?_
        exact th_iret hx hb hr hlocks hH hS (z := z_179) rz_179 ⟨hO, hF, hM, ⟨⟨by omega, pgo.of (by omega), bdo.of (by omega)⟩, cc_187, jj_188, hR_189, by omega, by omega⟩⟩ dX11_readDigits_55
      · replace c_178 := (I_eq (a := a190) (b := 0) ra190 (show rng 0 from ⟨by decide, by decide⟩)).mp c_178
        refine lv_aload_n hx hb dX11_readDigits_27 rfl (lv_at hl 0 rfl) ?_
        refine ok.getI hO h_a (by decide) k13_18 (fun _ _ he hv kk => th_get (ci := 11) (C := RX11) (T := TX11) (N := 66) hx hb hts inX11 hown hK hH he rfl 18 (by decide) fl2 hv dX11_readDigits_28 kk) (fun z_191 e_192 rz_191 lz_191 uz_191 => ?_)
        refine lv_aload_n hx hb dX11_readDigits_31 rfl (lv_at hl 0 rfl) ?_
        refine ok.getIc hO h_a (by decide) k13_17 ea170 (fun _ _ he hv kk => th_get (ci := 11) (C := RX11) (T := TX11) (N := 66) hx hb hts inX11 hown hK hH he rfl 17 (by decide) fl3 hv dX11_readDigits_32 kk) ?_
        refine lv_isub hx hb dX11_readDigits_35 ?_
        refine th_subo (fun z_193 rz_193 hz_193 => ?_)
        refine lv_iconst (v := I 3) hx hb dX11_readDigits_36 (by decide) ?_
        refine lv_icmp_le (tgt := 45) hx hb dX11_readDigits_37 (by decide) (fun c_194 => ?_) (fun c_194 => ?_)
        · replace c_194 := (I_le (a := z_193) (b := 3) rz_193 (show rng 3 from ⟨by decide, by decide⟩)).mp c_194
          refine lv_aload_n hx hb dX11_readDigits_45 rfl (lv_at hl 0 rfl) ?_
          refine ok.getI hO h_a (by decide) k13_15 (fun _ _ he hv kk => th_get (ci := 11) (C := RX11) (T := TX11) (N := 66) hx hb hts inX11 hown hK hH he rfl 15 (by decide) fl1 hv dX11_readDigits_46 kk) (fun z_195 e_196 rz_195 lz_195 uz_195 => ?_)
          refine lv_istore_n (lv' := [(1, .int (I z_195)), (0, .ref a)]) hx hb dX11_readDigits_49 rfl hl (by decide) rfl (fun ls hl => ?_)
          refine lv_aload_n hx hb dX11_readDigits_50 rfl (lv_at hl 1 rfl) ?_
          obtain ⟨_, hc_197⟩ := hO.cell h_a (by decide) (ci := 11) rfl
          refine th_callv (va_runV (As := []) (rest := []) ⟨hx, hb, hml, hown, hts⟩ (n_pass l G y b0 σ E hO a h_a Bf hsr T hSt fc jt hR0 (by omega) (by omega)) (cwV 0 hts gX11_readDigits_X11_pass rfl rfl rfl (by decide +kernel) ⟨Nat.le_of_ble_eq_true rfl, Nat.le_of_ble_eq_true rfl⟩) (th_PV hK hH rfl hc_197) rfl rfl hl.1 rfl (lv_room (Nat.le_of_ble_eq_true rfl)) dX11_readDigits_51 ⟨Nat.le_of_ble_eq_true rfl, Nat.le_of_ble_eq_true rfl⟩) hS (fun σ_s_199 H locs hw_198 hH hS => ?_)
          obtain ⟨hO9, hF9, hM9, hw_198⟩ := hw_198
          replace hM := hM.tu hM9 (by decide)
          replace hF := hF.tu hF9 (by decide)
          have e_200 : gI σ_s_199 a 11 = a110 := (hM9.i (by decide)).trans ea110
          have e_201 : gI σ_s_199 a 19 = a190 := (hM9.i (by decide)).trans ea190
          replace hsr := hsr.mv hM9 (by decide) (by decide) (by decide) (by decide) (by decide)
          replace hO := hO9
          replace hw_198 : ((gI σ a 13 ≤ gI σ_s_199 a 13 ∧ gI σ_s_199 a 13 ≤ gI σ a 11 ∧ 0 ≤ gI σ_s_199 a 17 ∧ gI σ_s_199 a 17 ≤ gI σ_s_199 a 13) ∧ pgo (gI σ_s_199 a 19) (gI σ_s_199 a 14) (gI σ a 13) (gI σ_s_199 a 13) ∧ gI σ_s_199 a 19 = gI σ a 19) ∧ ∃ c1 j1, RSt σ_s_199 a T c1 j1 ∧ (c1 = fc ∧ (fc ≠ 0 → j1 = jt) ∧ (fc = 0 → j1 = jt + 1)) := hw_198
          simp only [pgo, bdo] at hw_198
          have hn_202 := hw_198.2
          replace hw_198 := hw_198.1
          obtain ⟨cc_203, jj_204, hR_205, hn_202⟩ := hn_202
          have hVhR_205 := hR_205.1
          try simp only [h0_1, ne_eq, not_true_eq_false, not_false_eq_true, false_implies, true_implies, true_and, and_true, eq_self, false_or, or_false, false_and, and_false] at hn_202
          have h0_206 : ¬ cc_203 = 0 := by omega
          try simp only [h0_206, ne_eq, not_true_eq_false, not_false_eq_true, false_implies, true_implies, true_and, and_true, eq_self, false_or, or_false, false_and, and_false] at hVhR_205
          refine lv_iload_n hx hb dX11_readDigits_54 rfl (lv_at hl 0 rfl) ?_
          exact th_iret hx hb hr hlocks hH hS (z := z_195) rz_195 ⟨hO, hF, hM, ⟨⟨by omega, pgo.of (by omega), bdo.of (by omega)⟩, cc_203, jj_204, hR_205, by omega, by omega⟩⟩ dX11_readDigits_55
        · replace c_194 := mt (I_le (a := z_193) (b := 3) rz_193 (show rng 3 from ⟨by decide, by decide⟩)).mpr c_194
          refine lv_aload_n hx hb dX11_readDigits_40 rfl (lv_at hl 0 rfl) ?_
          refine lv_iconst (v := I 2) hx hb dX11_readDigits_41 (by decide) ?_
          obtain ⟨_, hc_207⟩ := hO.cell h_a (by decide) (ci := 11) rfl
          refine th_callv (va_runV (As := [.int (I 2)]) (rest := []) ⟨hx, hb, hml, hown, hts⟩ (n_wrong l G y b0 σ E hO a h_a 2 (show rng 2 from (show rng 2 from ⟨by decide, by decide⟩)) (by omega) (by omega) Bf hsr T hSt fc jt hR0) (cwV 1 hts gX11_readDigits_X11_wrong rfl rfl rfl (by decide +kernel) ⟨Nat.le_of_ble_eq_true rfl, Nat.le_of_ble_eq_true rfl⟩) (th_PV hK hH rfl hc_207) rfl rfl hl.1 rfl (lv_room (Nat.le_of_ble_eq_true rfl)) dX11_readDigits_42 ⟨Nat.le_of_ble_eq_true rfl, Nat.le_of_ble_eq_true rfl⟩) hS (fun σ_s_209 H locs hw_208 hH hS => ?_)
          obtain ⟨hO9, hF9, hM9, hw_208⟩ := hw_208
          replace hM := hM.tu hM9 (by decide)
          replace hF := hF.tu hF9 (by decide)
          have e_210 : gI σ_s_209 a 11 = a110 := (hM9.i (by decide)).trans ea110
          have e_211 : gI σ_s_209 a 13 = a130 := (hM9.i (by decide)).trans ea130
          have e_212 : gI σ_s_209 a 14 = a140 := (hM9.i (by decide)).trans ea140
          have e_213 : gI σ_s_209 a 17 = a170 := (hM9.i (by decide)).trans ea170
          have e_214 : gI σ_s_209 a 18 = z_191 := (hM9.i (by decide)).trans e_192
          replace hsr := hsr.mv hM9 (by decide) (by decide) (by decide) (by decide) (by decide)
          replace hO := hO9
          replace hw_208 : (¬ gI σ_s_209 a 19 = 0 ∧ (gI σ a 19 = 0 ∨ gI σ_s_209 a 19 = gI σ a 19)) ∧ ∃ c1 j1, RSt σ_s_209 a T c1 j1 ∧ (j1 = jt ∧ (fc = 0 → c1 = 2) ∧ (fc ≠ 0 → c1 = fc)) := hw_208
          have hn_215 := hw_208.2
          replace hw_208 := hw_208.1
          obtain ⟨cc_216, jj_217, hR_218, hn_215⟩ := hn_215
          have hVhR_218 := hR_218.1
          have hj9 := hn_215.1.symm
          subst hj9
          try simp only [h0_1, ne_eq, not_true_eq_false, not_false_eq_true, false_implies, true_implies, true_and, and_true, eq_self, false_or, or_false, false_and, and_false] at hn_215
          have h0_219 : ¬ cc_216 = 0 := by omega
          try simp only [h0_219, ne_eq, not_true_eq_false, not_false_eq_true, false_implies, true_implies, true_and, and_true, eq_self, false_or, or_false, false_and, and_false] at hVhR_218
          refine lv_aload_n hx hb dX11_readDigits_45 rfl (lv_at hl 0 rfl) ?_
          refine ok.getI hO h_a (by decide) k13_15 (fun _ _ he hv kk => th_get (ci := 11) (C := RX11) (T := TX11) (N := 66) hx hb hts inX11 hown hK hH he rfl 15 (by decide) fl1 hv dX11_readDigits_46 kk) (fun z_220 e_221 rz_220 lz_220 uz_220 => ?_)
          refine lv_istore_n (lv' := [(1, .int (I z_220)), (0, .ref a)]) hx hb dX11_readDigits_49 rfl hl (by decide) rfl (fun ls hl => ?_)
          refine lv_aload_n hx hb dX11_readDigits_50 rfl (lv_at hl 1 rfl) ?_
          obtain ⟨_, hc_222⟩ := hO.cell h_a (by decide) (ci := 11) rfl
          refine th_callv (va_runV (As := []) (rest := []) ⟨hx, hb, hml, hown, hts⟩ (n_pass l G y b0 σ_s_209 E hO a h_a Bf hsr T hSt cc_216 jt hR_218 (by omega) (by omega)) (cwV 0 hts gX11_readDigits_X11_pass rfl rfl rfl (by decide +kernel) ⟨Nat.le_of_ble_eq_true rfl, Nat.le_of_ble_eq_true rfl⟩) (th_PV hK hH rfl hc_222) rfl rfl hl.1 rfl (lv_room (Nat.le_of_ble_eq_true rfl)) dX11_readDigits_51 ⟨Nat.le_of_ble_eq_true rfl, Nat.le_of_ble_eq_true rfl⟩) hS (fun σ_s_224 H locs hw_223 hH hS => ?_)
          obtain ⟨hO9, hF9, hM9, hw_223⟩ := hw_223
          replace hM := hM.tu hM9 (by decide)
          replace hF := hF.tu hF9 (by decide)
          have e_225 : gI σ_s_224 a 11 = a110 := (hM9.i (by decide)).trans e_210
          replace hsr := hsr.mv hM9 (by decide) (by decide) (by decide) (by decide) (by decide)
          replace hO := hO9
          replace hw_223 : ((gI σ_s_209 a 13 ≤ gI σ_s_224 a 13 ∧ gI σ_s_224 a 13 ≤ gI σ_s_209 a 11 ∧ 0 ≤ gI σ_s_224 a 17 ∧ gI σ_s_224 a 17 ≤ gI σ_s_224 a 13) ∧ pgo (gI σ_s_224 a 19) (gI σ_s_224 a 14) (gI σ_s_209 a 13) (gI σ_s_224 a 13) ∧ gI σ_s_224 a 19 = gI σ_s_209 a 19) ∧ ∃ c1 j1, RSt σ_s_224 a T c1 j1 ∧ (c1 = cc_216 ∧ (cc_216 ≠ 0 → j1 = jt) ∧ (cc_216 = 0 → j1 = jt + 1)) := hw_223
          simp only [pgo, bdo] at hw_223
          have hn_226 := hw_223.2
          replace hw_223 := hw_223.1
          obtain ⟨cc_227, jj_228, hR_229, hn_226⟩ := hn_226
          have hVhR_229 := hR_229.1
          try simp only [h0_219, ne_eq, not_true_eq_false, not_false_eq_true, false_implies, true_implies, true_and, and_true, eq_self, false_or, or_false, false_and, and_false] at hn_226
          have h0_230 : ¬ cc_227 = 0 := by omega
          try simp only [h0_230, ne_eq, not_true_eq_false, not_false_eq_true, false_implies, true_implies, true_and, and_true, eq_self, false_or, or_false, false_and, and_false] at hVhR_229
          refine lv_iload_n hx hb dX11_readDigits_54 rfl (lv_at hl 0 rfl) ?_
          exact th_iret hx hb hr hlocks hH hS (z := z_220) rz_220 ⟨hO, hF, hM, ⟨⟨by omega, pgo.of (by omega), bdo.of (by omega)⟩, cc_227, jj_228, hR_229, by omega, by omega⟩⟩ dX11_readDigits_55
    · replace c_177 := (I_eq (a := a190) (b := 0) ra190 (show rng 0 from ⟨by decide, by decide⟩)).mp c_177
      refine lv_aload_n hx hb dX11_readDigits_7 rfl (lv_at hl 0 rfl) ?_
      refine ok.getIc hO h_a (by decide) k13_14 ea140 (fun _ _ he hv kk => th_get (ci := 11) (C := RX11) (T := TX11) (N := 66) hx hb hts inX11 hown hK hH he rfl 14 (by decide) fl4 hv dX11_readDigits_8 kk) ?_
      refine lv_iconst (v := I 2) hx hb dX11_readDigits_11 (by decide) ?_
      refine lv_icmp_eq (tgt := 20) hx hb dX11_readDigits_12 (by decide) (fun c_231 => ?_) (fun c_231 => ?_)
      · replace c_231 := (I_eq (a := a140) (b := 2) ra140 (show rng 2 from ⟨by decide, by decide⟩)).mp c_231
        refine lv_aload_n hx hb dX11_readDigits_20 rfl (lv_at hl 0 rfl) ?_
        refine ok.getIc hO h_a (by decide) k13_19 ea190 (fun _ _ he hv kk => th_get (ci := 11) (C := RX11) (T := TX11) (N := 66) hx hb hts inX11 hown hK hH he rfl 19 (by decide) fl0 hv dX11_readDigits_21 kk) ?_
        refine lv_if_ne (tgt := 45) hx hb dX11_readDigits_24 (by decide) (fun c_232 => ?_) (fun c_232 => ?_)
        · replace c_232 := mt (I_eq (a := a190) (b := 0) ra190 (show rng 0 from ⟨by decide, by decide⟩)).mpr c_232
          refine lv_aload_n hx hb dX11_readDigits_45 rfl (lv_at hl 0 rfl) ?_
          refine ok.getI hO h_a (by decide) k13_15 (fun _ _ he hv kk => th_get (ci := 11) (C := RX11) (T := TX11) (N := 66) hx hb hts inX11 hown hK hH he rfl 15 (by decide) fl1 hv dX11_readDigits_46 kk) (fun z_233 e_234 rz_233 lz_233 uz_233 => ?_)
          refine lv_istore_n (lv' := [(1, .int (I z_233)), (0, .ref a)]) hx hb dX11_readDigits_49 rfl hl (by decide) rfl (fun ls hl => ?_)
          refine lv_aload_n hx hb dX11_readDigits_50 rfl (lv_at hl 1 rfl) ?_
          obtain ⟨_, hc_235⟩ := hO.cell h_a (by decide) (ci := 11) rfl
          refine th_callv (va_runV (As := []) (rest := []) ⟨hx, hb, hml, hown, hts⟩ (n_pass l G y b0 σ E hO a h_a Bf hsr T hSt fc jt hR0 (by omega) (by omega)) (cwV 0 hts gX11_readDigits_X11_pass rfl rfl rfl (by decide +kernel) ⟨Nat.le_of_ble_eq_true rfl, Nat.le_of_ble_eq_true rfl⟩) (th_PV hK hH rfl hc_235) rfl rfl hl.1 rfl (lv_room (Nat.le_of_ble_eq_true rfl)) dX11_readDigits_51 ⟨Nat.le_of_ble_eq_true rfl, Nat.le_of_ble_eq_true rfl⟩) hS (fun σ_s_237 H locs hw_236 hH hS => ?_)
          obtain ⟨hO9, hF9, hM9, hw_236⟩ := hw_236
          replace hM := hM.tu hM9 (by decide)
          replace hF := hF.tu hF9 (by decide)
          have e_238 : gI σ_s_237 a 11 = a110 := (hM9.i (by decide)).trans ea110
          have e_239 : gI σ_s_237 a 19 = a190 := (hM9.i (by decide)).trans ea190
          replace hsr := hsr.mv hM9 (by decide) (by decide) (by decide) (by decide) (by decide)
          replace hO := hO9
          replace hw_236 : ((gI σ a 13 ≤ gI σ_s_237 a 13 ∧ gI σ_s_237 a 13 ≤ gI σ a 11 ∧ 0 ≤ gI σ_s_237 a 17 ∧ gI σ_s_237 a 17 ≤ gI σ_s_237 a 13) ∧ pgo (gI σ_s_237 a 19) (gI σ_s_237 a 14) (gI σ a 13) (gI σ_s_237 a 13) ∧ gI σ_s_237 a 19 = gI σ a 19) ∧ ∃ c1 j1, RSt σ_s_237 a T c1 j1 ∧ (c1 = fc ∧ (fc ≠ 0 → j1 = jt) ∧ (fc = 0 → j1 = jt + 1)) := hw_236
          simp only [pgo, bdo] at hw_236
          have hn_240 := hw_236.2
          replace hw_236 := hw_236.1
          obtain ⟨cc_241, jj_242, hR_243, hn_240⟩ := hn_240
          have hVhR_243 := hR_243.1
          try simp only [h0_1, ne_eq, not_true_eq_false, not_false_eq_true, false_implies, true_implies, true_and, and_true, eq_self, false_or, or_false, false_and, and_false] at hn_240
          have h0_244 : ¬ cc_241 = 0 := by omega
          try simp only [h0_244, ne_eq, not_true_eq_false, not_false_eq_true, false_implies, true_implies, true_and, and_true, eq_self, false_or, or_false, false_and, and_false] at hVhR_243
          refine lv_iload_n hx hb dX11_readDigits_54 rfl (lv_at hl 0 rfl) ?_
          exact th_iret hx hb hr hlocks hH hS (z := z_233) rz_233 ⟨hO, hF, hM, ⟨⟨by omega, pgo.of (by omega), bdo.of (by omega)⟩, cc_241, jj_242, hR_243, by omega, by omega⟩⟩ dX11_readDigits_55
        · replace c_232 := (I_eq (a := a190) (b := 0) ra190 (show rng 0 from ⟨by decide, by decide⟩)).mp c_232
          refine lv_aload_n hx hb dX11_readDigits_27 rfl (lv_at hl 0 rfl) ?_
          refine ok.getI hO h_a (by decide) k13_18 (fun _ _ he hv kk => th_get (ci := 11) (C := RX11) (T := TX11) (N := 66) hx hb hts inX11 hown hK hH he rfl 18 (by decide) fl2 hv dX11_readDigits_28 kk) (fun z_245 e_246 rz_245 lz_245 uz_245 => ?_)
          refine lv_aload_n hx hb dX11_readDigits_31 rfl (lv_at hl 0 rfl) ?_
          refine ok.getIc hO h_a (by decide) k13_17 ea170 (fun _ _ he hv kk => th_get (ci := 11) (C := RX11) (T := TX11) (N := 66) hx hb hts inX11 hown hK hH he rfl 17 (by decide) fl3 hv dX11_readDigits_32 kk) ?_
          refine lv_isub hx hb dX11_readDigits_35 ?_
          refine th_subo (fun z_247 rz_247 hz_247 => ?_)
          refine lv_iconst (v := I 3) hx hb dX11_readDigits_36 (by decide) ?_
          refine lv_icmp_le (tgt := 45) hx hb dX11_readDigits_37 (by decide) (fun c_248 => ?_) (fun c_248 => ?_)
          · replace c_248 := (I_le (a := z_247) (b := 3) rz_247 (show rng 3 from ⟨by decide, by decide⟩)).mp c_248
            refine lv_aload_n hx hb dX11_readDigits_45 rfl (lv_at hl 0 rfl) ?_
            refine ok.getI hO h_a (by decide) k13_15 (fun _ _ he hv kk => th_get (ci := 11) (C := RX11) (T := TX11) (N := 66) hx hb hts inX11 hown hK hH he rfl 15 (by decide) fl1 hv dX11_readDigits_46 kk) (fun z_249 e_250 rz_249 lz_249 uz_249 => ?_)
            refine lv_istore_n (lv' := [(1, .int (I z_249)), (0, .ref a)]) hx hb dX11_readDigits_49 rfl hl (by decide) rfl (fun ls hl => ?_)
            refine lv_aload_n hx hb dX11_readDigits_50 rfl (lv_at hl 1 rfl) ?_
            obtain ⟨_, hc_251⟩ := hO.cell h_a (by decide) (ci := 11) rfl
            refine th_callv (va_runV (As := []) (rest := []) ⟨hx, hb, hml, hown, hts⟩ (n_pass l G y b0 σ E hO a h_a Bf hsr T hSt fc jt hR0 (by omega) (by omega)) (cwV 0 hts gX11_readDigits_X11_pass rfl rfl rfl (by decide +kernel) ⟨Nat.le_of_ble_eq_true rfl, Nat.le_of_ble_eq_true rfl⟩) (th_PV hK hH rfl hc_251) rfl rfl hl.1 rfl (lv_room (Nat.le_of_ble_eq_true rfl)) dX11_readDigits_51 ⟨Nat.le_of_ble_eq_true rfl, Nat.le_of_ble_eq_true rfl⟩) hS (fun σ_s_253 H locs hw_252 hH hS => ?_)
            obtain ⟨hO9, hF9, hM9, hw_252⟩ := hw_252
            replace hM := hM.tu hM9 (by decide)
            replace hF := hF.tu hF9 (by decide)
            have e_254 : gI σ_s_253 a 11 = a110 := (hM9.i (by decide)).trans ea110
            have e_255 : gI σ_s_253 a 19 = a190 := (hM9.i (by decide)).trans ea190
            replace hsr := hsr.mv hM9 (by decide) (by decide) (by decide) (by decide) (by decide)
            replace hO := hO9
            replace hw_252 : ((gI σ a 13 ≤ gI σ_s_253 a 13 ∧ gI σ_s_253 a 13 ≤ gI σ a 11 ∧ 0 ≤ gI σ_s_253 a 17 ∧ gI σ_s_253 a 17 ≤ gI σ_s_253 a 13) ∧ pgo (gI σ_s_253 a 19) (gI σ_s_253 a 14) (gI σ a 13) (gI σ_s_253 a 13) ∧ gI σ_s_253 a 19 = gI σ a 19) ∧ ∃ c1 j1, RSt σ_s_253 a T c1 j1 ∧ (c1 = fc ∧ (fc ≠ 0 → j1 = jt) ∧ (fc = 0 → j1 = jt + 1)) := hw_252
            simp only [pgo, bdo] at hw_252
            have hn_256 := hw_252.2
            replace hw_252 := hw_252.1
            obtain ⟨cc_257, jj_258, hR_259, hn_256⟩ := hn_256
            have hVhR_259 := hR_259.1
            try simp only [h0_1, ne_eq, not_true_eq_false, not_false_eq_true, false_implies, true_implies, true_and, and_true, eq_self, false_or, or_false, false_and, and_false] at hn_256
            have h0_260 : ¬ cc_257 = 0 := by omega
            try simp only [h0_260, ne_eq, not_true_eq_false, not_false_eq_true, false_implies, true_implies, true_and, and_true, eq_self, false_or, or_false, false_and, and_false] at hVhR_259
            refine lv_iload_n hx hb dX11_readDigits_54 rfl (lv_at hl 0 rfl) ?_
            exact th_iret hx hb hr hlocks hH hS (z := z_249) rz_249 ⟨hO, hF, hM, ⟨⟨by omega, pgo.of (by omega), bdo.of (by omega)⟩, cc_257, jj_258, hR_259, by omega, by omega⟩⟩ dX11_readDigits_55
          · replace c_248 := mt (I_le (a := z_247) (b := 3) rz_247 (show rng 3 from ⟨by decide, by decide⟩)).mpr c_248
            refine lv_aload_n hx hb dX11_readDigits_40 rfl (lv_at hl 0 rfl) ?_
            refine lv_iconst (v := I 2) hx hb dX11_readDigits_41 (by decide) ?_
            obtain ⟨_, hc_261⟩ := hO.cell h_a (by decide) (ci := 11) rfl
            refine th_callv (va_runV (As := [.int (I 2)]) (rest := []) ⟨hx, hb, hml, hown, hts⟩ (n_wrong l G y b0 σ E hO a h_a 2 (show rng 2 from (show rng 2 from ⟨by decide, by decide⟩)) (by omega) (by omega) Bf hsr T hSt fc jt hR0) (cwV 1 hts gX11_readDigits_X11_wrong rfl rfl rfl (by decide +kernel) ⟨Nat.le_of_ble_eq_true rfl, Nat.le_of_ble_eq_true rfl⟩) (th_PV hK hH rfl hc_261) rfl rfl hl.1 rfl (lv_room (Nat.le_of_ble_eq_true rfl)) dX11_readDigits_42 ⟨Nat.le_of_ble_eq_true rfl, Nat.le_of_ble_eq_true rfl⟩) hS (fun σ_s_263 H locs hw_262 hH hS => ?_)
            obtain ⟨hO9, hF9, hM9, hw_262⟩ := hw_262
            replace hM := hM.tu hM9 (by decide)
            replace hF := hF.tu hF9 (by decide)
            have e_264 : gI σ_s_263 a 11 = a110 := (hM9.i (by decide)).trans ea110
            have e_265 : gI σ_s_263 a 13 = a130 := (hM9.i (by decide)).trans ea130
            have e_266 : gI σ_s_263 a 14 = a140 := (hM9.i (by decide)).trans ea140
            have e_267 : gI σ_s_263 a 17 = a170 := (hM9.i (by decide)).trans ea170
            have e_268 : gI σ_s_263 a 18 = z_245 := (hM9.i (by decide)).trans e_246
            replace hsr := hsr.mv hM9 (by decide) (by decide) (by decide) (by decide) (by decide)
            replace hO := hO9
            replace hw_262 : (¬ gI σ_s_263 a 19 = 0 ∧ (gI σ a 19 = 0 ∨ gI σ_s_263 a 19 = gI σ a 19)) ∧ ∃ c1 j1, RSt σ_s_263 a T c1 j1 ∧ (j1 = jt ∧ (fc = 0 → c1 = 2) ∧ (fc ≠ 0 → c1 = fc)) := hw_262
            have hn_269 := hw_262.2
            replace hw_262 := hw_262.1
            obtain ⟨cc_270, jj_271, hR_272, hn_269⟩ := hn_269
            have hVhR_272 := hR_272.1
            have hj9 := hn_269.1.symm
            subst hj9
            try simp only [h0_1, ne_eq, not_true_eq_false, not_false_eq_true, false_implies, true_implies, true_and, and_true, eq_self, false_or, or_false, false_and, and_false] at hn_269
            have h0_273 : ¬ cc_270 = 0 := by omega
            try simp only [h0_273, ne_eq, not_true_eq_false, not_false_eq_true, false_implies, true_implies, true_and, and_true, eq_self, false_or, or_false, false_and, and_false] at hVhR_272
            refine lv_aload_n hx hb dX11_readDigits_45 rfl (lv_at hl 0 rfl) ?_
            refine ok.getI hO h_a (by decide) k13_15 (fun _ _ he hv kk => th_get (ci := 11) (C := RX11) (T := TX11) (N := 66) hx hb hts inX11 hown hK hH he rfl 15 (by decide) fl1 hv dX11_readDigits_46 kk) (fun z_274 e_275 rz_274 lz_274 uz_274 => ?_)
            refine lv_istore_n (lv' := [(1, .int (I z_274)), (0, .ref a)]) hx hb dX11_readDigits_49 rfl hl (by decide) rfl (fun ls hl => ?_)
            refine lv_aload_n hx hb dX11_readDigits_50 rfl (lv_at hl 1 rfl) ?_
            obtain ⟨_, hc_276⟩ := hO.cell h_a (by decide) (ci := 11) rfl
            refine th_callv (va_runV (As := []) (rest := []) ⟨hx, hb, hml, hown, hts⟩ (n_pass l G y b0 σ_s_263 E hO a h_a Bf hsr T hSt cc_270 jt hR_272 (by omega) (by omega)) (cwV 0 hts gX11_readDigits_X11_pass rfl rfl rfl (by decide +kernel) ⟨Nat.le_of_ble_eq_true rfl, Nat.le_of_ble_eq_true rfl⟩) (th_PV hK hH rfl hc_276) rfl rfl hl.1 rfl (lv_room (Nat.le_of_ble_eq_true rfl)) dX11_readDigits_51 ⟨Nat.le_of_ble_eq_true rfl, Nat.le_of_ble_eq_true rfl⟩) hS (fun σ_s_278 H locs hw_277 hH hS => ?_)
            obtain ⟨hO9, hF9, hM9, hw_277⟩ := hw_277
            replace hM := hM.tu hM9 (by decide)
            replace hF := hF.tu hF9 (by decide)
            have e_279 : gI σ_s_278 a 11 = a110 := (hM9.i (by decide)).trans e_264
            replace hsr := hsr.mv hM9 (by decide) (by decide) (by decide) (by decide) (by decide)
            replace hO := hO9
            replace hw_277 : ((gI σ_s_263 a 13 ≤ gI σ_s_278 a 13 ∧ gI σ_s_278 a 13 ≤ gI σ_s_263 a 11 ∧ 0 ≤ gI σ_s_278 a 17 ∧ gI σ_s_278 a 17 ≤ gI σ_s_278 a 13) ∧ pgo (gI σ_s_278 a 19) (gI σ_s_278 a 14) (gI σ_s_263 a 13) (gI σ_s_278 a 13) ∧ gI σ_s_278 a 19 = gI σ_s_263 a 19) ∧ ∃ c1 j1, RSt σ_s_278 a T c1 j1 ∧ (c1 = cc_270 ∧ (cc_270 ≠ 0 → j1 = jt) ∧ (cc_270 = 0 → j1 = jt + 1)) := hw_277
            simp only [pgo, bdo] at hw_277
            have hn_280 := hw_277.2
            replace hw_277 := hw_277.1
            obtain ⟨cc_281, jj_282, hR_283, hn_280⟩ := hn_280
            have hVhR_283 := hR_283.1
            try simp only [h0_273, ne_eq, not_true_eq_false, not_false_eq_true, false_implies, true_implies, true_and, and_true, eq_self, false_or, or_false, false_and, and_false] at hn_280
            have h0_284 : ¬ cc_281 = 0 := by omega
            try simp only [h0_284, ne_eq, not_true_eq_false, not_false_eq_true, false_implies, true_implies, true_and, and_true, eq_self, false_or, or_false, false_and, and_false] at hVhR_283
            refine lv_iload_n hx hb dX11_readDigits_54 rfl (lv_at hl 0 rfl) ?_
            exact th_iret hx hb hr hlocks hH hS (z := z_274) rz_274 ⟨hO, hF, hM, ⟨⟨by omega, pgo.of (by omega), bdo.of (by omega)⟩, cc_281, jj_282, hR_283, by omega, by omega⟩⟩ dX11_readDigits_55
      · replace c_231 := mt (I_eq (a := a140) (b := 2) ra140 (show rng 2 from ⟨by decide, by decide⟩)).mpr c_231
        refine lv_aload_n hx hb dX11_readDigits_15 rfl (lv_at hl 0 rfl) ?_
        refine lv_iconst (v := I 1) hx hb dX11_readDigits_16 (by decide) ?_
        obtain ⟨_, hc_285⟩ := hO.cell h_a (by decide) (ci := 11) rfl
        refine th_callv (va_runV (As := [.int (I 1)]) (rest := []) ⟨hx, hb, hml, hown, hts⟩ (n_wrong l G y b0 σ E hO a h_a 1 (show rng 1 from (show rng 1 from ⟨by decide, by decide⟩)) (by omega) (by omega) Bf hsr T hSt fc jt hR0) (cwV 1 hts gX11_readDigits_X11_wrong rfl rfl rfl (by decide +kernel) ⟨Nat.le_of_ble_eq_true rfl, Nat.le_of_ble_eq_true rfl⟩) (th_PV hK hH rfl hc_285) rfl rfl hl.1 rfl (lv_room (Nat.le_of_ble_eq_true rfl)) dX11_readDigits_17 ⟨Nat.le_of_ble_eq_true rfl, Nat.le_of_ble_eq_true rfl⟩) hS (fun σ_s_287 H locs hw_286 hH hS => ?_)
        obtain ⟨hO9, hF9, hM9, hw_286⟩ := hw_286
        replace hM := hM.tu hM9 (by decide)
        replace hF := hF.tu hF9 (by decide)
        have e_288 : gI σ_s_287 a 11 = a110 := (hM9.i (by decide)).trans ea110
        have e_289 : gI σ_s_287 a 13 = a130 := (hM9.i (by decide)).trans ea130
        have e_290 : gI σ_s_287 a 14 = a140 := (hM9.i (by decide)).trans ea140
        have e_291 : gI σ_s_287 a 17 = a170 := (hM9.i (by decide)).trans ea170
        replace hsr := hsr.mv hM9 (by decide) (by decide) (by decide) (by decide) (by decide)
        replace hO := hO9
        replace hw_286 : (¬ gI σ_s_287 a 19 = 0 ∧ (gI σ a 19 = 0 ∨ gI σ_s_287 a 19 = gI σ a 19)) ∧ ∃ c1 j1, RSt σ_s_287 a T c1 j1 ∧ (j1 = jt ∧ (fc = 0 → c1 = 1) ∧ (fc ≠ 0 → c1 = fc)) := hw_286
        have hn_292 := hw_286.2
        replace hw_286 := hw_286.1
        obtain ⟨cc_293, jj_294, hR_295, hn_292⟩ := hn_292
        have hVhR_295 := hR_295.1
        have hj9 := hn_292.1.symm
        subst hj9
        try simp only [h0_1, ne_eq, not_true_eq_false, not_false_eq_true, false_implies, true_implies, true_and, and_true, eq_self, false_or, or_false, false_and, and_false] at hn_292
        have h0_296 : ¬ cc_293 = 0 := by omega
        try simp only [h0_296, ne_eq, not_true_eq_false, not_false_eq_true, false_implies, true_implies, true_and, and_true, eq_self, false_or, or_false, false_and, and_false] at hVhR_295
        refine lv_aload_n hx hb dX11_readDigits_20 rfl (lv_at hl 0 rfl) ?_
        refine ok.getI hO h_a (by decide) k13_19 (fun _ _ he hv kk => th_get (ci := 11) (C := RX11) (T := TX11) (N := 66) hx hb hts inX11 hown hK hH he rfl 19 (by decide) fl0 hv dX11_readDigits_21 kk) (fun z_297 e_298 rz_297 lz_297 uz_297 => ?_)
        refine lv_if_ne (tgt := 45) hx hb dX11_readDigits_24 (by decide) (fun c_299 => ?_) (fun c_299 => ?_)
        · replace c_299 := mt (I_eq (a := z_297) (b := 0) rz_297 (show rng 0 from ⟨by decide, by decide⟩)).mpr c_299
          refine lv_aload_n hx hb dX11_readDigits_45 rfl (lv_at hl 0 rfl) ?_
          refine ok.getI hO h_a (by decide) k13_15 (fun _ _ he hv kk => th_get (ci := 11) (C := RX11) (T := TX11) (N := 66) hx hb hts inX11 hown hK hH he rfl 15 (by decide) fl1 hv dX11_readDigits_46 kk) (fun z_300 e_301 rz_300 lz_300 uz_300 => ?_)
          refine lv_istore_n (lv' := [(1, .int (I z_300)), (0, .ref a)]) hx hb dX11_readDigits_49 rfl hl (by decide) rfl (fun ls hl => ?_)
          refine lv_aload_n hx hb dX11_readDigits_50 rfl (lv_at hl 1 rfl) ?_
          obtain ⟨_, hc_302⟩ := hO.cell h_a (by decide) (ci := 11) rfl
          refine th_callv (va_runV (As := []) (rest := []) ⟨hx, hb, hml, hown, hts⟩ (n_pass l G y b0 σ_s_287 E hO a h_a Bf hsr T hSt cc_293 jt hR_295 (by omega) (by omega)) (cwV 0 hts gX11_readDigits_X11_pass rfl rfl rfl (by decide +kernel) ⟨Nat.le_of_ble_eq_true rfl, Nat.le_of_ble_eq_true rfl⟩) (th_PV hK hH rfl hc_302) rfl rfl hl.1 rfl (lv_room (Nat.le_of_ble_eq_true rfl)) dX11_readDigits_51 ⟨Nat.le_of_ble_eq_true rfl, Nat.le_of_ble_eq_true rfl⟩) hS (fun σ_s_304 H locs hw_303 hH hS => ?_)
          obtain ⟨hO9, hF9, hM9, hw_303⟩ := hw_303
          replace hM := hM.tu hM9 (by decide)
          replace hF := hF.tu hF9 (by decide)
          have e_305 : gI σ_s_304 a 11 = a110 := (hM9.i (by decide)).trans e_288
          have e_306 : gI σ_s_304 a 19 = z_297 := (hM9.i (by decide)).trans e_298
          replace hsr := hsr.mv hM9 (by decide) (by decide) (by decide) (by decide) (by decide)
          replace hO := hO9
          replace hw_303 : ((gI σ_s_287 a 13 ≤ gI σ_s_304 a 13 ∧ gI σ_s_304 a 13 ≤ gI σ_s_287 a 11 ∧ 0 ≤ gI σ_s_304 a 17 ∧ gI σ_s_304 a 17 ≤ gI σ_s_304 a 13) ∧ pgo (gI σ_s_304 a 19) (gI σ_s_304 a 14) (gI σ_s_287 a 13) (gI σ_s_304 a 13) ∧ gI σ_s_304 a 19 = gI σ_s_287 a 19) ∧ ∃ c1 j1, RSt σ_s_304 a T c1 j1 ∧ (c1 = cc_293 ∧ (cc_293 ≠ 0 → j1 = jt) ∧ (cc_293 = 0 → j1 = jt + 1)) := hw_303
          simp only [pgo, bdo] at hw_303
          have hn_307 := hw_303.2
          replace hw_303 := hw_303.1
          obtain ⟨cc_308, jj_309, hR_310, hn_307⟩ := hn_307
          have hVhR_310 := hR_310.1
          try simp only [h0_296, ne_eq, not_true_eq_false, not_false_eq_true, false_implies, true_implies, true_and, and_true, eq_self, false_or, or_false, false_and, and_false] at hn_307
          have h0_311 : ¬ cc_308 = 0 := by omega
          try simp only [h0_311, ne_eq, not_true_eq_false, not_false_eq_true, false_implies, true_implies, true_and, and_true, eq_self, false_or, or_false, false_and, and_false] at hVhR_310
          refine lv_iload_n hx hb dX11_readDigits_54 rfl (lv_at hl 0 rfl) ?_
          exact th_iret hx hb hr hlocks hH hS (z := z_300) rz_300 ⟨hO, hF, hM, ⟨⟨by omega, pgo.of (by omega), bdo.of (by omega)⟩, cc_308, jj_309, hR_310, by omega, by omega⟩⟩ dX11_readDigits_55
        · replace c_299 := (I_eq (a := z_297) (b := 0) rz_297 (show rng 0 from ⟨by decide, by decide⟩)).mp c_299
          refine lv_aload_n hx hb dX11_readDigits_27 rfl (lv_at hl 0 rfl) ?_
          refine ok.getI hO h_a (by decide) k13_18 (fun _ _ he hv kk => th_get (ci := 11) (C := RX11) (T := TX11) (N := 66) hx hb hts inX11 hown hK hH he rfl 18 (by decide) fl2 hv dX11_readDigits_28 kk) (fun z_312 e_313 rz_312 lz_312 uz_312 => ?_)
          refine lv_aload_n hx hb dX11_readDigits_31 rfl (lv_at hl 0 rfl) ?_
          refine ok.getIc hO h_a (by decide) k13_17 e_291 (fun _ _ he hv kk => th_get (ci := 11) (C := RX11) (T := TX11) (N := 66) hx hb hts inX11 hown hK hH he rfl 17 (by decide) fl3 hv dX11_readDigits_32 kk) ?_
          refine lv_isub hx hb dX11_readDigits_35 ?_
          refine th_subo (fun z_314 rz_314 hz_314 => ?_)
          refine lv_iconst (v := I 3) hx hb dX11_readDigits_36 (by decide) ?_
          refine lv_icmp_le (tgt := 45) hx hb dX11_readDigits_37 (by decide) (fun c_315 => ?_) (fun c_315 => ?_)
          · replace c_315 := (I_le (a := z_314) (b := 3) rz_314 (show rng 3 from ⟨by decide, by decide⟩)).mp c_315
            refine lv_aload_n hx hb dX11_readDigits_45 rfl (lv_at hl 0 rfl) ?_
            refine ok.getI hO h_a (by decide) k13_15 (fun _ _ he hv kk => th_get (ci := 11) (C := RX11) (T := TX11) (N := 66) hx hb hts inX11 hown hK hH he rfl 15 (by decide) fl1 hv dX11_readDigits_46 kk) (fun z_316 e_317 rz_316 lz_316 uz_316 => ?_)
            refine lv_istore_n (lv' := [(1, .int (I z_316)), (0, .ref a)]) hx hb dX11_readDigits_49 rfl hl (by decide) rfl (fun ls hl => ?_)
            refine lv_aload_n hx hb dX11_readDigits_50 rfl (lv_at hl 1 rfl) ?_
            obtain ⟨_, hc_318⟩ := hO.cell h_a (by decide) (ci := 11) rfl
            refine th_callv (va_runV (As := []) (rest := []) ⟨hx, hb, hml, hown, hts⟩ (n_pass l G y b0 σ_s_287 E hO a h_a Bf hsr T hSt cc_293 jt hR_295 (by omega) (by omega)) (cwV 0 hts gX11_readDigits_X11_pass rfl rfl rfl (by decide +kernel) ⟨Nat.le_of_ble_eq_true rfl, Nat.le_of_ble_eq_true rfl⟩) (th_PV hK hH rfl hc_318) rfl rfl hl.1 rfl (lv_room (Nat.le_of_ble_eq_true rfl)) dX11_readDigits_51 ⟨Nat.le_of_ble_eq_true rfl, Nat.le_of_ble_eq_true rfl⟩) hS (fun σ_s_320 H locs hw_319 hH hS => ?_)
            obtain ⟨hO9, hF9, hM9, hw_319⟩ := hw_319
            replace hM := hM.tu hM9 (by decide)
            replace hF := hF.tu hF9 (by decide)
            have e_321 : gI σ_s_320 a 11 = a110 := (hM9.i (by decide)).trans e_288
            have e_322 : gI σ_s_320 a 19 = z_297 := (hM9.i (by decide)).trans e_298
            replace hsr := hsr.mv hM9 (by decide) (by decide) (by decide) (by decide) (by decide)
            replace hO := hO9
            replace hw_319 : ((gI σ_s_287 a 13 ≤ gI σ_s_320 a 13 ∧ gI σ_s_320 a 13 ≤ gI σ_s_287 a 11 ∧ 0 ≤ gI σ_s_320 a 17 ∧ gI σ_s_320 a 17 ≤ gI σ_s_320 a 13) ∧ pgo (gI σ_s_320 a 19) (gI σ_s_320 a 14) (gI σ_s_287 a 13) (gI σ_s_320 a 13) ∧ gI σ_s_320 a 19 = gI σ_s_287 a 19) ∧ ∃ c1 j1, RSt σ_s_320 a T c1 j1 ∧ (c1 = cc_293 ∧ (cc_293 ≠ 0 → j1 = jt) ∧ (cc_293 = 0 → j1 = jt + 1)) := hw_319
            simp only [pgo, bdo] at hw_319
            have hn_323 := hw_319.2
            replace hw_319 := hw_319.1
            obtain ⟨cc_324, jj_325, hR_326, hn_323⟩ := hn_323
            have hVhR_326 := hR_326.1
            try simp only [h0_296, ne_eq, not_true_eq_false, not_false_eq_true, false_implies, true_implies, true_and, and_true, eq_self, false_or, or_false, false_and, and_false] at hn_323
            have h0_327 : ¬ cc_324 = 0 := by omega
            try simp only [h0_327, ne_eq, not_true_eq_false, not_false_eq_true, false_implies, true_implies, true_and, and_true, eq_self, false_or, or_false, false_and, and_false] at hVhR_326
            refine lv_iload_n hx hb dX11_readDigits_54 rfl (lv_at hl 0 rfl) ?_
            exact th_iret hx hb hr hlocks hH hS (z := z_316) rz_316 ⟨hO, hF, hM, ⟨⟨by omega, pgo.of (by omega), bdo.of (by omega)⟩, cc_324, jj_325, hR_326, by omega, by omega⟩⟩ dX11_readDigits_55
          · replace c_315 := mt (I_le (a := z_314) (b := 3) rz_314 (show rng 3 from ⟨by decide, by decide⟩)).mpr c_315
            refine lv_aload_n hx hb dX11_readDigits_40 rfl (lv_at hl 0 rfl) ?_
            refine lv_iconst (v := I 2) hx hb dX11_readDigits_41 (by decide) ?_
            obtain ⟨_, hc_328⟩ := hO.cell h_a (by decide) (ci := 11) rfl
            refine th_callv (va_runV (As := [.int (I 2)]) (rest := []) ⟨hx, hb, hml, hown, hts⟩ (n_wrong l G y b0 σ_s_287 E hO a h_a 2 (show rng 2 from (show rng 2 from ⟨by decide, by decide⟩)) (by omega) (by omega) Bf hsr T hSt cc_293 jt hR_295) (cwV 1 hts gX11_readDigits_X11_wrong rfl rfl rfl (by decide +kernel) ⟨Nat.le_of_ble_eq_true rfl, Nat.le_of_ble_eq_true rfl⟩) (th_PV hK hH rfl hc_328) rfl rfl hl.1 rfl (lv_room (Nat.le_of_ble_eq_true rfl)) dX11_readDigits_42 ⟨Nat.le_of_ble_eq_true rfl, Nat.le_of_ble_eq_true rfl⟩) hS (fun σ_s_330 H locs hw_329 hH hS => ?_)
            obtain ⟨hO9, hF9, hM9, hw_329⟩ := hw_329
            replace hM := hM.tu hM9 (by decide)
            replace hF := hF.tu hF9 (by decide)
            have e_331 : gI σ_s_330 a 11 = a110 := (hM9.i (by decide)).trans e_288
            have e_332 : gI σ_s_330 a 13 = a130 := (hM9.i (by decide)).trans e_289
            have e_333 : gI σ_s_330 a 14 = a140 := (hM9.i (by decide)).trans e_290
            have e_334 : gI σ_s_330 a 17 = a170 := (hM9.i (by decide)).trans e_291
            have e_335 : gI σ_s_330 a 18 = z_312 := (hM9.i (by decide)).trans e_313
            replace hsr := hsr.mv hM9 (by decide) (by decide) (by decide) (by decide) (by decide)
            replace hO := hO9
            replace hw_329 : (¬ gI σ_s_330 a 19 = 0 ∧ (gI σ_s_287 a 19 = 0 ∨ gI σ_s_330 a 19 = gI σ_s_287 a 19)) ∧ ∃ c1 j1, RSt σ_s_330 a T c1 j1 ∧ (j1 = jt ∧ (cc_293 = 0 → c1 = 2) ∧ (cc_293 ≠ 0 → c1 = cc_293)) := hw_329
            have hn_336 := hw_329.2
            replace hw_329 := hw_329.1
            obtain ⟨cc_337, jj_338, hR_339, hn_336⟩ := hn_336
            have hVhR_339 := hR_339.1
            have hj9 := hn_336.1.symm
            subst hj9
            try simp only [h0_296, ne_eq, not_true_eq_false, not_false_eq_true, false_implies, true_implies, true_and, and_true, eq_self, false_or, or_false, false_and, and_false] at hn_336
            have h0_340 : ¬ cc_337 = 0 := by omega
            try simp only [h0_340, ne_eq, not_true_eq_false, not_false_eq_true, false_implies, true_implies, true_and, and_true, eq_self, false_or, or_false, false_and, and_false] at hVhR_339
            refine lv_aload_n hx hb dX11_readDigits_45 rfl (lv_at hl 0 rfl) ?_
            refine ok.getI hO h_a (by decide) k13_15 (fun _ _ he hv kk => th_get (ci := 11) (C := RX11) (T := TX11) (N := 66) hx hb hts inX11 hown hK hH he rfl 15 (by decide) fl1 hv dX11_readDigits_46 kk) (fun z_341 e_342 rz_341 lz_341 uz_341 => ?_)
            refine lv_istore_n (lv' := [(1, .int (I z_341)), (0, .ref a)]) hx hb dX11_readDigits_49 rfl hl (by decide) rfl (fun ls hl => ?_)
            refine lv_aload_n hx hb dX11_readDigits_50 rfl (lv_at hl 1 rfl) ?_
            obtain ⟨_, hc_343⟩ := hO.cell h_a (by decide) (ci := 11) rfl
            refine th_callv (va_runV (As := []) (rest := []) ⟨hx, hb, hml, hown, hts⟩ (n_pass l G y b0 σ_s_330 E hO a h_a Bf hsr T hSt cc_337 jt hR_339 (by omega) (by omega)) (cwV 0 hts gX11_readDigits_X11_pass rfl rfl rfl (by decide +kernel) ⟨Nat.le_of_ble_eq_true rfl, Nat.le_of_ble_eq_true rfl⟩) (th_PV hK hH rfl hc_343) rfl rfl hl.1 rfl (lv_room (Nat.le_of_ble_eq_true rfl)) dX11_readDigits_51 ⟨Nat.le_of_ble_eq_true rfl, Nat.le_of_ble_eq_true rfl⟩) hS (fun σ_s_345 H locs hw_344 hH hS => ?_)
            obtain ⟨hO9, hF9, hM9, hw_344⟩ := hw_344
            replace hM := hM.tu hM9 (by decide)
            replace hF := hF.tu hF9 (by decide)
            have e_346 : gI σ_s_345 a 11 = a110 := (hM9.i (by decide)).trans e_331
            replace hsr := hsr.mv hM9 (by decide) (by decide) (by decide) (by decide) (by decide)
            replace hO := hO9
            replace hw_344 : ((gI σ_s_330 a 13 ≤ gI σ_s_345 a 13 ∧ gI σ_s_345 a 13 ≤ gI σ_s_330 a 11 ∧ 0 ≤ gI σ_s_345 a 17 ∧ gI σ_s_345 a 17 ≤ gI σ_s_345 a 13) ∧ pgo (gI σ_s_345 a 19) (gI σ_s_345 a 14) (gI σ_s_330 a 13) (gI σ_s_345 a 13) ∧ gI σ_s_345 a 19 = gI σ_s_330 a 19) ∧ ∃ c1 j1, RSt σ_s_345 a T c1 j1 ∧ (c1 = cc_337 ∧ (cc_337 ≠ 0 → j1 = jt) ∧ (cc_337 = 0 → j1 = jt + 1)) := hw_344
            simp only [pgo, bdo] at hw_344
            have hn_347 := hw_344.2
            replace hw_344 := hw_344.1
            obtain ⟨cc_348, jj_349, hR_350, hn_347⟩ := hn_347
            have hVhR_350 := hR_350.1
            try simp only [h0_340, ne_eq, not_true_eq_false, not_false_eq_true, false_implies, true_implies, true_and, and_true, eq_self, false_or, or_false, false_and, and_false] at hn_347
            have h0_351 : ¬ cc_348 = 0 := by omega
            try simp only [h0_351, ne_eq, not_true_eq_false, not_false_eq_true, false_implies, true_implies, true_and, and_true, eq_self, false_or, or_false, false_and, and_false] at hVhR_350
            refine lv_iload_n hx hb dX11_readDigits_54 rfl (lv_at hl 0 rfl) ?_
            exact th_iret hx hb hr hlocks hH hS (z := z_341) rz_341 ⟨hO, hF, hM, ⟨⟨by omega, pgo.of (by omega), bdo.of (by omega)⟩, cc_348, jj_349, hR_350, by omega, by omega⟩⟩ dX11_readDigits_55
