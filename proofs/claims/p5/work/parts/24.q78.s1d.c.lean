set_option maxHeartbeats 4000000 in
set_option maxRecDepth 100000 in
theorem n_readNumber (l : Launch) (G : va_G) (y : Nat → ClassId) (b0 : Nat) (σ : th_M) (E : th_E) (hO : ok y E σ) (a : Nat) (h_a : kd E a = 13) (Bf : Int → Int) (hsr : sr E σ a Bf) (T : tkT) (hSt : tkSt Bf T) (fc jt : Int) (hR0 : RSt σ a T fc jt) (hy0 : 0 ≤ gI σ a 17 ∧ gI σ a 17 ≤ gI σ a 13 ∧ gI σ a 13 ≤ gI σ a 11 ∧ gI σ a 11 ≤ 400) : Met l yX11_readNumber wsX11_readNumber ({ frames := 4, cells := 0, slots := 0, locals := 115 }) (th_P G y b0 σ [.ref a]) (th_Qi G b0 (fun r σ1 => ok y E σ1 ∧ fr [13] E σ σ1 ∧ fm [13, 14, 15, 16, 17, 18, 19, 20] E σ σ1 a ∧ (((gI σ a 13 ≤ gI σ1 a 13 ∧ gI σ1 a 13 ≤ gI σ a 11 ∧ 0 ≤ gI σ1 a 17 ∧ gI σ1 a 17 ≤ gI σ1 a 13) ∧ pgo (gI σ1 a 19) (gI σ1 a 14) (gI σ a 13) (gI σ1 a 13) ∧ bdo (gI σ a 19) (gI σ1 a 19)) ∧ ∃ c1 j1, RSt σ1 a T c1 j1 ∧ ((fc ≠ 0 → c1 = fc ∧ j1 = jt) ∧ (fc = 0 → nuR T jt c1 j1))))) 0 0 (th_A b0) := by
  refine Met.ofW (cc := cX11_readNumber) (maxL := 3) (ret := (some .int)) (by decide) rfl ?_
  intro p e s m args below meth c s₁ B hml hv
  obtain ⟨rfl, hH, hK⟩ := hv
  have hx := B.exec
  have hb := B.bytes
  have hr := B.returns
  have hts := atoms_spec (ws := wsX11_readNumber) B.pre
  have hown : s.vm.findClass RX11 = some m.cls := findClass_of_methodNamed B.named
  have hlocks := B.notSynchronized
  have h00 : b0 ≤ s.heap.size := hH.1
  have hS : va_S (th_A b0) s.heap s.heap [] := va_S.rf
  have hF : fr [13] E σ σ := fr.rf
  have hM : fm [13, 14, 15, 16, 17, 18, 19, 20] E σ σ a := fm.rf
  have hl := lv_entry ([.ref a]) (n := 3) (Nat.le_of_ble_eq_true rfl)
  rw [lg_entry_eq]
  generalize (lg_sl ([.ref a]) ++ List.replicate (3 - (lg_sl ([.ref a])).length) Slot.unset).toArray = ls at hl ⊢
  have hl : lv_has ls 3 [(0, .ref a)] := hl
  obtain ⟨a110, ea110, ra110, la110, ua110⟩ := hO.gi h_a (by decide) k13_11
  obtain ⟨a130, ea130, ra130, la130, ua130⟩ := hO.gi h_a (by decide) k13_13
  obtain ⟨a140, ea140, ra140, la140, ua140⟩ := hO.gi h_a (by decide) k13_14
  obtain ⟨a170, ea170, ra170, la170, ua170⟩ := hO.gi h_a (by decide) k13_17
  obtain ⟨a190, ea190, ra190, la190, ua190⟩ := hO.gi h_a (by decide) k13_19
  have hV0 := hR0.1
  rcases Classical.em (fc = 0) with h0_1 | h0_1
  · try simp only [h0_1, ne_eq, not_true_eq_false, not_false_eq_true, false_implies, true_implies, true_and, and_true, eq_self, false_or, or_false, false_and, and_false] at hV0
    refine lv_aload_n hx hb dX11_readNumber_0 rfl (lv_at hl 0 rfl) ?_
    refine lv_bipush (v := I 45) hx hb dX11_readNumber_1 (by decide) ?_
    obtain ⟨_, hc_2⟩ := hO.cell h_a (by decide) (ci := 11) rfl
    refine th_calli (va_runV (As := [.int (I 45)]) (rest := []) ⟨hx, hb, hml, hown, hts⟩ (n_isMarked l G y b0 σ E hO a h_a 45 (show rng 45 from (show rng 45 from ⟨by decide, by decide⟩)) (by omega) (by omega) Bf hsr T hSt fc jt hR0 (by omega)) (cwV 1 hts gX11_readNumber_X11_isMarked rfl rfl rfl (by decide +kernel) ⟨Nat.le_of_ble_eq_true rfl, Nat.le_of_ble_eq_true rfl⟩) (th_PV hK hH rfl hc_2) rfl rfl hl.1 rfl (lv_room (Nat.le_of_ble_eq_true rfl)) dX11_readNumber_3 ⟨Nat.le_of_ble_eq_true rfl, Nat.le_of_ble_eq_true rfl⟩) hS (fun z_5 σ_s_4 H locs rz_5 hw_3 hH hS => ?_)
    obtain ⟨e9, bhw_3, hw_3⟩ := hw_3
    replace e9 := e9.symm
    subst e9
    replace hw_3 : (z_5 = 1 ∧ fc = 0 ∧ tK T jt = 45) ∨ (z_5 = 0 ∧ (fc ≠ 0 ∨ tK T jt ≠ 45)) := hw_3
    try simp only [h0_1, ne_eq, not_true_eq_false, not_false_eq_true, false_implies, true_implies, true_and, and_true, eq_self, false_or, or_false, false_and, and_false] at hw_3
    refine lv_istore_n (lv' := [(1, .int (I z_5)), (0, .ref a)]) hx hb dX11_readNumber_6 rfl hl (by decide) rfl (fun ls hl => ?_)
    refine lv_iload_n hx hb dX11_readNumber_7 rfl (lv_at hl 0 rfl) ?_
    refine lv_if_eq (tgt := 15) hx hb dX11_readNumber_8 (by decide) (fun c_6 => ?_) (fun c_6 => ?_)
    · replace c_6 := (I_eq (a := z_5) (b := 0) rz_5 (show rng 0 from ⟨by decide, by decide⟩)).mp c_6
      refine lv_aload_n hx hb dX11_readNumber_15 rfl (lv_at hl 1 rfl) ?_
      obtain ⟨_, hc_7⟩ := hO.cell h_a (by decide) (ci := 11) rfl
      refine th_calli (va_runV (As := []) (rest := []) ⟨hx, hb, hml, hown, hts⟩ (n_readDigits l G y b0 σ E hO a h_a Bf hsr T hSt fc jt hR0 (by omega)) (cwV 0 hts gX11_readNumber_X11_readDigits rfl rfl rfl (by decide +kernel) ⟨Nat.le_of_ble_eq_true rfl, Nat.le_of_ble_eq_true rfl⟩) (th_PV hK hH rfl hc_7) rfl rfl hl.1 rfl (lv_room (Nat.le_of_ble_eq_true rfl)) dX11_readNumber_16 ⟨Nat.le_of_ble_eq_true rfl, Nat.le_of_ble_eq_true rfl⟩) hS (fun z_10 σ_s_9 H locs rz_10 hw_8 hH hS => ?_)
      obtain ⟨hO9, hF9, hM9, hw_8⟩ := hw_8
      replace hM := hM.tu hM9 (by decide)
      replace hF := hF.tu hF9 (by decide)
      have e_11 : gI σ_s_9 a 11 = a110 := (hM9.i (by decide)).trans ea110
      replace hsr := hsr.mv hM9 (by decide) (by decide) (by decide) (by decide) (by decide)
      replace hO := hO9
      replace hw_8 : ((gI σ a 13 ≤ gI σ_s_9 a 13 ∧ gI σ_s_9 a 13 ≤ gI σ a 11 ∧ 0 ≤ gI σ_s_9 a 17 ∧ gI σ_s_9 a 17 ≤ gI σ_s_9 a 13) ∧ pgo (gI σ_s_9 a 19) (gI σ_s_9 a 14) (gI σ a 13) (gI σ_s_9 a 13) ∧ bdo (gI σ a 19) (gI σ_s_9 a 19)) ∧ ∃ c1 j1, RSt σ_s_9 a T c1 j1 ∧ ((fc ≠ 0 → c1 = fc ∧ j1 = jt) ∧ (fc = 0 → (tK T jt ≠ 257 ∧ c1 = 1 ∧ j1 = jt) ∨ (tK T jt = 257 ∧ 3 < tL T jt ∧ c1 = 2 ∧ j1 = jt) ∨ (tK T jt = 257 ∧ tL T jt ≤ 3 ∧ c1 = 0 ∧ j1 = jt + 1))) := hw_8
      simp only [pgo, bdo] at hw_8
      have hn_12 := hw_8.2
      replace hw_8 := hw_8.1
      obtain ⟨cc_13, jj_14, hR_15, hn_12⟩ := hn_12
      have hVhR_15 := hR_15.1
      try simp only [h0_1, ne_eq, not_true_eq_false, not_false_eq_true, false_implies, true_implies, true_and, and_true, eq_self, false_or, or_false, false_and, and_false] at hn_12
      rcases Classical.em (cc_13 = 0) with h0_16 | h0_16
      · try simp only [h0_16, ne_eq, not_true_eq_false, not_false_eq_true, false_implies, true_implies, true_and, and_true, eq_self, false_or, or_false, false_and, and_false] at hVhR_15
        refine lv_istore_n (lv' := [(2, .int (I z_10)), (1, .int (I z_5)), (0, .ref a)]) hx hb dX11_readNumber_19 rfl hl (by decide) rfl (fun ls hl => ?_)
        refine lv_iload_n hx hb dX11_readNumber_20 rfl (lv_at hl 1 rfl) ?_
        refine lv_if_eq (tgt := 29) hx hb dX11_readNumber_21 (by decide) (fun c_17 => ?_) (fun c_17 => ?_)
        · replace c_17 := (I_eq (a := z_5) (b := 0) rz_5 (show rng 0 from ⟨by decide, by decide⟩)).mp c_17
          refine lv_iload_n hx hb dX11_readNumber_29 rfl (lv_at hl 0 rfl) ?_
          exact th_iret hx hb hr hlocks hH hS (z := z_10) rz_10 ⟨hO, hF, hM, ⟨⟨by omega, pgo.of (by omega), bdo.of (by omega)⟩, cc_13, jj_14, hR_15, by omega, fun hc9 => nuR_mk (q := jt) (by omega) (by omega)⟩⟩ dX11_readNumber_30
        · replace c_17 := mt (I_eq (a := z_5) (b := 0) rz_5 (show rng 0 from ⟨by decide, by decide⟩)).mpr c_17
          refine lv_iload_n hx hb dX11_readNumber_24 rfl (lv_at hl 0 rfl) ?_
          refine lv_ineg hx hb dX11_readNumber_25 ?_
          refine th_nego (fun z_18 rz_18 hz_18 => ?_)
          refine lv_goto (tgt := 30) hx hb dX11_readNumber_26 (by decide) ?_
          exact th_iret hx hb hr hlocks hH hS (z := z_18) rz_18 ⟨hO, hF, hM, ⟨⟨by omega, pgo.of (by omega), bdo.of (by omega)⟩, cc_13, jj_14, hR_15, by omega, fun hc9 => nuR_mk (q := jt) (by omega) (by omega)⟩⟩ dX11_readNumber_30
      · try simp only [h0_16, ne_eq, not_true_eq_false, not_false_eq_true, false_implies, true_implies, true_and, and_true, eq_self, false_or, or_false, false_and, and_false] at hVhR_15
        refine lv_istore_n (lv' := [(2, .int (I z_10)), (1, .int (I z_5)), (0, .ref a)]) hx hb dX11_readNumber_19 rfl hl (by decide) rfl (fun ls hl => ?_)
        refine lv_iload_n hx hb dX11_readNumber_20 rfl (lv_at hl 1 rfl) ?_
        refine lv_if_eq (tgt := 29) hx hb dX11_readNumber_21 (by decide) (fun c_19 => ?_) (fun c_19 => ?_)
        · replace c_19 := (I_eq (a := z_5) (b := 0) rz_5 (show rng 0 from ⟨by decide, by decide⟩)).mp c_19
          refine lv_iload_n hx hb dX11_readNumber_29 rfl (lv_at hl 0 rfl) ?_
          exact th_iret hx hb hr hlocks hH hS (z := z_10) rz_10 ⟨hO, hF, hM, ⟨⟨by omega, pgo.of (by omega), bdo.of (by omega)⟩, cc_13, jj_14, hR_15, by omega, fun hc9 => nuR_mk (q := jt) (by omega) (by omega)⟩⟩ dX11_readNumber_30
        · replace c_19 := mt (I_eq (a := z_5) (b := 0) rz_5 (show rng 0 from ⟨by decide, by decide⟩)).mpr c_19
          refine lv_iload_n hx hb dX11_readNumber_24 rfl (lv_at hl 0 rfl) ?_
          refine lv_ineg hx hb dX11_readNumber_25 ?_
          refine th_nego (fun z_20 rz_20 hz_20 => ?_)
          refine lv_goto (tgt := 30) hx hb dX11_readNumber_26 (by decide) ?_
          exact th_iret hx hb hr hlocks hH hS (z := z_20) rz_20 ⟨hO, hF, hM, ⟨⟨by omega, pgo.of (by omega), bdo.of (by omega)⟩, cc_13, jj_14, hR_15, by omega, fun hc9 => nuR_mk (q := jt) (by omega) (by omega)⟩⟩ dX11_readNumber_30
    · replace c_6 := mt (I_eq (a := z_5) (b := 0) rz_5 (show rng 0 from ⟨by decide, by decide⟩)).mpr c_6
      refine lv_aload_n hx hb dX11_readNumber_11 rfl (lv_at hl 1 rfl) ?_
      obtain ⟨_, hc_21⟩ := hO.cell h_a (by decide) (ci := 11) rfl
      refine th_callv (va_runV (As := []) (rest := []) ⟨hx, hb, hml, hown, hts⟩ (n_pass l G y b0 σ E hO a h_a Bf hsr T hSt fc jt hR0 (by omega) (by omega)) (cwV 0 hts gX11_readNumber_X11_pass rfl rfl rfl (by decide +kernel) ⟨Nat.le_of_ble_eq_true rfl, Nat.le_of_ble_eq_true rfl⟩) (th_PV hK hH rfl hc_21) rfl rfl hl.1 rfl (lv_room (Nat.le_of_ble_eq_true rfl)) dX11_readNumber_12 ⟨Nat.le_of_ble_eq_true rfl, Nat.le_of_ble_eq_true rfl⟩) hS (fun σ_s_23 H locs hw_22 hH hS => ?_)
      obtain ⟨hO9, hF9, hM9, hw_22⟩ := hw_22
      replace hM := hM.tu hM9 (by decide)
      replace hF := hF.tu hF9 (by decide)
      have e_24 : gI σ_s_23 a 11 = a110 := (hM9.i (by decide)).trans ea110
      have e_25 : gI σ_s_23 a 19 = a190 := (hM9.i (by decide)).trans ea190
      replace hsr := hsr.mv hM9 (by decide) (by decide) (by decide) (by decide) (by decide)
      replace hO := hO9
      replace hw_22 : ((gI σ a 13 ≤ gI σ_s_23 a 13 ∧ gI σ_s_23 a 13 ≤ gI σ a 11 ∧ 0 ≤ gI σ_s_23 a 17 ∧ gI σ_s_23 a 17 ≤ gI σ_s_23 a 13) ∧ pgo (gI σ_s_23 a 19) (gI σ_s_23 a 14) (gI σ a 13) (gI σ_s_23 a 13) ∧ gI σ_s_23 a 19 = gI σ a 19) ∧ ∃ c1 j1, RSt σ_s_23 a T c1 j1 ∧ (c1 = fc ∧ (fc ≠ 0 → j1 = jt) ∧ (fc = 0 → j1 = jt + 1)) := hw_22
      simp only [pgo, bdo] at hw_22
      have hn_26 := hw_22.2
      replace hw_22 := hw_22.1
      obtain ⟨cc_27, jj_28, hR_29, hn_26⟩ := hn_26
      have hVhR_29 := hR_29.1
      try simp only [h0_1, ne_eq, not_true_eq_false, not_false_eq_true, false_implies, true_implies, true_and, and_true, eq_self, false_or, or_false, false_and, and_false] at hn_26
      have h0_30 : cc_27 = 0 := by omega
      try simp only [h0_30, ne_eq, not_true_eq_false, not_false_eq_true, false_implies, true_implies, true_and, and_true, eq_self, false_or, or_false, false_and, and_false] at hVhR_29
      refine lv_aload_n hx hb dX11_readNumber_15 rfl (lv_at hl 1 rfl) ?_
      obtain ⟨_, hc_31⟩ := hO.cell h_a (by decide) (ci := 11) rfl
      refine th_calli (va_runV (As := []) (rest := []) ⟨hx, hb, hml, hown, hts⟩ (n_readDigits l G y b0 σ_s_23 E hO a h_a Bf hsr T hSt cc_27 jj_28 hR_29 (by omega)) (cwV 0 hts gX11_readNumber_X11_readDigits rfl rfl rfl (by decide +kernel) ⟨Nat.le_of_ble_eq_true rfl, Nat.le_of_ble_eq_true rfl⟩) (th_PV hK hH rfl hc_31) rfl rfl hl.1 rfl (lv_room (Nat.le_of_ble_eq_true rfl)) dX11_readNumber_16 ⟨Nat.le_of_ble_eq_true rfl, Nat.le_of_ble_eq_true rfl⟩) hS (fun z_34 σ_s_33 H locs rz_34 hw_32 hH hS => ?_)
      obtain ⟨hO9, hF9, hM9, hw_32⟩ := hw_32
      replace hM := hM.tu hM9 (by decide)
      replace hF := hF.tu hF9 (by decide)
      have e_35 : gI σ_s_33 a 11 = a110 := (hM9.i (by decide)).trans e_24
      replace hsr := hsr.mv hM9 (by decide) (by decide) (by decide) (by decide) (by decide)
      replace hO := hO9
      replace hw_32 : ((gI σ_s_23 a 13 ≤ gI σ_s_33 a 13 ∧ gI σ_s_33 a 13 ≤ gI σ_s_23 a 11 ∧ 0 ≤ gI σ_s_33 a 17 ∧ gI σ_s_33 a 17 ≤ gI σ_s_33 a 13) ∧ pgo (gI σ_s_33 a 19) (gI σ_s_33 a 14) (gI σ_s_23 a 13) (gI σ_s_33 a 13) ∧ bdo (gI σ_s_23 a 19) (gI σ_s_33 a 19)) ∧ ∃ c1 j1, RSt σ_s_33 a T c1 j1 ∧ ((cc_27 ≠ 0 → c1 = cc_27 ∧ j1 = jj_28) ∧ (cc_27 = 0 → (tK T jj_28 ≠ 257 ∧ c1 = 1 ∧ j1 = jj_28) ∨ (tK T jj_28 = 257 ∧ 3 < tL T jj_28 ∧ c1 = 2 ∧ j1 = jj_28) ∨ (tK T jj_28 = 257 ∧ tL T jj_28 ≤ 3 ∧ c1 = 0 ∧ j1 = jj_28 + 1))) := hw_32
      simp only [pgo, bdo] at hw_32
      have hn_36 := hw_32.2
      replace hw_32 := hw_32.1
      obtain ⟨cc_37, jj_38, hR_39, hn_36⟩ := hn_36
      have hVhR_39 := hR_39.1
      try simp only [h0_30, ne_eq, not_true_eq_false, not_false_eq_true, false_implies, true_implies, true_and, and_true, eq_self, false_or, or_false, false_and, and_false] at hn_36
      rcases Classical.em (cc_37 = 0) with h0_40 | h0_40
      · try simp only [h0_40, ne_eq, not_true_eq_false, not_false_eq_true, false_implies, true_implies, true_and, and_true, eq_self, false_or, or_false, false_and, and_false] at hVhR_39
        refine lv_istore_n (lv' := [(2, .int (I z_34)), (1, .int (I z_5)), (0, .ref a)]) hx hb dX11_readNumber_19 rfl hl (by decide) rfl (fun ls hl => ?_)
        refine lv_iload_n hx hb dX11_readNumber_20 rfl (lv_at hl 1 rfl) ?_
        refine lv_if_eq (tgt := 29) hx hb dX11_readNumber_21 (by decide) (fun c_41 => ?_) (fun c_41 => ?_)
        · replace c_41 := (I_eq (a := z_5) (b := 0) rz_5 (show rng 0 from ⟨by decide, by decide⟩)).mp c_41
          refine lv_iload_n hx hb dX11_readNumber_29 rfl (lv_at hl 0 rfl) ?_
          exact th_iret hx hb hr hlocks hH hS (z := z_34) rz_34 ⟨hO, hF, hM, ⟨⟨by omega, pgo.of (by omega), bdo.of (by omega)⟩, cc_37, jj_38, hR_39, by omega, fun hc9 => nuR_mk (q := jj_28) (by omega) (by omega)⟩⟩ dX11_readNumber_30
        · replace c_41 := mt (I_eq (a := z_5) (b := 0) rz_5 (show rng 0 from ⟨by decide, by decide⟩)).mpr c_41
          refine lv_iload_n hx hb dX11_readNumber_24 rfl (lv_at hl 0 rfl) ?_
          refine lv_ineg hx hb dX11_readNumber_25 ?_
          refine th_nego (fun z_42 rz_42 hz_42 => ?_)
          refine lv_goto (tgt := 30) hx hb dX11_readNumber_26 (by decide) ?_
          exact th_iret hx hb hr hlocks hH hS (z := z_42) rz_42 ⟨hO, hF, hM, ⟨⟨by omega, pgo.of (by omega), bdo.of (by omega)⟩, cc_37, jj_38, hR_39, by omega, fun hc9 => nuR_mk (q := jj_28) (by omega) (by omega)⟩⟩ dX11_readNumber_30
      · try simp only [h0_40, ne_eq, not_true_eq_false, not_false_eq_true, false_implies, true_implies, true_and, and_true, eq_self, false_or, or_false, false_and, and_false] at hVhR_39
        refine lv_istore_n (lv' := [(2, .int (I z_34)), (1, .int (I z_5)), (0, .ref a)]) hx hb dX11_readNumber_19 rfl hl (by decide) rfl (fun ls hl => ?_)
        refine lv_iload_n hx hb dX11_readNumber_20 rfl (lv_at hl 1 rfl) ?_
        refine lv_if_eq (tgt := 29) hx hb dX11_readNumber_21 (by decide) (fun c_43 => ?_) (fun c_43 => ?_)
        · replace c_43 := (I_eq (a := z_5) (b := 0) rz_5 (show rng 0 from ⟨by decide, by decide⟩)).mp c_43
          refine lv_iload_n hx hb dX11_readNumber_29 rfl (lv_at hl 0 rfl) ?_
          exact th_iret hx hb hr hlocks hH hS (z := z_34) rz_34 ⟨hO, hF, hM, ⟨⟨by omega, pgo.of (by omega), bdo.of (by omega)⟩, cc_37, jj_38, hR_39, by omega, fun hc9 => nuR_mk (q := jj_28) (by omega) (by omega)⟩⟩ dX11_readNumber_30
        · replace c_43 := mt (I_eq (a := z_5) (b := 0) rz_5 (show rng 0 from ⟨by decide, by decide⟩)).mpr c_43
          refine lv_iload_n hx hb dX11_readNumber_24 rfl (lv_at hl 0 rfl) ?_
          refine lv_ineg hx hb dX11_readNumber_25 ?_
          refine th_nego (fun z_44 rz_44 hz_44 => ?_)
          refine lv_goto (tgt := 30) hx hb dX11_readNumber_26 (by decide) ?_
          exact th_iret hx hb hr hlocks hH hS (z := z_44) rz_44 ⟨hO, hF, hM, ⟨⟨by omega, pgo.of (by omega), bdo.of (by omega)⟩, cc_37, jj_38, hR_39, by omega, fun hc9 => nuR_mk (q := jj_28) (by omega) (by omega)⟩⟩ dX11_readNumber_30
  · try simp only [h0_1, ne_eq, not_true_eq_false, not_false_eq_true, false_implies, true_implies, true_and, and_true, eq_self, false_or, or_false, false_and, and_false] at hV0
    refine lv_aload_n hx hb dX11_readNumber_0 rfl (lv_at hl 0 rfl) ?_
    refine lv_bipush (v := I 45) hx hb dX11_readNumber_1 (by decide) ?_
    obtain ⟨_, hc_45⟩ := hO.cell h_a (by decide) (ci := 11) rfl
    refine th_calli (va_runV (As := [.int (I 45)]) (rest := []) ⟨hx, hb, hml, hown, hts⟩ (n_isMarked l G y b0 σ E hO a h_a 45 (show rng 45 from (show rng 45 from ⟨by decide, by decide⟩)) (by omega) (by omega) Bf hsr T hSt fc jt hR0 (by omega)) (cwV 1 hts gX11_readNumber_X11_isMarked rfl rfl rfl (by decide +kernel) ⟨Nat.le_of_ble_eq_true rfl, Nat.le_of_ble_eq_true rfl⟩) (th_PV hK hH rfl hc_45) rfl rfl hl.1 rfl (lv_room (Nat.le_of_ble_eq_true rfl)) dX11_readNumber_3 ⟨Nat.le_of_ble_eq_true rfl, Nat.le_of_ble_eq_true rfl⟩) hS (fun z_48 σ_s_47 H locs rz_48 hw_46 hH hS => ?_)
    obtain ⟨e9, bhw_46, hw_46⟩ := hw_46
    replace e9 := e9.symm
    subst e9
    replace hw_46 : (z_48 = 1 ∧ fc = 0 ∧ tK T jt = 45) ∨ (z_48 = 0 ∧ (fc ≠ 0 ∨ tK T jt ≠ 45)) := hw_46
    try simp only [h0_1, ne_eq, not_true_eq_false, not_false_eq_true, false_implies, true_implies, true_and, and_true, eq_self, false_or, or_false, false_and, and_false] at hw_46
    refine lv_istore_n (lv' := [(1, .int (I z_48)), (0, .ref a)]) hx hb dX11_readNumber_6 rfl hl (by decide) rfl (fun ls hl => ?_)
    refine lv_iload_n hx hb dX11_readNumber_7 rfl (lv_at hl 0 rfl) ?_
    refine lv_if_eq (tgt := 15) hx hb dX11_readNumber_8 (by decide) (fun c_49 => ?_) (fun c_49 => ?_)
    · replace c_49 := (I_eq (a := z_48) (b := 0) rz_48 (show rng 0 from ⟨by decide, by decide⟩)).mp c_49
      refine lv_aload_n hx hb dX11_readNumber_15 rfl (lv_at hl 1 rfl) ?_
      obtain ⟨_, hc_50⟩ := hO.cell h_a (by decide) (ci := 11) rfl
      refine th_calli (va_runV (As := []) (rest := []) ⟨hx, hb, hml, hown, hts⟩ (n_readDigits l G y b0 σ E hO a h_a Bf hsr T hSt fc jt hR0 (by omega)) (cwV 0 hts gX11_readNumber_X11_readDigits rfl rfl rfl (by decide +kernel) ⟨Nat.le_of_ble_eq_true rfl, Nat.le_of_ble_eq_true rfl⟩) (th_PV hK hH rfl hc_50) rfl rfl hl.1 rfl (lv_room (Nat.le_of_ble_eq_true rfl)) dX11_readNumber_16 ⟨Nat.le_of_ble_eq_true rfl, Nat.le_of_ble_eq_true rfl⟩) hS (fun z_53 σ_s_52 H locs rz_53 hw_51 hH hS => ?_)
      obtain ⟨hO9, hF9, hM9, hw_51⟩ := hw_51
      replace hM := hM.tu hM9 (by decide)
      replace hF := hF.tu hF9 (by decide)
      have e_54 : gI σ_s_52 a 11 = a110 := (hM9.i (by decide)).trans ea110
      replace hsr := hsr.mv hM9 (by decide) (by decide) (by decide) (by decide) (by decide)
      replace hO := hO9
      replace hw_51 : ((gI σ a 13 ≤ gI σ_s_52 a 13 ∧ gI σ_s_52 a 13 ≤ gI σ a 11 ∧ 0 ≤ gI σ_s_52 a 17 ∧ gI σ_s_52 a 17 ≤ gI σ_s_52 a 13) ∧ pgo (gI σ_s_52 a 19) (gI σ_s_52 a 14) (gI σ a 13) (gI σ_s_52 a 13) ∧ bdo (gI σ a 19) (gI σ_s_52 a 19)) ∧ ∃ c1 j1, RSt σ_s_52 a T c1 j1 ∧ ((fc ≠ 0 → c1 = fc ∧ j1 = jt) ∧ (fc = 0 → (tK T jt ≠ 257 ∧ c1 = 1 ∧ j1 = jt) ∨ (tK T jt = 257 ∧ 3 < tL T jt ∧ c1 = 2 ∧ j1 = jt) ∨ (tK T jt = 257 ∧ tL T jt ≤ 3 ∧ c1 = 0 ∧ j1 = jt + 1))) := hw_51
      simp only [pgo, bdo] at hw_51
      have hn_55 := hw_51.2
      replace hw_51 := hw_51.1
      obtain ⟨cc_56, jj_57, hR_58, hn_55⟩ := hn_55
      have hVhR_58 := hR_58.1
      try simp only [h0_1, ne_eq, not_true_eq_false, not_false_eq_true, false_implies, true_implies, true_and, and_true, eq_self, false_or, or_false, false_and, and_false] at hn_55
      have h0_59 : ¬ cc_56 = 0 := by omega
      try simp only [h0_59, ne_eq, not_true_eq_false, not_false_eq_true, false_implies, true_implies, true_and, and_true, eq_self, false_or, or_false, false_and, and_false] at hVhR_58
      refine lv_istore_n (lv' := [(2, .int (I z_53)), (1, .int (I z_48)), (0, .ref a)]) hx hb dX11_readNumber_19 rfl hl (by decide) rfl (fun ls hl => ?_)
      refine lv_iload_n hx hb dX11_readNumber_20 rfl (lv_at hl 1 rfl) ?_
      refine lv_if_eq (tgt := 29) hx hb dX11_readNumber_21 (by decide) (fun c_60 => ?_) (fun c_60 => ?_)
      · replace c_60 := (I_eq (a := z_48) (b := 0) rz_48 (show rng 0 from ⟨by decide, by decide⟩)).mp c_60
        refine lv_iload_n hx hb dX11_readNumber_29 rfl (lv_at hl 0 rfl) ?_
        exact th_iret hx hb hr hlocks hH hS (z := z_53) rz_53 ⟨hO, hF, hM, ⟨⟨by omega, pgo.of (by omega), bdo.of (by omega)⟩, cc_56, jj_57, hR_58, by omega, fun hc9 => nuR_mk (q := jt) (by omega) (by omega)⟩⟩ dX11_readNumber_30
      · replace c_60 := mt (I_eq (a := z_48) (b := 0) rz_48 (show rng 0 from ⟨by decide, by decide⟩)).mpr c_60
        refine lv_iload_n hx hb dX11_readNumber_24 rfl (lv_at hl 0 rfl) ?_
        refine lv_ineg hx hb dX11_readNumber_25 ?_
        refine th_nego (fun z_61 rz_61 hz_61 => ?_)
        refine lv_goto (tgt := 30) hx hb dX11_readNumber_26 (by decide) ?_
        exact th_iret hx hb hr hlocks hH hS (z := z_61) rz_61 ⟨hO, hF, hM, ⟨⟨by omega, pgo.of (by omega), bdo.of (by omega)⟩, cc_56, jj_57, hR_58, by omega, fun hc9 => nuR_mk (q := jt) (by omega) (by omega)⟩⟩ dX11_readNumber_30
    · replace c_49 := mt (I_eq (a := z_48) (b := 0) rz_48 (show rng 0 from ⟨by decide, by decide⟩)).mpr c_49
      refine lv_aload_n hx hb dX11_readNumber_11 rfl (lv_at hl 1 rfl) ?_
      obtain ⟨_, hc_62⟩ := hO.cell h_a (by decide) (ci := 11) rfl
      refine th_callv (va_runV (As := []) (rest := []) ⟨hx, hb, hml, hown, hts⟩ (n_pass l G y b0 σ E hO a h_a Bf hsr T hSt fc jt hR0 (by omega) (by omega)) (cwV 0 hts gX11_readNumber_X11_pass rfl rfl rfl (by decide +kernel) ⟨Nat.le_of_ble_eq_true rfl, Nat.le_of_ble_eq_true rfl⟩) (th_PV hK hH rfl hc_62) rfl rfl hl.1 rfl (lv_room (Nat.le_of_ble_eq_true rfl)) dX11_readNumber_12 ⟨Nat.le_of_ble_eq_true rfl, Nat.le_of_ble_eq_true rfl⟩) hS (fun σ_s_64 H locs hw_63 hH hS => ?_)
      obtain ⟨hO9, hF9, hM9, hw_63⟩ := hw_63
      replace hM := hM.tu hM9 (by decide)
      replace hF := hF.tu hF9 (by decide)
      have e_65 : gI σ_s_64 a 11 = a110 := (hM9.i (by decide)).trans ea110
      have e_66 : gI σ_s_64 a 19 = a190 := (hM9.i (by decide)).trans ea190
      replace hsr := hsr.mv hM9 (by decide) (by decide) (by decide) (by decide) (by decide)
      replace hO := hO9
      replace hw_63 : ((gI σ a 13 ≤ gI σ_s_64 a 13 ∧ gI σ_s_64 a 13 ≤ gI σ a 11 ∧ 0 ≤ gI σ_s_64 a 17 ∧ gI σ_s_64 a 17 ≤ gI σ_s_64 a 13) ∧ pgo (gI σ_s_64 a 19) (gI σ_s_64 a 14) (gI σ a 13) (gI σ_s_64 a 13) ∧ gI σ_s_64 a 19 = gI σ a 19) ∧ ∃ c1 j1, RSt σ_s_64 a T c1 j1 ∧ (c1 = fc ∧ (fc ≠ 0 → j1 = jt) ∧ (fc = 0 → j1 = jt + 1)) := hw_63
      simp only [pgo, bdo] at hw_63
      have hn_67 := hw_63.2
      replace hw_63 := hw_63.1
      obtain ⟨cc_68, jj_69, hR_70, hn_67⟩ := hn_67
      have hVhR_70 := hR_70.1
      try simp only [h0_1, ne_eq, not_true_eq_false, not_false_eq_true, false_implies, true_implies, true_and, and_true, eq_self, false_or, or_false, false_and, and_false] at hn_67
      have h0_71 : ¬ cc_68 = 0 := by omega
      try simp only [h0_71, ne_eq, not_true_eq_false, not_false_eq_true, false_implies, true_implies, true_and, and_true, eq_self, false_or, or_false, false_and, and_false] at hVhR_70
      refine lv_aload_n hx hb dX11_readNumber_15 rfl (lv_at hl 1 rfl) ?_
      obtain ⟨_, hc_72⟩ := hO.cell h_a (by decide) (ci := 11) rfl
      refine th_calli (va_runV (As := []) (rest := []) ⟨hx, hb, hml, hown, hts⟩ (n_readDigits l G y b0 σ_s_64 E hO a h_a Bf hsr T hSt cc_68 jj_69 hR_70 (by omega)) (cwV 0 hts gX11_readNumber_X11_readDigits rfl rfl rfl (by decide +kernel) ⟨Nat.le_of_ble_eq_true rfl, Nat.le_of_ble_eq_true rfl⟩) (th_PV hK hH rfl hc_72) rfl rfl hl.1 rfl (lv_room (Nat.le_of_ble_eq_true rfl)) dX11_readNumber_16 ⟨Nat.le_of_ble_eq_true rfl, Nat.le_of_ble_eq_true rfl⟩) hS (fun z_75 σ_s_74 H locs rz_75 hw_73 hH hS => ?_)
      obtain ⟨hO9, hF9, hM9, hw_73⟩ := hw_73
      replace hM := hM.tu hM9 (by decide)
      replace hF := hF.tu hF9 (by decide)
      have e_76 : gI σ_s_74 a 11 = a110 := (hM9.i (by decide)).trans e_65
      replace hsr := hsr.mv hM9 (by decide) (by decide) (by decide) (by decide) (by decide)
      replace hO := hO9
      replace hw_73 : ((gI σ_s_64 a 13 ≤ gI σ_s_74 a 13 ∧ gI σ_s_74 a 13 ≤ gI σ_s_64 a 11 ∧ 0 ≤ gI σ_s_74 a 17 ∧ gI σ_s_74 a 17 ≤ gI σ_s_74 a 13) ∧ pgo (gI σ_s_74 a 19) (gI σ_s_74 a 14) (gI σ_s_64 a 13) (gI σ_s_74 a 13) ∧ bdo (gI σ_s_64 a 19) (gI σ_s_74 a 19)) ∧ ∃ c1 j1, RSt σ_s_74 a T c1 j1 ∧ ((cc_68 ≠ 0 → c1 = cc_68 ∧ j1 = jj_69) ∧ (cc_68 = 0 → (tK T jj_69 ≠ 257 ∧ c1 = 1 ∧ j1 = jj_69) ∨ (tK T jj_69 = 257 ∧ 3 < tL T jj_69 ∧ c1 = 2 ∧ j1 = jj_69) ∨ (tK T jj_69 = 257 ∧ tL T jj_69 ≤ 3 ∧ c1 = 0 ∧ j1 = jj_69 + 1))) := hw_73
      simp only [pgo, bdo] at hw_73
      have hn_77 := hw_73.2
      replace hw_73 := hw_73.1
      obtain ⟨cc_78, jj_79, hR_80, hn_77⟩ := hn_77
      have hVhR_80 := hR_80.1
      try simp only [h0_71, ne_eq, not_true_eq_false, not_false_eq_true, false_implies, true_implies, true_and, and_true, eq_self, false_or, or_false, false_and, and_false] at hn_77
      have h0_81 : ¬ cc_78 = 0 := by omega
      try simp only [h0_81, ne_eq, not_true_eq_false, not_false_eq_true, false_implies, true_implies, true_and, and_true, eq_self, false_or, or_false, false_and, and_false] at hVhR_80
      refine lv_istore_n (lv' := [(2, .int (I z_75)), (1, .int (I z_48)), (0, .ref a)]) hx hb dX11_readNumber_19 rfl hl (by decide) rfl (fun ls hl => ?_)
      refine lv_iload_n hx hb dX11_readNumber_20 rfl (lv_at hl 1 rfl) ?_
      refine lv_if_eq (tgt := 29) hx hb dX11_readNumber_21 (by decide) (fun c_82 => ?_) (fun c_82 => ?_)
      · replace c_82 := (I_eq (a := z_48) (b := 0) rz_48 (show rng 0 from ⟨by decide, by decide⟩)).mp c_82
        refine lv_iload_n hx hb dX11_readNumber_29 rfl (lv_at hl 0 rfl) ?_
        exact th_iret hx hb hr hlocks hH hS (z := z_75) rz_75 ⟨hO, hF, hM, ⟨⟨by omega, pgo.of (by omega), bdo.of (by omega)⟩, cc_78, jj_79, hR_80, by omega, fun hc9 => nuR_mk (q := jj_69) (by omega) (by omega)⟩⟩ dX11_readNumber_30
      · replace c_82 := mt (I_eq (a := z_48) (b := 0) rz_48 (show rng 0 from ⟨by decide, by decide⟩)).mpr c_82
        refine lv_iload_n hx hb dX11_readNumber_24 rfl (lv_at hl 0 rfl) ?_
        refine lv_ineg hx hb dX11_readNumber_25 ?_
        refine th_nego (fun z_83 rz_83 hz_83 => ?_)
        refine lv_goto (tgt := 30) hx hb dX11_readNumber_26 (by decide) ?_
        exact th_iret hx hb hr hlocks hH hS (z := z_83) rz_83 ⟨hO, hF, hM, ⟨⟨by omega, pgo.of (by omega), bdo.of (by omega)⟩, cc_78, jj_79, hR_80, by omega, fun hc9 => nuR_mk (q := jj_69) (by omega) (by omega)⟩⟩ dX11_readNumber_30

set_option maxHeartbeats 4000000 in
set_option maxRecDepth 100000 in
theorem n_wordNow (l : Launch) (G : va_G) (y : Nat → ClassId) (b0 : Nat) (σ : th_M) (E : th_E) (hO : ok y E σ) (a : Nat) (h_a : kd E a = 13) (Bf : Int → Int) (hsr : sr E σ a Bf) (T : tkT) (hSt : tkSt Bf T) (fc jt : Int) (hR0 : RSt σ a T fc jt) (hy0 : 0 ≤ gI σ a 17 ∧ gI σ a 17 ≤ gI σ a 13 ∧ gI σ a 13 ≤ 400) : Met l yX11_wordNow wsX11_wordNow ({ frames := 1, cells := 0, slots := 0, locals := 25 }) (th_P G y b0 σ [.ref a]) (th_Qi G b0 (fun r σ1 => ok y E σ1 ∧ fr [13] E σ σ1 ∧ fm [19, 20] E σ σ1 a ∧ ((bdo (gI σ a 19) (gI σ1 a 19)) ∧ ∃ c1 j1, RSt σ1 a T c1 j1 ∧ (j1 = jt ∧ (fc ≠ 0 → c1 = fc) ∧ (fc = 0 → (tK T jt ≠ 256 ∧ c1 = 1) ∨ (tK T jt = 256 ∧ 6 < tL T jt ∧ c1 = 2) ∨ (tK T jt = 256 ∧ tL T jt ≤ 6 ∧ c1 = 0 ∧ r = tV T jt)))))) 0 0 (th_A b0) := by
  refine Met.ofW (cc := cX11_wordNow) (maxL := 1) (ret := (some .int)) (by decide) rfl ?_
  intro p e s m args below meth c s₁ B hml hv
  obtain ⟨rfl, hH, hK⟩ := hv
  have hx := B.exec
  have hb := B.bytes
  have hr := B.returns
  have hts := atoms_spec (ws := wsX11_wordNow) B.pre
  have hown : s.vm.findClass RX11 = some m.cls := findClass_of_methodNamed B.named
  have hlocks := B.notSynchronized
  have h00 : b0 ≤ s.heap.size := hH.1
  have hS : va_S (th_A b0) s.heap s.heap [] := va_S.rf
  have hF : fr [13] E σ σ := fr.rf
  have hM : fm [19, 20] E σ σ a := fm.rf
  have h29 := hR0.t1
  have hw9 := fun (h9 : fc = 0) => (hR0.2 h9).2
  have inX11 : ∀ w ∈ wsX110, w ∈ wsX11_wordNow := by decide +kernel
  have fl0 := hts (.fieldLink RX11 162 "NestQueryModel" "bad" "I") (by decide +kernel)
  have fl1 := hts (.fieldLink RX11 143 "NestQueryModel" "word" "I") (by decide +kernel)
  have fl2 := hts (.fieldLink RX11 159 "NestQueryModel" "stops" "I") (by decide +kernel)
  have fl3 := hts (.fieldLink RX11 133 "NestQueryModel" "begins" "I") (by decide +kernel)
  have fl4 := hts (.fieldLink RX11 136 "NestQueryModel" "token" "I") (by decide +kernel)
  have hl := lv_entry ([.ref a]) (n := 1) (Nat.le_of_ble_eq_true rfl)
  rw [lg_entry_eq]
  generalize (lg_sl ([.ref a]) ++ List.replicate (1 - (lg_sl ([.ref a])).length) Slot.unset).toArray = ls at hl ⊢
  have hl : lv_has ls 1 [(0, .ref a)] := hl
  obtain ⟨a110, ea110, ra110, la110, ua110⟩ := hO.gi h_a (by decide) k13_11
  obtain ⟨a130, ea130, ra130, la130, ua130⟩ := hO.gi h_a (by decide) k13_13
  obtain ⟨a140, ea140, ra140, la140, ua140⟩ := hO.gi h_a (by decide) k13_14
  obtain ⟨a170, ea170, ra170, la170, ua170⟩ := hO.gi h_a (by decide) k13_17
  obtain ⟨a190, ea190, ra190, la190, ua190⟩ := hO.gi h_a (by decide) k13_19
  obtain ⟨a160, ea160, ra160, la160, ua160⟩ := hO.gi h_a (by decide) k13_16
  obtain ⟨a180, ea180, ra180, la180, ua180⟩ := hO.gi h_a (by decide) k13_18
  have hV0 := hR0.1
  rcases Classical.em (fc = 0) with h0_1 | h0_1
  · try simp only [h0_1, ne_eq, not_true_eq_false, not_false_eq_true, false_implies, true_implies, true_and, and_true, eq_self, false_or, or_false, false_and, and_false] at hV0
    refine lv_aload_n hx hb dX11_wordNow_0 rfl (lv_at hl 0 rfl) ?_
    refine ok.getIc hO h_a (by decide) k13_19 ea190 (fun _ _ he hv kk => th_get (ci := 11) (C := RX11) (T := TX11) (N := 66) hx hb hts inX11 hown hK hH he rfl 19 (by decide) fl0 hv dX11_wordNow_1 kk) ?_
    refine lv_if_ne (tgt := 20) hx hb dX11_wordNow_4 (by decide) (fun c_2 => ?_) (fun c_2 => ?_)
    · replace c_2 := mt (I_eq (a := a190) (b := 0) ra190 (show rng 0 from ⟨by decide, by decide⟩)).mpr c_2
      refine lv_aload_n hx hb dX11_wordNow_20 rfl (lv_at hl 0 rfl) ?_
      refine ok.getIc hO h_a (by decide) k13_19 ea190 (fun _ _ he hv kk => th_get (ci := 11) (C := RX11) (T := TX11) (N := 66) hx hb hts inX11 hown hK hH he rfl 19 (by decide) fl0 hv dX11_wordNow_21 kk) ?_
      refine lv_if_ne (tgt := 46) hx hb dX11_wordNow_24 (by decide) (fun c_3 => ?_) (fun c_3 => ?_)
      · replace c_3 := mt (I_eq (a := a190) (b := 0) ra190 (show rng 0 from ⟨by decide, by decide⟩)).mpr c_3
        refine lv_aload_n hx hb dX11_wordNow_46 rfl (lv_at hl 0 rfl) ?_
        refine ok.getIc hO h_a (by decide) k13_16 ea160 (fun _ _ he hv kk => th_get (ci := 11) (C := RX11) (T := TX11) (N := 66) hx hb hts inX11 hown hK hH he rfl 16 (by decide) fl1 hv dX11_wordNow_47 kk) ?_
        exact th_iret hx hb hr hlocks hH hS (z := a160) ra160 ⟨hO, hF, hM, ⟨bdo.of (by omega), fc, jt, hR0, by omega, by omega, by omega⟩⟩ dX11_wordNow_50
      · replace c_3 := (I_eq (a := a190) (b := 0) ra190 (show rng 0 from ⟨by decide, by decide⟩)).mp c_3
        refine lv_aload_n hx hb dX11_wordNow_27 rfl (lv_at hl 0 rfl) ?_
        refine ok.getIc hO h_a (by decide) k13_18 ea180 (fun _ _ he hv kk => th_get (ci := 11) (C := RX11) (T := TX11) (N := 66) hx hb hts inX11 hown hK hH he rfl 18 (by decide) fl2 hv dX11_wordNow_28 kk) ?_
        refine lv_aload_n hx hb dX11_wordNow_31 rfl (lv_at hl 0 rfl) ?_
        refine ok.getIc hO h_a (by decide) k13_17 ea170 (fun _ _ he hv kk => th_get (ci := 11) (C := RX11) (T := TX11) (N := 66) hx hb hts inX11 hown hK hH he rfl 17 (by decide) fl3 hv dX11_wordNow_32 kk) ?_
        refine lv_isub hx hb dX11_wordNow_35 ?_
        refine th_subo (fun z_4 rz_4 hz_4 => ?_)
        refine lv_bipush (v := I 6) hx hb dX11_wordNow_36 (by decide) ?_
        refine lv_icmp_le (tgt := 46) hx hb dX11_wordNow_38 (by decide) (fun c_5 => ?_) (fun c_5 => ?_)
        · replace c_5 := (I_le (a := z_4) (b := 6) rz_4 (show rng 6 from ⟨by decide, by decide⟩)).mp c_5
          refine lv_aload_n hx hb dX11_wordNow_46 rfl (lv_at hl 0 rfl) ?_
          refine ok.getIc hO h_a (by decide) k13_16 ea160 (fun _ _ he hv kk => th_get (ci := 11) (C := RX11) (T := TX11) (N := 66) hx hb hts inX11 hown hK hH he rfl 16 (by decide) fl1 hv dX11_wordNow_47 kk) ?_
          exact th_iret hx hb hr hlocks hH hS (z := a160) ra160 ⟨hO, hF, hM, ⟨bdo.of (by omega), fc, jt, hR0, by omega, by omega, by omega⟩⟩ dX11_wordNow_50
        · replace c_5 := mt (I_le (a := z_4) (b := 6) rz_4 (show rng 6 from ⟨by decide, by decide⟩)).mpr c_5
          refine lv_aload_n hx hb dX11_wordNow_41 rfl (lv_at hl 0 rfl) ?_
          refine lv_iconst (v := I 2) hx hb dX11_wordNow_42 (by decide) ?_
          obtain ⟨_, hc_6⟩ := hO.cell h_a (by decide) (ci := 11) rfl
          refine th_callv (va_runV (As := [.int (I 2)]) (rest := []) ⟨hx, hb, hml, hown, hts⟩ (n_wrong l G y b0 σ E hO a h_a 2 (show rng 2 from (show rng 2 from ⟨by decide, by decide⟩)) (by omega) (by omega) Bf hsr T hSt fc jt hR0) (cwV 1 hts gX11_wordNow_X11_wrong rfl rfl rfl (by decide +kernel) ⟨Nat.le_of_ble_eq_true rfl, Nat.le_of_ble_eq_true rfl⟩) (th_PV hK hH rfl hc_6) rfl rfl hl.1 rfl (lv_room (Nat.le_of_ble_eq_true rfl)) dX11_wordNow_43 ⟨Nat.le_of_ble_eq_true rfl, Nat.le_of_ble_eq_true rfl⟩) hS (fun σ_s_8 H locs hw_7 hH hS => ?_)
          obtain ⟨hO9, hF9, hM9, hw_7⟩ := hw_7
          replace hM := hM.tu hM9 (by decide)
          replace hF := hF.tu hF9 (by decide)
          have e_9 : gI σ_s_8 a 11 = a110 := (hM9.i (by decide)).trans ea110
          have e_10 : gI σ_s_8 a 13 = a130 := (hM9.i (by decide)).trans ea130
          have e_11 : gI σ_s_8 a 14 = a140 := (hM9.i (by decide)).trans ea140
          have e_12 : gI σ_s_8 a 17 = a170 := (hM9.i (by decide)).trans ea170
          have e_13 : gI σ_s_8 a 16 = a160 := (hM9.i (by decide)).trans ea160
          have e_14 : gI σ_s_8 a 18 = a180 := (hM9.i (by decide)).trans ea180
          replace hsr := hsr.mv hM9 (by decide) (by decide) (by decide) (by decide) (by decide)
          replace hO := hO9
          replace hw_7 : (¬ gI σ_s_8 a 19 = 0 ∧ (gI σ a 19 = 0 ∨ gI σ_s_8 a 19 = gI σ a 19)) ∧ ∃ c1 j1, RSt σ_s_8 a T c1 j1 ∧ (j1 = jt ∧ (fc = 0 → c1 = 2) ∧ (fc ≠ 0 → c1 = fc)) := hw_7
          have hn_15 := hw_7.2
          replace hw_7 := hw_7.1
          obtain ⟨cc_16, jj_17, hR_18, hn_15⟩ := hn_15
          have hVhR_18 := hR_18.1
          have hj9 := hn_15.1.symm
          subst hj9
          try simp only [h0_1, ne_eq, not_true_eq_false, not_false_eq_true, false_implies, true_implies, true_and, and_true, eq_self, false_or, or_false, false_and, and_false] at hn_15
          have h0_19 : ¬ cc_16 = 0 := by omega
          try simp only [h0_19, ne_eq, not_true_eq_false, not_false_eq_true, false_implies, true_implies, true_and, and_true, eq_self, false_or, or_false, false_and, and_false] at hVhR_18
          refine lv_aload_n hx hb dX11_wordNow_46 rfl (lv_at hl 0 rfl) ?_
          refine ok.getIc hO h_a (by decide) k13_16 e_13 (fun _ _ he hv kk => th_get (ci := 11) (C := RX11) (T := TX11) (N := 66) hx hb hts inX11 hown hK hH he rfl 16 (by decide) fl1 hv dX11_wordNow_47 kk) ?_
          exact th_iret hx hb hr hlocks hH hS (z := a160) ra160 ⟨hO, hF, hM, ⟨bdo.of (by omega), cc_16, jt, hR_18, by omega, by omega, by omega⟩⟩ dX11_wordNow_50
    · replace c_2 := (I_eq (a := a190) (b := 0) ra190 (show rng 0 from ⟨by decide, by decide⟩)).mp c_2
      refine lv_aload_n hx hb dX11_wordNow_7 rfl (lv_at hl 0 rfl) ?_
      refine ok.getIc hO h_a (by decide) k13_14 ea140 (fun _ _ he hv kk => th_get (ci := 11) (C := RX11) (T := TX11) (N := 66) hx hb hts inX11 hown hK hH he rfl 14 (by decide) fl4 hv dX11_wordNow_8 kk) ?_
      refine lv_iconst (v := I 1) hx hb dX11_wordNow_11 (by decide) ?_
      refine lv_icmp_eq (tgt := 20) hx hb dX11_wordNow_12 (by decide) (fun c_20 => ?_) (fun c_20 => ?_)
      · replace c_20 := (I_eq (a := a140) (b := 1) ra140 (show rng 1 from ⟨by decide, by decide⟩)).mp c_20
        refine lv_aload_n hx hb dX11_wordNow_20 rfl (lv_at hl 0 rfl) ?_
        refine ok.getIc hO h_a (by decide) k13_19 ea190 (fun _ _ he hv kk => th_get (ci := 11) (C := RX11) (T := TX11) (N := 66) hx hb hts inX11 hown hK hH he rfl 19 (by decide) fl0 hv dX11_wordNow_21 kk) ?_
        refine lv_if_ne (tgt := 46) hx hb dX11_wordNow_24 (by decide) (fun c_21 => ?_) (fun c_21 => ?_)
        · replace c_21 := mt (I_eq (a := a190) (b := 0) ra190 (show rng 0 from ⟨by decide, by decide⟩)).mpr c_21
          refine lv_aload_n hx hb dX11_wordNow_46 rfl (lv_at hl 0 rfl) ?_
          refine ok.getIc hO h_a (by decide) k13_16 ea160 (fun _ _ he hv kk => th_get (ci := 11) (C := RX11) (T := TX11) (N := 66) hx hb hts inX11 hown hK hH he rfl 16 (by decide) fl1 hv dX11_wordNow_47 kk) ?_
          exact th_iret hx hb hr hlocks hH hS (z := a160) ra160 ⟨hO, hF, hM, ⟨bdo.of (by omega), fc, jt, hR0, by omega, by omega, by omega⟩⟩ dX11_wordNow_50
        · replace c_21 := (I_eq (a := a190) (b := 0) ra190 (show rng 0 from ⟨by decide, by decide⟩)).mp c_21
          refine lv_aload_n hx hb dX11_wordNow_27 rfl (lv_at hl 0 rfl) ?_
          refine ok.getIc hO h_a (by decide) k13_18 ea180 (fun _ _ he hv kk => th_get (ci := 11) (C := RX11) (T := TX11) (N := 66) hx hb hts inX11 hown hK hH he rfl 18 (by decide) fl2 hv dX11_wordNow_28 kk) ?_
          refine lv_aload_n hx hb dX11_wordNow_31 rfl (lv_at hl 0 rfl) ?_
          refine ok.getIc hO h_a (by decide) k13_17 ea170 (fun _ _ he hv kk => th_get (ci := 11) (C := RX11) (T := TX11) (N := 66) hx hb hts inX11 hown hK hH he rfl 17 (by decide) fl3 hv dX11_wordNow_32 kk) ?_
          refine lv_isub hx hb dX11_wordNow_35 ?_
          refine th_subo (fun z_22 rz_22 hz_22 => ?_)
          refine lv_bipush (v := I 6) hx hb dX11_wordNow_36 (by decide) ?_
          refine lv_icmp_le (tgt := 46) hx hb dX11_wordNow_38 (by decide) (fun c_23 => ?_) (fun c_23 => ?_)
          · replace c_23 := (I_le (a := z_22) (b := 6) rz_22 (show rng 6 from ⟨by decide, by decide⟩)).mp c_23
            refine lv_aload_n hx hb dX11_wordNow_46 rfl (lv_at hl 0 rfl) ?_
            refine ok.getIc hO h_a (by decide) k13_16 ea160 (fun _ _ he hv kk => th_get (ci := 11) (C := RX11) (T := TX11) (N := 66) hx hb hts inX11 hown hK hH he rfl 16 (by decide) fl1 hv dX11_wordNow_47 kk) ?_
            exact th_iret hx hb hr hlocks hH hS (z := a160) ra160 ⟨hO, hF, hM, ⟨bdo.of (by omega), fc, jt, hR0, by omega, by omega, by omega⟩⟩ dX11_wordNow_50
          · replace c_23 := mt (I_le (a := z_22) (b := 6) rz_22 (show rng 6 from ⟨by decide, by decide⟩)).mpr c_23
            refine lv_aload_n hx hb dX11_wordNow_41 rfl (lv_at hl 0 rfl) ?_
            refine lv_iconst (v := I 2) hx hb dX11_wordNow_42 (by decide) ?_
            obtain ⟨_, hc_24⟩ := hO.cell h_a (by decide) (ci := 11) rfl
            refine th_callv (va_runV (As := [.int (I 2)]) (rest := []) ⟨hx, hb, hml, hown, hts⟩ (n_wrong l G y b0 σ E hO a h_a 2 (show rng 2 from (show rng 2 from ⟨by decide, by decide⟩)) (by omega) (by omega) Bf hsr T hSt fc jt hR0) (cwV 1 hts gX11_wordNow_X11_wrong rfl rfl rfl (by decide +kernel) ⟨Nat.le_of_ble_eq_true rfl, Nat.le_of_ble_eq_true rfl⟩) (th_PV hK hH rfl hc_24) rfl rfl hl.1 rfl (lv_room (Nat.le_of_ble_eq_true rfl)) dX11_wordNow_43 ⟨Nat.le_of_ble_eq_true rfl, Nat.le_of_ble_eq_true rfl⟩) hS (fun σ_s_26 H locs hw_25 hH hS => ?_)
            obtain ⟨hO9, hF9, hM9, hw_25⟩ := hw_25
            replace hM := hM.tu hM9 (by decide)
            replace hF := hF.tu hF9 (by decide)
            have e_27 : gI σ_s_26 a 11 = a110 := (hM9.i (by decide)).trans ea110
            have e_28 : gI σ_s_26 a 13 = a130 := (hM9.i (by decide)).trans ea130
            have e_29 : gI σ_s_26 a 14 = a140 := (hM9.i (by decide)).trans ea140
            have e_30 : gI σ_s_26 a 17 = a170 := (hM9.i (by decide)).trans ea170
            have e_31 : gI σ_s_26 a 16 = a160 := (hM9.i (by decide)).trans ea160
            have e_32 : gI σ_s_26 a 18 = a180 := (hM9.i (by decide)).trans ea180
            replace hsr := hsr.mv hM9 (by decide) (by decide) (by decide) (by decide) (by decide)
            replace hO := hO9
            replace hw_25 : (¬ gI σ_s_26 a 19 = 0 ∧ (gI σ a 19 = 0 ∨ gI σ_s_26 a 19 = gI σ a 19)) ∧ ∃ c1 j1, RSt σ_s_26 a T c1 j1 ∧ (j1 = jt ∧ (fc = 0 → c1 = 2) ∧ (fc ≠ 0 → c1 = fc)) := hw_25
            have hn_33 := hw_25.2
            replace hw_25 := hw_25.1
            obtain ⟨cc_34, jj_35, hR_36, hn_33⟩ := hn_33
            have hVhR_36 := hR_36.1
            have hj9 := hn_33.1.symm
            subst hj9
            try simp only [h0_1, ne_eq, not_true_eq_false, not_false_eq_true, false_implies, true_implies, true_and, and_true, eq_self, false_or, or_false, false_and, and_false] at hn_33
            have h0_37 : ¬ cc_34 = 0 := by omega
            try simp only [h0_37, ne_eq, not_true_eq_false, not_false_eq_true, false_implies, true_implies, true_and, and_true, eq_self, false_or, or_false, false_and, and_false] at hVhR_36
            refine lv_aload_n hx hb dX11_wordNow_46 rfl (lv_at hl 0 rfl) ?_
            refine ok.getIc hO h_a (by decide) k13_16 e_31 (fun _ _ he hv kk => th_get (ci := 11) (C := RX11) (T := TX11) (N := 66) hx hb hts inX11 hown hK hH he rfl 16 (by decide) fl1 hv dX11_wordNow_47 kk) ?_
            exact th_iret hx hb hr hlocks hH hS (z := a160) ra160 ⟨hO, hF, hM, ⟨bdo.of (by omega), cc_34, jt, hR_36, by omega, by omega, by omega⟩⟩ dX11_wordNow_50
      · replace c_20 := mt (I_eq (a := a140) (b := 1) ra140 (show rng 1 from ⟨by decide, by decide⟩)).mpr c_20
        refine lv_aload_n hx hb dX11_wordNow_15 rfl (lv_at hl 0 rfl) ?_
        refine lv_iconst (v := I 1) hx hb dX11_wordNow_16 (by decide) ?_
        obtain ⟨_, hc_38⟩ := hO.cell h_a (by decide) (ci := 11) rfl
        refine th_callv (va_runV (As := [.int (I 1)]) (rest := []) ⟨hx, hb, hml, hown, hts⟩ (n_wrong l G y b0 σ E hO a h_a 1 (show rng 1 from (show rng 1 from ⟨by decide, by decide⟩)) (by omega) (by omega) Bf hsr T hSt fc jt hR0) (cwV 1 hts gX11_wordNow_X11_wrong rfl rfl rfl (by decide +kernel) ⟨Nat.le_of_ble_eq_true rfl, Nat.le_of_ble_eq_true rfl⟩) (th_PV hK hH rfl hc_38) rfl rfl hl.1 rfl (lv_room (Nat.le_of_ble_eq_true rfl)) dX11_wordNow_17 ⟨Nat.le_of_ble_eq_true rfl, Nat.le_of_ble_eq_true rfl⟩) hS (fun σ_s_40 H locs hw_39 hH hS => ?_)
        obtain ⟨hO9, hF9, hM9, hw_39⟩ := hw_39
        replace hM := hM.tu hM9 (by decide)
        replace hF := hF.tu hF9 (by decide)
        have e_41 : gI σ_s_40 a 11 = a110 := (hM9.i (by decide)).trans ea110
        have e_42 : gI σ_s_40 a 13 = a130 := (hM9.i (by decide)).trans ea130
        have e_43 : gI σ_s_40 a 14 = a140 := (hM9.i (by decide)).trans ea140
        have e_44 : gI σ_s_40 a 17 = a170 := (hM9.i (by decide)).trans ea170
        have e_45 : gI σ_s_40 a 16 = a160 := (hM9.i (by decide)).trans ea160
        have e_46 : gI σ_s_40 a 18 = a180 := (hM9.i (by decide)).trans ea180
        replace hsr := hsr.mv hM9 (by decide) (by decide) (by decide) (by decide) (by decide)
        replace hO := hO9
        replace hw_39 : (¬ gI σ_s_40 a 19 = 0 ∧ (gI σ a 19 = 0 ∨ gI σ_s_40 a 19 = gI σ a 19)) ∧ ∃ c1 j1, RSt σ_s_40 a T c1 j1 ∧ (j1 = jt ∧ (fc = 0 → c1 = 1) ∧ (fc ≠ 0 → c1 = fc)) := hw_39
        have hn_47 := hw_39.2
        replace hw_39 := hw_39.1
        obtain ⟨cc_48, jj_49, hR_50, hn_47⟩ := hn_47
        have hVhR_50 := hR_50.1
        have hj9 := hn_47.1.symm
        subst hj9
        try simp only [h0_1, ne_eq, not_true_eq_false, not_false_eq_true, false_implies, true_implies, true_and, and_true, eq_self, false_or, or_false, false_and, and_false] at hn_47
        have h0_51 : ¬ cc_48 = 0 := by omega
        try simp only [h0_51, ne_eq, not_true_eq_false, not_false_eq_true, false_implies, true_implies, true_and, and_true, eq_self, false_or, or_false, false_and, and_false] at hVhR_50
        refine lv_aload_n hx hb dX11_wordNow_20 rfl (lv_at hl 0 rfl) ?_
        refine ok.getI hO h_a (by decide) k13_19 (fun _ _ he hv kk => th_get (ci := 11) (C := RX11) (T := TX11) (N := 66) hx hb hts inX11 hown hK hH he rfl 19 (by decide) fl0 hv dX11_wordNow_21 kk) (fun z_52 e_53 rz_52 lz_52 uz_52 => ?_)
        refine lv_if_ne (tgt := 46) hx hb dX11_wordNow_24 (by decide) (fun c_54 => ?_) (fun c_54 => ?_)
        · replace c_54 := mt (I_eq (a := z_52) (b := 0) rz_52 (show rng 0 from ⟨by decide, by decide⟩)).mpr c_54
          refine lv_aload_n hx hb dX11_wordNow_46 rfl (lv_at hl 0 rfl) ?_
          refine ok.getIc hO h_a (by decide) k13_16 e_45 (fun _ _ he hv kk => th_get (ci := 11) (C := RX11) (T := TX11) (N := 66) hx hb hts inX11 hown hK hH he rfl 16 (by decide) fl1 hv dX11_wordNow_47 kk) ?_
          exact th_iret hx hb hr hlocks hH hS (z := a160) ra160 ⟨hO, hF, hM, ⟨bdo.of (by omega), cc_48, jt, hR_50, by omega, by omega, by omega⟩⟩ dX11_wordNow_50
        · replace c_54 := (I_eq (a := z_52) (b := 0) rz_52 (show rng 0 from ⟨by decide, by decide⟩)).mp c_54
          refine lv_aload_n hx hb dX11_wordNow_27 rfl (lv_at hl 0 rfl) ?_
          refine ok.getIc hO h_a (by decide) k13_18 e_46 (fun _ _ he hv kk => th_get (ci := 11) (C := RX11) (T := TX11) (N := 66) hx hb hts inX11 hown hK hH he rfl 18 (by decide) fl2 hv dX11_wordNow_28 kk) ?_
          refine lv_aload_n hx hb dX11_wordNow_31 rfl (lv_at hl 0 rfl) ?_
          refine ok.getIc hO h_a (by decide) k13_17 e_44 (fun _ _ he hv kk => th_get (ci := 11) (C := RX11) (T := TX11) (N := 66) hx hb hts inX11 hown hK hH he rfl 17 (by decide) fl3 hv dX11_wordNow_32 kk) ?_
          refine lv_isub hx hb dX11_wordNow_35 ?_
          refine th_subo (fun z_55 rz_55 hz_55 => ?_)
          refine lv_bipush (v := I 6) hx hb dX11_wordNow_36 (by decide) ?_
          refine lv_icmp_le (tgt := 46) hx hb dX11_wordNow_38 (by decide) (fun c_56 => ?_) (fun c_56 => ?_)
          · replace c_56 := (I_le (a := z_55) (b := 6) rz_55 (show rng 6 from ⟨by decide, by decide⟩)).mp c_56
            refine lv_aload_n hx hb dX11_wordNow_46 rfl (lv_at hl 0 rfl) ?_
            refine ok.getIc hO h_a (by decide) k13_16 e_45 (fun _ _ he hv kk => th_get (ci := 11) (C := RX11) (T := TX11) (N := 66) hx hb hts inX11 hown hK hH he rfl 16 (by decide) fl1 hv dX11_wordNow_47 kk) ?_
            exact th_iret hx hb hr hlocks hH hS (z := a160) ra160 ⟨hO, hF, hM, ⟨bdo.of (by omega), cc_48, jt, hR_50, by omega, by omega, by omega⟩⟩ dX11_wordNow_50
          · replace c_56 := mt (I_le (a := z_55) (b := 6) rz_55 (show rng 6 from ⟨by decide, by decide⟩)).mpr c_56
            refine lv_aload_n hx hb dX11_wordNow_41 rfl (lv_at hl 0 rfl) ?_
            refine lv_iconst (v := I 2) hx hb dX11_wordNow_42 (by decide) ?_
            obtain ⟨_, hc_57⟩ := hO.cell h_a (by decide) (ci := 11) rfl
            refine th_callv (va_runV (As := [.int (I 2)]) (rest := []) ⟨hx, hb, hml, hown, hts⟩ (n_wrong l G y b0 σ_s_40 E hO a h_a 2 (show rng 2 from (show rng 2 from ⟨by decide, by decide⟩)) (by omega) (by omega) Bf hsr T hSt cc_48 jt hR_50) (cwV 1 hts gX11_wordNow_X11_wrong rfl rfl rfl (by decide +kernel) ⟨Nat.le_of_ble_eq_true rfl, Nat.le_of_ble_eq_true rfl⟩) (th_PV hK hH rfl hc_57) rfl rfl hl.1 rfl (lv_room (Nat.le_of_ble_eq_true rfl)) dX11_wordNow_43 ⟨Nat.le_of_ble_eq_true rfl, Nat.le_of_ble_eq_true rfl⟩) hS (fun σ_s_59 H locs hw_58 hH hS => ?_)
            obtain ⟨hO9, hF9, hM9, hw_58⟩ := hw_58
            replace hM := hM.tu hM9 (by decide)
            replace hF := hF.tu hF9 (by decide)
            have e_60 : gI σ_s_59 a 11 = a110 := (hM9.i (by decide)).trans e_41
            have e_61 : gI σ_s_59 a 13 = a130 := (hM9.i (by decide)).trans e_42
            have e_62 : gI σ_s_59 a 14 = a140 := (hM9.i (by decide)).trans e_43
            have e_63 : gI σ_s_59 a 17 = a170 := (hM9.i (by decide)).trans e_44
            have e_64 : gI σ_s_59 a 16 = a160 := (hM9.i (by decide)).trans e_45
            have e_65 : gI σ_s_59 a 18 = a180 := (hM9.i (by decide)).trans e_46
            replace hsr := hsr.mv hM9 (by decide) (by decide) (by decide) (by decide) (by decide)
            replace hO := hO9
            replace hw_58 : (¬ gI σ_s_59 a 19 = 0 ∧ (gI σ_s_40 a 19 = 0 ∨ gI σ_s_59 a 19 = gI σ_s_40 a 19)) ∧ ∃ c1 j1, RSt σ_s_59 a T c1 j1 ∧ (j1 = jt ∧ (cc_48 = 0 → c1 = 2) ∧ (cc_48 ≠ 0 → c1 = cc_48)) := hw_58
            have hn_66 := hw_58.2
            replace hw_58 := hw_58.1
            obtain ⟨cc_67, jj_68, hR_69, hn_66⟩ := hn_66
            have hVhR_69 := hR_69.1
            have hj9 := hn_66.1.symm
            subst hj9
            try simp only [h0_51, ne_eq, not_true_eq_false, not_false_eq_true, false_implies, true_implies, true_and, and_true, eq_self, false_or, or_false, false_and, and_false] at hn_66
            have h0_70 : ¬ cc_67 = 0 := by omega
            try simp only [h0_70, ne_eq, not_true_eq_false, not_false_eq_true, false_implies, true_implies, true_and, and_true, eq_self, false_or, or_false, false_and, and_false] at hVhR_69
            refine lv_aload_n hx hb dX11_wordNow_46 rfl (lv_at hl 0 rfl) ?_
            refine ok.getIc hO h_a (by decide) k13_16 e_64 (fun _ _ he hv kk => th_get (ci := 11) (C := RX11) (T := TX11) (N := 66) hx hb hts inX11 hown hK hH he rfl 16 (by decide) fl1 hv dX11_wordNow_47 kk) ?_
            exact th_iret hx hb hr hlocks hH hS (z := a160) ra160 ⟨hO, hF, hM, ⟨bdo.of (by omega), cc_67, jt, hR_69, by omega, by omega, by omega⟩⟩ dX11_wordNow_50
  · try simp only [h0_1, ne_eq, not_true_eq_false, not_false_eq_true, false_implies, true_implies, true_and, and_true, eq_self, false_or, or_false, false_and, and_false] at hV0
    refine lv_aload_n hx hb dX11_wordNow_0 rfl (lv_at hl 0 rfl) ?_
    refine ok.getIc hO h_a (by decide) k13_19 ea190 (fun _ _ he hv kk => th_get (ci := 11) (C := RX11) (T := TX11) (N := 66) hx hb hts inX11 hown hK hH he rfl 19 (by decide) fl0 hv dX11_wordNow_1 kk) ?_
    refine lv_if_ne (tgt := 20) hx hb dX11_wordNow_4 (by decide) (fun c_71 => ?_) (fun c_71 => ?_)
    · replace c_71 := mt (I_eq (a := a190) (b := 0) ra190 (show rng 0 from ⟨by decide, by decide⟩)).mpr c_71
      refine lv_aload_n hx hb dX11_wordNow_20 rfl (lv_at hl 0 rfl) ?_
      refine ok.getIc hO h_a (by decide) k13_19 ea190 (fun _ _ he hv kk => th_get (ci := 11) (C := RX11) (T := TX11) (N := 66) hx hb hts inX11 hown hK hH he rfl 19 (by decide) fl0 hv dX11_wordNow_21 kk) ?_
      refine lv_if_ne (tgt := 46) hx hb dX11_wordNow_24 (by decide) (fun c_72 => ?_) (fun c_72 => ?_)
      · replace c_72 := mt (I_eq (a := a190) (b := 0) ra190 (show rng 0 from ⟨by decide, by decide⟩)).mpr c_72
        refine lv_aload_n hx hb dX11_wordNow_46 rfl (lv_at hl 0 rfl) ?_
        refine ok.getIc hO h_a (by decide) k13_16 ea160 (fun _ _ he hv kk => th_get (ci := 11) (C := RX11) (T := TX11) (N := 66) hx hb hts inX11 hown hK hH he rfl 16 (by decide) fl1 hv dX11_wordNow_47 kk) ?_
        exact th_iret hx hb hr hlocks hH hS (z := a160) ra160 ⟨hO, hF, hM, ⟨bdo.of (by omega), fc, jt, hR0, by omega, by omega, by omega⟩⟩ dX11_wordNow_50
      · replace c_72 := (I_eq (a := a190) (b := 0) ra190 (show rng 0 from ⟨by decide, by decide⟩)).mp c_72
        refine lv_aload_n hx hb dX11_wordNow_27 rfl (lv_at hl 0 rfl) ?_
        refine ok.getIc hO h_a (by decide) k13_18 ea180 (fun _ _ he hv kk => th_get (ci := 11) (C := RX11) (T := TX11) (N := 66) hx hb hts inX11 hown hK hH he rfl 18 (by decide) fl2 hv dX11_wordNow_28 kk) ?_
        refine lv_aload_n hx hb dX11_wordNow_31 rfl (lv_at hl 0 rfl) ?_
        refine ok.getIc hO h_a (by decide) k13_17 ea170 (fun _ _ he hv kk => th_get (ci := 11) (C := RX11) (T := TX11) (N := 66) hx hb hts inX11 hown hK hH he rfl 17 (by decide) fl3 hv dX11_wordNow_32 kk) ?_
        refine lv_isub hx hb dX11_wordNow_35 ?_
        refine th_subo (fun z_73 rz_73 hz_73 => ?_)
        refine lv_bipush (v := I 6) hx hb dX11_wordNow_36 (by decide) ?_
        refine lv_icmp_le (tgt := 46) hx hb dX11_wordNow_38 (by decide) (fun c_74 => ?_) (fun c_74 => ?_)
        · replace c_74 := (I_le (a := z_73) (b := 6) rz_73 (show rng 6 from ⟨by decide, by decide⟩)).mp c_74
          refine lv_aload_n hx hb dX11_wordNow_46 rfl (lv_at hl 0 rfl) ?_
          refine ok.getIc hO h_a (by decide) k13_16 ea160 (fun _ _ he hv kk => th_get (ci := 11) (C := RX11) (T := TX11) (N := 66) hx hb hts inX11 hown hK hH he rfl 16 (by decide) fl1 hv dX11_wordNow_47 kk) ?_
          exact th_iret hx hb hr hlocks hH hS (z := a160) ra160 ⟨hO, hF, hM, ⟨bdo.of (by omega), fc, jt, hR0, by omega, by omega, by omega⟩⟩ dX11_wordNow_50
        · replace c_74 := mt (I_le (a := z_73) (b := 6) rz_73 (show rng 6 from ⟨by decide, by decide⟩)).mpr c_74
          refine lv_aload_n hx hb dX11_wordNow_41 rfl (lv_at hl 0 rfl) ?_
          refine lv_iconst (v := I 2) hx hb dX11_wordNow_42 (by decide) ?_
          obtain ⟨_, hc_75⟩ := hO.cell h_a (by decide) (ci := 11) rfl
          refine th_callv (va_runV (As := [.int (I 2)]) (rest := []) ⟨hx, hb, hml, hown, hts⟩ (n_wrong l G y b0 σ E hO a h_a 2 (show rng 2 from (show rng 2 from ⟨by decide, by decide⟩)) (by omega) (by omega) Bf hsr T hSt fc jt hR0) (cwV 1 hts gX11_wordNow_X11_wrong rfl rfl rfl (by decide +kernel) ⟨Nat.le_of_ble_eq_true rfl, Nat.le_of_ble_eq_true rfl⟩) (th_PV hK hH rfl hc_75) rfl rfl hl.1 rfl (lv_room (Nat.le_of_ble_eq_true rfl)) dX11_wordNow_43 ⟨Nat.le_of_ble_eq_true rfl, Nat.le_of_ble_eq_true rfl⟩) hS (fun σ_s_77 H locs hw_76 hH hS => ?_)
          obtain ⟨hO9, hF9, hM9, hw_76⟩ := hw_76
          replace hM := hM.tu hM9 (by decide)
          replace hF := hF.tu hF9 (by decide)
          have e_78 : gI σ_s_77 a 11 = a110 := (hM9.i (by decide)).trans ea110
          have e_79 : gI σ_s_77 a 13 = a130 := (hM9.i (by decide)).trans ea130
          have e_80 : gI σ_s_77 a 14 = a140 := (hM9.i (by decide)).trans ea140
          have e_81 : gI σ_s_77 a 17 = a170 := (hM9.i (by decide)).trans ea170
          have e_82 : gI σ_s_77 a 16 = a160 := (hM9.i (by decide)).trans ea160
          have e_83 : gI σ_s_77 a 18 = a180 := (hM9.i (by decide)).trans ea180
          replace hsr := hsr.mv hM9 (by decide) (by decide) (by decide) (by decide) (by decide)
          replace hO := hO9
          replace hw_76 : (¬ gI σ_s_77 a 19 = 0 ∧ (gI σ a 19 = 0 ∨ gI σ_s_77 a 19 = gI σ a 19)) ∧ ∃ c1 j1, RSt σ_s_77 a T c1 j1 ∧ (j1 = jt ∧ (fc = 0 → c1 = 2) ∧ (fc ≠ 0 → c1 = fc)) := hw_76
          have hn_84 := hw_76.2
          replace hw_76 := hw_76.1
          obtain ⟨cc_85, jj_86, hR_87, hn_84⟩ := hn_84
          have hVhR_87 := hR_87.1
          have hj9 := hn_84.1.symm
          subst hj9
          try simp only [h0_1, ne_eq, not_true_eq_false, not_false_eq_true, false_implies, true_implies, true_and, and_true, eq_self, false_or, or_false, false_and, and_false] at hn_84
          have h0_88 : ¬ cc_85 = 0 := by omega
          try simp only [h0_88, ne_eq, not_true_eq_false, not_false_eq_true, false_implies, true_implies, true_and, and_true, eq_self, false_or, or_false, false_and, and_false] at hVhR_87
          refine lv_aload_n hx hb dX11_wordNow_46 rfl (lv_at hl 0 rfl) ?_
          refine ok.getIc hO h_a (by decide) k13_16 e_82 (fun _ _ he hv kk => th_get (ci := 11) (C := RX11) (T := TX11) (N := 66) hx hb hts inX11 hown hK hH he rfl 16 (by decide) fl1 hv dX11_wordNow_47 kk) ?_
          exact th_iret hx hb hr hlocks hH hS (z := a160) ra160 ⟨hO, hF, hM, ⟨bdo.of (by omega), cc_85, jt, hR_87, by omega, by omega, by omega⟩⟩ dX11_wordNow_50
    · replace c_71 := (I_eq (a := a190) (b := 0) ra190 (show rng 0 from ⟨by decide, by decide⟩)).mp c_71
      refine lv_aload_n hx hb dX11_wordNow_7 rfl (lv_at hl 0 rfl) ?_
      refine ok.getIc hO h_a (by decide) k13_14 ea140 (fun _ _ he hv kk => th_get (ci := 11) (C := RX11) (T := TX11) (N := 66) hx hb hts inX11 hown hK hH he rfl 14 (by decide) fl4 hv dX11_wordNow_8 kk) ?_
      refine lv_iconst (v := I 1) hx hb dX11_wordNow_11 (by decide) ?_
      refine lv_icmp_eq (tgt := 20) hx hb dX11_wordNow_12 (by decide) (fun c_89 => ?_) (fun c_89 => ?_)
      · replace c_89 := (I_eq (a := a140) (b := 1) ra140 (show rng 1 from ⟨by decide, by decide⟩)).mp c_89
        refine lv_aload_n hx hb dX11_wordNow_20 rfl (lv_at hl 0 rfl) ?_
        refine ok.getIc hO h_a (by decide) k13_19 ea190 (fun _ _ he hv kk => th_get (ci := 11) (C := RX11) (T := TX11) (N := 66) hx hb hts inX11 hown hK hH he rfl 19 (by decide) fl0 hv dX11_wordNow_21 kk) ?_
        refine lv_if_ne (tgt := 46) hx hb dX11_wordNow_24 (by decide) (fun c_90 => ?_) (fun c_90 => ?_)
        · replace c_90 := mt (I_eq (a := a190) (b := 0) ra190 (show rng 0 from ⟨by decide, by decide⟩)).mpr c_90
          refine lv_aload_n hx hb dX11_wordNow_46 rfl (lv_at hl 0 rfl) ?_
          refine ok.getIc hO h_a (by decide) k13_16 ea160 (fun _ _ he hv kk => th_get (ci := 11) (C := RX11) (T := TX11) (N := 66) hx hb hts inX11 hown hK hH he rfl 16 (by decide) fl1 hv dX11_wordNow_47 kk) ?_
          exact th_iret hx hb hr hlocks hH hS (z := a160) ra160 ⟨hO, hF, hM, ⟨bdo.of (by omega), fc, jt, hR0, by omega, by omega, by omega⟩⟩ dX11_wordNow_50
        · replace c_90 := (I_eq (a := a190) (b := 0) ra190 (show rng 0 from ⟨by decide, by decide⟩)).mp c_90
          refine lv_aload_n hx hb dX11_wordNow_27 rfl (lv_at hl 0 rfl) ?_
          refine ok.getIc hO h_a (by decide) k13_18 ea180 (fun _ _ he hv kk => th_get (ci := 11) (C := RX11) (T := TX11) (N := 66) hx hb hts inX11 hown hK hH he rfl 18 (by decide) fl2 hv dX11_wordNow_28 kk) ?_
          refine lv_aload_n hx hb dX11_wordNow_31 rfl (lv_at hl 0 rfl) ?_
          refine ok.getIc hO h_a (by decide) k13_17 ea170 (fun _ _ he hv kk => th_get (ci := 11) (C := RX11) (T := TX11) (N := 66) hx hb hts inX11 hown hK hH he rfl 17 (by decide) fl3 hv dX11_wordNow_32 kk) ?_
          refine lv_isub hx hb dX11_wordNow_35 ?_
          refine th_subo (fun z_91 rz_91 hz_91 => ?_)
          refine lv_bipush (v := I 6) hx hb dX11_wordNow_36 (by decide) ?_
          refine lv_icmp_le (tgt := 46) hx hb dX11_wordNow_38 (by decide) (fun c_92 => ?_) (fun c_92 => ?_)
          · replace c_92 := (I_le (a := z_91) (b := 6) rz_91 (show rng 6 from ⟨by decide, by decide⟩)).mp c_92
            refine lv_aload_n hx hb dX11_wordNow_46 rfl (lv_at hl 0 rfl) ?_
            refine ok.getIc hO h_a (by decide) k13_16 ea160 (fun _ _ he hv kk => th_get (ci := 11) (C := RX11) (T := TX11) (N := 66) hx hb hts inX11 hown hK hH he rfl 16 (by decide) fl1 hv dX11_wordNow_47 kk) ?_
            exact th_iret hx hb hr hlocks hH hS (z := a160) ra160 ⟨hO, hF, hM, ⟨bdo.of (by omega), fc, jt, hR0, by omega, by omega, by omega⟩⟩ dX11_wordNow_50
          · replace c_92 := mt (I_le (a := z_91) (b := 6) rz_91 (show rng 6 from ⟨by decide, by decide⟩)).mpr c_92
            refine lv_aload_n hx hb dX11_wordNow_41 rfl (lv_at hl 0 rfl) ?_
            refine lv_iconst (v := I 2) hx hb dX11_wordNow_42 (by decide) ?_
            obtain ⟨_, hc_93⟩ := hO.cell h_a (by decide) (ci := 11) rfl
            refine th_callv (va_runV (As := [.int (I 2)]) (rest := []) ⟨hx, hb, hml, hown, hts⟩ (n_wrong l G y b0 σ E hO a h_a 2 (show rng 2 from (show rng 2 from ⟨by decide, by decide⟩)) (by omega) (by omega) Bf hsr T hSt fc jt hR0) (cwV 1 hts gX11_wordNow_X11_wrong rfl rfl rfl (by decide +kernel) ⟨Nat.le_of_ble_eq_true rfl, Nat.le_of_ble_eq_true rfl⟩) (th_PV hK hH rfl hc_93) rfl rfl hl.1 rfl (lv_room (Nat.le_of_ble_eq_true rfl)) dX11_wordNow_43 ⟨Nat.le_of_ble_eq_true rfl, Nat.le_of_ble_eq_true rfl⟩) hS (fun σ_s_95 H locs hw_94 hH hS => ?_)
            obtain ⟨hO9, hF9, hM9, hw_94⟩ := hw_94
            replace hM := hM.tu hM9 (by decide)
            replace hF := hF.tu hF9 (by decide)
            have e_96 : gI σ_s_95 a 11 = a110 := (hM9.i (by decide)).trans ea110
            have e_97 : gI σ_s_95 a 13 = a130 := (hM9.i (by decide)).trans ea130
            have e_98 : gI σ_s_95 a 14 = a140 := (hM9.i (by decide)).trans ea140
            have e_99 : gI σ_s_95 a 17 = a170 := (hM9.i (by decide)).trans ea170
            have e_100 : gI σ_s_95 a 16 = a160 := (hM9.i (by decide)).trans ea160
            have e_101 : gI σ_s_95 a 18 = a180 := (hM9.i (by decide)).trans ea180
            replace hsr := hsr.mv hM9 (by decide) (by decide) (by decide) (by decide) (by decide)
            replace hO := hO9
            replace hw_94 : (¬ gI σ_s_95 a 19 = 0 ∧ (gI σ a 19 = 0 ∨ gI σ_s_95 a 19 = gI σ a 19)) ∧ ∃ c1 j1, RSt σ_s_95 a T c1 j1 ∧ (j1 = jt ∧ (fc = 0 → c1 = 2) ∧ (fc ≠ 0 → c1 = fc)) := hw_94
            have hn_102 := hw_94.2
            replace hw_94 := hw_94.1
            obtain ⟨cc_103, jj_104, hR_105, hn_102⟩ := hn_102
            have hVhR_105 := hR_105.1
            have hj9 := hn_102.1.symm
            subst hj9
            try simp only [h0_1, ne_eq, not_true_eq_false, not_false_eq_true, false_implies, true_implies, true_and, and_true, eq_self, false_or, or_false, false_and, and_false] at hn_102
            have h0_106 : ¬ cc_103 = 0 := by omega
            try simp only [h0_106, ne_eq, not_true_eq_false, not_false_eq_true, false_implies, true_implies, true_and, and_true, eq_self, false_or, or_false, false_and, and_false] at hVhR_105
            refine lv_aload_n hx hb dX11_wordNow_46 rfl (lv_at hl 0 rfl) ?_
            refine ok.getIc hO h_a (by decide) k13_16 e_100 (fun _ _ he hv kk => th_get (ci := 11) (C := RX11) (T := TX11) (N := 66) hx hb hts inX11 hown hK hH he rfl 16 (by decide) fl1 hv dX11_wordNow_47 kk) ?_
            exact th_iret hx hb hr hlocks hH hS (z := a160) ra160 ⟨hO, hF, hM, ⟨bdo.of (by omega), cc_103, jt, hR_105, by omega, by omega, by omega⟩⟩ dX11_wordNow_50
      · replace c_89 := mt (I_eq (a := a140) (b := 1) ra140 (show rng 1 from ⟨by decide, by decide⟩)).mpr c_89
        refine lv_aload_n hx hb dX11_wordNow_15 rfl (lv_at hl 0 rfl) ?_
        refine lv_iconst (v := I 1) hx hb dX11_wordNow_16 (by decide) ?_
        obtain ⟨_, hc_107⟩ := hO.cell h_a (by decide) (ci := 11) rfl
        refine th_callv (va_runV (As := [.int (I 1)]) (rest := []) ⟨hx, hb, hml, hown, hts⟩ (n_wrong l G y b0 σ E hO a h_a 1 (show rng 1 from (show rng 1 from ⟨by decide, by decide⟩)) (by omega) (by omega) Bf hsr T hSt fc jt hR0) (cwV 1 hts gX11_wordNow_X11_wrong rfl rfl rfl (by decide +kernel) ⟨Nat.le_of_ble_eq_true rfl, Nat.le_of_ble_eq_true rfl⟩) (th_PV hK hH rfl hc_107) rfl rfl hl.1 rfl (lv_room (Nat.le_of_ble_eq_true rfl)) dX11_wordNow_17 ⟨Nat.le_of_ble_eq_true rfl, Nat.le_of_ble_eq_true rfl⟩) hS (fun σ_s_109 H locs hw_108 hH hS => ?_)
        obtain ⟨hO9, hF9, hM9, hw_108⟩ := hw_108
        replace hM := hM.tu hM9 (by decide)
        replace hF := hF.tu hF9 (by decide)
        have e_110 : gI σ_s_109 a 11 = a110 := (hM9.i (by decide)).trans ea110
        have e_111 : gI σ_s_109 a 13 = a130 := (hM9.i (by decide)).trans ea130
        have e_112 : gI σ_s_109 a 14 = a140 := (hM9.i (by decide)).trans ea140
        have e_113 : gI σ_s_109 a 17 = a170 := (hM9.i (by decide)).trans ea170
        have e_114 : gI σ_s_109 a 16 = a160 := (hM9.i (by decide)).trans ea160
        have e_115 : gI σ_s_109 a 18 = a180 := (hM9.i (by decide)).trans ea180
        replace hsr := hsr.mv hM9 (by decide) (by decide) (by decide) (by decide) (by decide)
        replace hO := hO9
        replace hw_108 : (¬ gI σ_s_109 a 19 = 0 ∧ (gI σ a 19 = 0 ∨ gI σ_s_109 a 19 = gI σ a 19)) ∧ ∃ c1 j1, RSt σ_s_109 a T c1 j1 ∧ (j1 = jt ∧ (fc = 0 → c1 = 1) ∧ (fc ≠ 0 → c1 = fc)) := hw_108
        have hn_116 := hw_108.2
        replace hw_108 := hw_108.1
        obtain ⟨cc_117, jj_118, hR_119, hn_116⟩ := hn_116
        have hVhR_119 := hR_119.1
        have hj9 := hn_116.1.symm
        subst hj9
        try simp only [h0_1, ne_eq, not_true_eq_false, not_false_eq_true, false_implies, true_implies, true_and, and_true, eq_self, false_or, or_false, false_and, and_false] at hn_116
        have h0_120 : ¬ cc_117 = 0 := by omega
        try simp only [h0_120, ne_eq, not_true_eq_false, not_false_eq_true, false_implies, true_implies, true_and, and_true, eq_self, false_or, or_false, false_and, and_false] at hVhR_119
        refine lv_aload_n hx hb dX11_wordNow_20 rfl (lv_at hl 0 rfl) ?_
        refine ok.getI hO h_a (by decide) k13_19 (fun _ _ he hv kk => th_get (ci := 11) (C := RX11) (T := TX11) (N := 66) hx hb hts inX11 hown hK hH he rfl 19 (by decide) fl0 hv dX11_wordNow_21 kk) (fun z_121 e_122 rz_121 lz_121 uz_121 => ?_)
        refine lv_if_ne (tgt := 46) hx hb dX11_wordNow_24 (by decide) (fun c_123 => ?_) (fun c_123 => ?_)
        · replace c_123 := mt (I_eq (a := z_121) (b := 0) rz_121 (show rng 0 from ⟨by decide, by decide⟩)).mpr c_123
          refine lv_aload_n hx hb dX11_wordNow_46 rfl (lv_at hl 0 rfl) ?_
          refine ok.getIc hO h_a (by decide) k13_16 e_114 (fun _ _ he hv kk => th_get (ci := 11) (C := RX11) (T := TX11) (N := 66) hx hb hts inX11 hown hK hH he rfl 16 (by decide) fl1 hv dX11_wordNow_47 kk) ?_
          exact th_iret hx hb hr hlocks hH hS (z := a160) ra160 ⟨hO, hF, hM, ⟨bdo.of (by omega), cc_117, jt, hR_119, by omega, by omega, by omega⟩⟩ dX11_wordNow_50
        · replace c_123 := (I_eq (a := z_121) (b := 0) rz_121 (show rng 0 from ⟨by decide, by decide⟩)).mp c_123
          refine lv_aload_n hx hb dX11_wordNow_27 rfl (lv_at hl 0 rfl) ?_
          refine ok.getIc hO h_a (by decide) k13_18 e_115 (fun _ _ he hv kk => th_get (ci := 11) (C := RX11) (T := TX11) (N := 66) hx hb hts inX11 hown hK hH he rfl 18 (by decide) fl2 hv dX11_wordNow_28 kk) ?_
          refine lv_aload_n hx hb dX11_wordNow_31 rfl (lv_at hl 0 rfl) ?_
          refine ok.getIc hO h_a (by decide) k13_17 e_113 (fun _ _ he hv kk => th_get (ci := 11) (C := RX11) (T := TX11) (N := 66) hx hb hts inX11 hown hK hH he rfl 17 (by decide) fl3 hv dX11_wordNow_32 kk) ?_
          refine lv_isub hx hb dX11_wordNow_35 ?_
          refine th_subo (fun z_124 rz_124 hz_124 => ?_)
          refine lv_bipush (v := I 6) hx hb dX11_wordNow_36 (by decide) ?_
          refine lv_icmp_le (tgt := 46) hx hb dX11_wordNow_38 (by decide) (fun c_125 => ?_) (fun c_125 => ?_)
          · replace c_125 := (I_le (a := z_124) (b := 6) rz_124 (show rng 6 from ⟨by decide, by decide⟩)).mp c_125
            refine lv_aload_n hx hb dX11_wordNow_46 rfl (lv_at hl 0 rfl) ?_
            refine ok.getIc hO h_a (by decide) k13_16 e_114 (fun _ _ he hv kk => th_get (ci := 11) (C := RX11) (T := TX11) (N := 66) hx hb hts inX11 hown hK hH he rfl 16 (by decide) fl1 hv dX11_wordNow_47 kk) ?_
            exact th_iret hx hb hr hlocks hH hS (z := a160) ra160 ⟨hO, hF, hM, ⟨bdo.of (by omega), cc_117, jt, hR_119, by omega, by omega, by omega⟩⟩ dX11_wordNow_50
          · replace c_125 := mt (I_le (a := z_124) (b := 6) rz_124 (show rng 6 from ⟨by decide, by decide⟩)).mpr c_125
            refine lv_aload_n hx hb dX11_wordNow_41 rfl (lv_at hl 0 rfl) ?_
            refine lv_iconst (v := I 2) hx hb dX11_wordNow_42 (by decide) ?_
            obtain ⟨_, hc_126⟩ := hO.cell h_a (by decide) (ci := 11) rfl
            refine th_callv (va_runV (As := [.int (I 2)]) (rest := []) ⟨hx, hb, hml, hown, hts⟩ (n_wrong l G y b0 σ_s_109 E hO a h_a 2 (show rng 2 from (show rng 2 from ⟨by decide, by decide⟩)) (by omega) (by omega) Bf hsr T hSt cc_117 jt hR_119) (cwV 1 hts gX11_wordNow_X11_wrong rfl rfl rfl (by decide +kernel) ⟨Nat.le_of_ble_eq_true rfl, Nat.le_of_ble_eq_true rfl⟩) (th_PV hK hH rfl hc_126) rfl rfl hl.1 rfl (lv_room (Nat.le_of_ble_eq_true rfl)) dX11_wordNow_43 ⟨Nat.le_of_ble_eq_true rfl, Nat.le_of_ble_eq_true rfl⟩) hS (fun σ_s_128 H locs hw_127 hH hS => ?_)
            obtain ⟨hO9, hF9, hM9, hw_127⟩ := hw_127
            replace hM := hM.tu hM9 (by decide)
            replace hF := hF.tu hF9 (by decide)
            have e_129 : gI σ_s_128 a 11 = a110 := (hM9.i (by decide)).trans e_110
            have e_130 : gI σ_s_128 a 13 = a130 := (hM9.i (by decide)).trans e_111
            have e_131 : gI σ_s_128 a 14 = a140 := (hM9.i (by decide)).trans e_112
            have e_132 : gI σ_s_128 a 17 = a170 := (hM9.i (by decide)).trans e_113
            have e_133 : gI σ_s_128 a 16 = a160 := (hM9.i (by decide)).trans e_114
            have e_134 : gI σ_s_128 a 18 = a180 := (hM9.i (by decide)).trans e_115
            replace hsr := hsr.mv hM9 (by decide) (by decide) (by decide) (by decide) (by decide)
            replace hO := hO9
            replace hw_127 : (¬ gI σ_s_128 a 19 = 0 ∧ (gI σ_s_109 a 19 = 0 ∨ gI σ_s_128 a 19 = gI σ_s_109 a 19)) ∧ ∃ c1 j1, RSt σ_s_128 a T c1 j1 ∧ (j1 = jt ∧ (cc_117 = 0 → c1 = 2) ∧ (cc_117 ≠ 0 → c1 = cc_117)) := hw_127
            have hn_135 := hw_127.2
            replace hw_127 := hw_127.1
            obtain ⟨cc_136, jj_137, hR_138, hn_135⟩ := hn_135
            have hVhR_138 := hR_138.1
            have hj9 := hn_135.1.symm
            subst hj9
            try simp only [h0_120, ne_eq, not_true_eq_false, not_false_eq_true, false_implies, true_implies, true_and, and_true, eq_self, false_or, or_false, false_and, and_false] at hn_135
            have h0_139 : ¬ cc_136 = 0 := by omega
            try simp only [h0_139, ne_eq, not_true_eq_false, not_false_eq_true, false_implies, true_implies, true_and, and_true, eq_self, false_or, or_false, false_and, and_false] at hVhR_138
            refine lv_aload_n hx hb dX11_wordNow_46 rfl (lv_at hl 0 rfl) ?_
            refine ok.getIc hO h_a (by decide) k13_16 e_133 (fun _ _ he hv kk => th_get (ci := 11) (C := RX11) (T := TX11) (N := 66) hx hb hts inX11 hown hK hH he rfl 16 (by decide) fl1 hv dX11_wordNow_47 kk) ?_
            exact th_iret hx hb hr hlocks hH hS (z := a160) ra160 ⟨hO, hF, hM, ⟨bdo.of (by omega), cc_136, jt, hR_138, by omega, by omega, by omega⟩⟩ dX11_wordNow_50
