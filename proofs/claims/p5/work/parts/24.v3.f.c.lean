set_option maxHeartbeats 20000000 in
set_option maxRecDepth 100000 in
theorem n_filter (l : Launch) (G : va_G) (y : Nat → ClassId) (b0 : Nat) (σ : th_M) (E : th_E) (hO : ok y E σ) (a : Nat) (h_a : kd E a = 13) (f1 : Nat → Int32) (ef1 : aF σ (ad E a 1) = f1) (Bf : Int → Int) (hsr : sr E σ a Bf) (T : tkT) (hSt : tkSt Bf T) (fc jt : Int) (hR0 : RSt σ a T fc jt) (hy0 : 0 ≤ gI σ a 17 ∧ gI σ a 17 ≤ gI σ a 13 ∧ gI σ a 13 ≤ gI σ a 11 ∧ gI σ a 11 ≤ 400) (hy1 : gI σ a 25 = 0) (hy2 : fc = 0 → 0 ≤ gI σ a 27 ∧ gI σ a 27 ≤ 12) (hy3 : gI σ a 28 = 0) : Met l yX11_filter wsX11_filter ({ frames := 47, cells := 0, slots := 0, locals := 1606 }) (th_P G y b0 σ [.ref a]) (th_Qv G b0 (fun σ1 => ok y E σ1 ∧ fr [13] E σ σ1 ∧ fm [13, 14, 15, 16, 17, 18, 19, 20, 27, 28, 30] E σ σ1 a ∧ (((gI σ a 13 ≤ gI σ1 a 13 ∧ gI σ1 a 13 ≤ gI σ a 11 ∧ 0 ≤ gI σ1 a 17 ∧ gI σ1 a 17 ≤ gI σ1 a 13) ∧ gI σ1 a 28 = 0) ∧ ∃ c1 j1, RSt σ1 a T c1 j1 ∧ (fc ≠ 0 → c1 = fc ∧ j1 = jt) ∧ (fc = 0 → jt ≤ j1 ∧ GS T [(2, 0)] jt (gI σ a 27) [] c1 j1 (gI σ1 a 27)) ∧ (c1 = 0 → 0 ≤ gI σ1 a 27 ∧ gI σ1 a 27 ≤ 12)))) 0 0 (th_A b0) := by
  refine Met.ofW (cc := cX11_filter) (maxL := 6) (ret := none) (by decide) rfl ?_
  intro p e s m args below meth c s₁ B hml hv
  obtain ⟨rfl, hH, hK⟩ := hv
  have hx := B.exec
  have hb := B.bytes
  have hr := B.returns
  have hts := atoms_spec (ws := wsX11_filter) B.pre
  have hown : s.vm.findClass RX11 = some m.cls := findClass_of_methodNamed B.named
  have hlocks := B.notSynchronized
  have h00 : b0 ≤ s.heap.size := hH.1
  have hS : va_S (th_A b0) s.heap s.heap [] := va_S.rf
  have hF : fr [13] E σ σ := fr.rf
  have hM : fm [13, 14, 15, 16, 17, 18, 19, 20, 27, 28, 30] E σ σ a := fm.rf
  have inX11 : ∀ w ∈ wsX110, w ∈ wsX11_filter := by decide +kernel
  have fl0 := hts (.fieldLink RX11 300 "NestQueryModel" "isGone" "Z") (by decide +kernel)
  have fl1 := hts (.fieldLink RX11 316 "NestQueryModel" "asked" "I") (by decide +kernel)
  have hl := lv_entry ([.ref a]) (n := 6) (Nat.le_of_ble_eq_true rfl)
  rw [lg_entry_eq]
  generalize (lg_sl ([.ref a]) ++ List.replicate (6 - (lg_sl ([.ref a])).length) Slot.unset).toArray = ls at hl ⊢
  have hl : lv_has ls 6 [(0, .ref a)] := hl
  obtain ⟨a110, ea110, ra110, la110, ua110⟩ := hO.gi h_a (by decide) k13_11
  obtain ⟨a130, ea130, ra130, la130, ua130⟩ := hO.gi h_a (by decide) k13_13
  obtain ⟨a140, ea140, ra140, la140, ua140⟩ := hO.gi h_a (by decide) k13_14
  obtain ⟨a170, ea170, ra170, la170, ua170⟩ := hO.gi h_a (by decide) k13_17
  obtain ⟨a190, ea190, ra190, la190, ua190⟩ := hO.gi h_a (by decide) k13_19
  obtain ⟨a270, ea270, ra270, la270, ua270⟩ := hO.gi h_a (by decide) k13_27
  obtain ⟨a280, ea280, ra280, la280, ua280⟩ := hO.gi h_a (by decide) k13_28
  have hV0 := hR0.1
  rcases Classical.em (fc = 0) with h0_1 | h0_1
  · subst h0_1
    try simp only [ne_eq, not_true_eq_false, not_false_eq_true, false_implies, true_implies, true_and, and_true, eq_self, false_or, or_false, false_and, and_false] at hV0
    have e_2 : gI σ a 19 = 0 := by omega
    have hG_3 := GS.start (T := T) (e := [(2, 0)]) (j := jt) (t := gI σ a 27)
    have e_4 : gI σ a 25 = 0 := by omega
    refine lv_aload_n hx hb dX11_filter_0 rfl (lv_at hl 0 rfl) ?_
    refine ok.getIc hO h_a (by decide) k13_25 e_4 (fun _ _ he hv kk => th_get (ci := 11) (C := RX11) (T := TX11) (N := 66) hx hb hts inX11 hown hK hH he rfl 25 (by decide) fl0 hv dX11_filter_1 kk) ?_
    refine lv_if_ne (tgt := 18) hx hb dX11_filter_4 (by decide) (fun c_5 => absurd (by decide) c_5) (fun _ => ?_)
    refine lv_aload_n hx hb dX11_filter_7 rfl (lv_at hl 0 rfl) ?_
    refine lv_iconst (v := I (-1)) hx hb dX11_filter_8 (by decide) ?_
    refine ok.putJ hO h_a k13_30 (show rng (-1) from ⟨by decide, by decide⟩) (by omega) (by omega) (fun _ he hl9 kk => th_put (ci := 11) (v := .int (I (-1))) (ty := .int) (C := RX11) (T := TX11) (N := 66) hx hb hts inX11 tyX11 tyX11_ok nmX11 hown hK hH hS h00 he rfl 30 (by decide) fl1 rfl (by decide +kernel) rfl rfl hl9 dX11_filter_9 kk) (fun σ_s_6 H locs hO hF9 hM9 hg9 ha9 hH hS => ?_)
    replace hM := hM.tu hM9 (by decide)
    replace hF := hF.tu hF9 (by decide)
    have e_7 : aF σ_s_6 (ad E a 1) = f1 := (hM9.a (by decide) (by decide)).trans ef1
    have e_8 : gI σ_s_6 a 11 = a110 := (hM9.i (by decide)).trans ea110
    have e_9 : gI σ_s_6 a 13 = a130 := (hM9.i (by decide)).trans ea130
    have e_10 : gI σ_s_6 a 14 = a140 := (hM9.i (by decide)).trans ea140
    have e_11 : gI σ_s_6 a 17 = a170 := (hM9.i (by decide)).trans ea170
    have e_12 : gI σ_s_6 a 19 = 0 := (hM9.i (by decide)).trans e_2
    have e_13 : gI σ_s_6 a 27 = a270 := (hM9.i (by decide)).trans ea270
    have e_14 : gI σ_s_6 a 28 = a280 := (hM9.i (by decide)).trans ea280
    have e_15 : gI σ_s_6 a 25 = 0 := (hM9.i (by decide)).trans e_4
    replace hsr := hsr.mv hM9 (by decide) (by decide) (by decide) (by decide) (by decide)
    replace hV0 := hid.mk hV0
    have hR_16 : RSt σ_s_6 a T 0 jt := RSt.mv hM9 (by decide) (by decide) (by decide) (by decide) (by decide) (by decide) (by decide) hR0
    have hVhR_16 := hR_16.1
    have e_17 := hg9
    refine lv_aload_n hx hb dX11_filter_12 rfl (lv_at hl 0 rfl) ?_
    obtain ⟨_, hc_18⟩ := hO.cell h_a (by decide) (ci := 11) rfl
    refine th_calli (va_runV (As := []) (rest := []) ⟨hx, hb, hml, hown, hts⟩ (n_cond 6 (n_atom 6) l G y b0 σ_s_6 E hO a h_a f1 e_7 Bf hsr T hSt 0 jt hR_16 (by omega) (by omega) (by omega) (by omega) (by omega) (by omega)) (cwV 0 hts gX11_filter_X11_cond rfl rfl rfl (by decide +kernel) ⟨Nat.le_of_ble_eq_true rfl, Nat.le_of_ble_eq_true rfl⟩) (th_PV hK hH rfl hc_18) rfl rfl hl.1 rfl (lv_room (Nat.le_of_ble_eq_true rfl)) dX11_filter_13 ⟨Nat.le_of_ble_eq_true rfl, Nat.le_of_ble_eq_true rfl⟩) hS (fun z_21 σ_s_20 H locs rz_21 hw_19 hH hS => ?_)
    obtain ⟨hO9, hF9, hM9, bhw_19, hw_19⟩ := hw_19
    replace hM := hM.tu hM9 (by decide)
    replace hF := hF.tu hF9 (by decide)
    have e_22 : aF σ_s_20 (ad E a 1) = f1 := (hM9.a (by decide) (by decide)).trans e_7
    have e_23 : gI σ_s_20 a 11 = a110 := (hM9.i (by decide)).trans e_8
    have e_24 : gI σ_s_20 a 25 = 0 := (hM9.i (by decide)).trans e_15
    have e_25 : gI σ_s_20 a 30 = (-1) := (hM9.i (by decide)).trans e_17
    replace hsr := hsr.mv hM9 (by decide) (by decide) (by decide) (by decide) (by decide)
    replace hO := hO9
    replace hw_19 : ((gI σ_s_6 a 13 ≤ gI σ_s_20 a 13 ∧ gI σ_s_20 a 13 ≤ gI σ_s_6 a 11 ∧ 0 ≤ gI σ_s_20 a 17 ∧ gI σ_s_20 a 17 ≤ gI σ_s_20 a 13) ∧ gI σ_s_20 a 28 = gI σ_s_6 a 28) ∧ ∃ c1 j1, RSt σ_s_20 a T c1 j1 ∧ ((0 : Int) ≠ 0 → c1 = 0 ∧ j1 = jt) ∧ ((0 : Int) = 0 → jt ≤ j1 ∧ GS T [(2, gI σ_s_6 a 28)] jt (gI σ_s_6 a 27) [] c1 j1 (gI σ_s_20 a 27)) ∧ (c1 = 0 → 0 ≤ gI σ_s_20 a 27 ∧ gI σ_s_20 a 27 ≤ 12) := hw_19
    replace hVhR_16 := hid.mk hVhR_16
    have hn_26 := hw_19.2
    replace hw_19 := hw_19.1
    obtain ⟨cc_27, jj_28, hR_29, hn_26⟩ := hn_26
    have hVhR_29 := hR_29.1
    have hG_30 := GS.cg1 (T := T) (m := 2) (d := 0) (j := jt) (t := gI σ a 27) (hn_26.2.1 rfl).2 (by omega) rfl (by omega)
    have hq_31 := (hn_26.2.1 rfl).1
    have hq_32 := hn_26.2.2
    refine lv_istore_n (lv' := [(1, .int (I z_21)), (0, .ref a)]) hx hb dX11_filter_16 rfl hl (by decide) rfl (fun ls hl => ?_)
    exact th_vret hx hb hr hlocks hH hS ⟨hO, hF, hM, ⟨⟨by omega, by omega⟩, cc_27, jj_28, hR_29, (fun h9 => absurd rfl h9), fun _ => ⟨by omega, hG_30.ec rfl rfl (fun _ => by omega)⟩, by omega⟩⟩ dX11_filter_17
  · try simp only [h0_1, ne_eq, not_true_eq_false, not_false_eq_true, false_implies, true_implies, true_and, and_true, eq_self, false_or, or_false, false_and, and_false] at hV0
    have e_33 : gI σ a 25 = 0 := by omega
    refine lv_aload_n hx hb dX11_filter_0 rfl (lv_at hl 0 rfl) ?_
    refine ok.getIc hO h_a (by decide) k13_25 e_33 (fun _ _ he hv kk => th_get (ci := 11) (C := RX11) (T := TX11) (N := 66) hx hb hts inX11 hown hK hH he rfl 25 (by decide) fl0 hv dX11_filter_1 kk) ?_
    refine lv_if_ne (tgt := 18) hx hb dX11_filter_4 (by decide) (fun c_34 => absurd (by decide) c_34) (fun _ => ?_)
    refine lv_aload_n hx hb dX11_filter_7 rfl (lv_at hl 0 rfl) ?_
    refine lv_iconst (v := I (-1)) hx hb dX11_filter_8 (by decide) ?_
    refine ok.putJ hO h_a k13_30 (show rng (-1) from ⟨by decide, by decide⟩) (by omega) (by omega) (fun _ he hl9 kk => th_put (ci := 11) (v := .int (I (-1))) (ty := .int) (C := RX11) (T := TX11) (N := 66) hx hb hts inX11 tyX11 tyX11_ok nmX11 hown hK hH hS h00 he rfl 30 (by decide) fl1 rfl (by decide +kernel) rfl rfl hl9 dX11_filter_9 kk) (fun σ_s_35 H locs hO hF9 hM9 hg9 ha9 hH hS => ?_)
    replace hM := hM.tu hM9 (by decide)
    replace hF := hF.tu hF9 (by decide)
    have e_36 : aF σ_s_35 (ad E a 1) = f1 := (hM9.a (by decide) (by decide)).trans ef1
    have e_37 : gI σ_s_35 a 11 = a110 := (hM9.i (by decide)).trans ea110
    have e_38 : gI σ_s_35 a 13 = a130 := (hM9.i (by decide)).trans ea130
    have e_39 : gI σ_s_35 a 14 = a140 := (hM9.i (by decide)).trans ea140
    have e_40 : gI σ_s_35 a 17 = a170 := (hM9.i (by decide)).trans ea170
    have e_41 : gI σ_s_35 a 19 = a190 := (hM9.i (by decide)).trans ea190
    have e_42 : gI σ_s_35 a 27 = a270 := (hM9.i (by decide)).trans ea270
    have e_43 : gI σ_s_35 a 28 = a280 := (hM9.i (by decide)).trans ea280
    have e_44 : gI σ_s_35 a 25 = 0 := (hM9.i (by decide)).trans e_33
    replace hsr := hsr.mv hM9 (by decide) (by decide) (by decide) (by decide) (by decide)
    replace hV0 := hid.mk hV0
    have hR_45 : RSt σ_s_35 a T fc jt := RSt.mv hM9 (by decide) (by decide) (by decide) (by decide) (by decide) (by decide) (by decide) hR0
    have hVhR_45 := hR_45.1
    have e_46 := hg9
    refine lv_aload_n hx hb dX11_filter_12 rfl (lv_at hl 0 rfl) ?_
    obtain ⟨_, hc_47⟩ := hO.cell h_a (by decide) (ci := 11) rfl
    refine th_calli (va_runV (As := []) (rest := []) ⟨hx, hb, hml, hown, hts⟩ (n_cond 6 (n_atom 6) l G y b0 σ_s_35 E hO a h_a f1 e_36 Bf hsr T hSt fc jt hR_45 (by omega) (by omega) (by omega) (by omega) (by omega) (by omega)) (cwV 0 hts gX11_filter_X11_cond rfl rfl rfl (by decide +kernel) ⟨Nat.le_of_ble_eq_true rfl, Nat.le_of_ble_eq_true rfl⟩) (th_PV hK hH rfl hc_47) rfl rfl hl.1 rfl (lv_room (Nat.le_of_ble_eq_true rfl)) dX11_filter_13 ⟨Nat.le_of_ble_eq_true rfl, Nat.le_of_ble_eq_true rfl⟩) hS (fun z_50 σ_s_49 H locs rz_50 hw_48 hH hS => ?_)
    obtain ⟨hO9, hF9, hM9, bhw_48, hw_48⟩ := hw_48
    replace hM := hM.tu hM9 (by decide)
    replace hF := hF.tu hF9 (by decide)
    have e_51 : aF σ_s_49 (ad E a 1) = f1 := (hM9.a (by decide) (by decide)).trans e_36
    have e_52 : gI σ_s_49 a 11 = a110 := (hM9.i (by decide)).trans e_37
    have e_53 : gI σ_s_49 a 25 = 0 := (hM9.i (by decide)).trans e_44
    have e_54 : gI σ_s_49 a 30 = (-1) := (hM9.i (by decide)).trans e_46
    replace hsr := hsr.mv hM9 (by decide) (by decide) (by decide) (by decide) (by decide)
    replace hO := hO9
    replace hw_48 : ((gI σ_s_35 a 13 ≤ gI σ_s_49 a 13 ∧ gI σ_s_49 a 13 ≤ gI σ_s_35 a 11 ∧ 0 ≤ gI σ_s_49 a 17 ∧ gI σ_s_49 a 17 ≤ gI σ_s_49 a 13) ∧ gI σ_s_49 a 28 = gI σ_s_35 a 28) ∧ ∃ c1 j1, RSt σ_s_49 a T c1 j1 ∧ (fc ≠ 0 → c1 = fc ∧ j1 = jt) ∧ (fc = 0 → jt ≤ j1 ∧ GS T [(2, gI σ_s_35 a 28)] jt (gI σ_s_35 a 27) [] c1 j1 (gI σ_s_49 a 27)) ∧ (c1 = 0 → 0 ≤ gI σ_s_49 a 27 ∧ gI σ_s_49 a 27 ≤ 12) := hw_48
    replace hVhR_45 := hid.mk hVhR_45
    have hn_55 := hw_48.2
    replace hw_48 := hw_48.1
    obtain ⟨cc_56, jj_57, hR_58, hn_55⟩ := hn_55
    have hVhR_58 := hR_58.1
    have h0_59 : ¬ cc_56 = 0 := by omega
    try simp only [h0_59, ne_eq, not_true_eq_false, not_false_eq_true, false_implies, true_implies, true_and, and_true, eq_self, false_or, or_false, false_and, and_false] at hVhR_58
    have hc_60 : fc = cc_56 := by omega
    subst hc_60
    have hj_61 : jt = jj_57 := by omega
    subst hj_61
    refine lv_istore_n (lv' := [(1, .int (I z_50)), (0, .ref a)]) hx hb dX11_filter_16 rfl hl (by decide) rfl (fun ls hl => ?_)
    exact th_vret hx hb hr hlocks hH hS ⟨hO, hF, hM, ⟨⟨by omega, by omega⟩, fc, jt, hR_58, ⟨fun _ => ⟨rfl, rfl⟩, fun h9 => absurd h9 h0_59, fun h9 => absurd h9 h0_59⟩⟩⟩ dX11_filter_17

set_option maxHeartbeats 20000000 in
set_option maxRecDepth 100000 in
theorem n_places (l : Launch) (G : va_G) (y : Nat → ClassId) (b0 : Nat) (σ : th_M) (E : th_E) (hO : ok y E σ) (a : Nat) (h_a : kd E a = 13) (f1 : Nat → Int32) (ef1 : aF σ (ad E a 1) = f1) (Bf : Int → Int) (hsr : sr E σ a Bf) (T : tkT) (hSt : tkSt Bf T) (fc jt : Int) (hR0 : RSt σ a T fc jt) (hy0 : 0 ≤ gI σ a 17 ∧ gI σ a 17 ≤ gI σ a 13 ∧ gI σ a 13 ≤ gI σ a 11 ∧ gI σ a 11 ≤ 400) (hy1 : gI σ a 25 = 0) (hy2 : fc = 0 → 0 ≤ gI σ a 27 ∧ gI σ a 27 ≤ 12) (hy3 : fc = 0) : Met l yX11_places wsX11_places ({ frames := 5, cells := 0, slots := 0, locals := 141 }) (th_P G y b0 σ [.ref a]) (th_Qv G b0 (fun σ1 => ok y E σ1 ∧ fr [13] E σ σ1 ∧ fm [13, 14, 15, 16, 17, 18, 19, 20] E σ σ1 a ∧ (((gI σ a 13 ≤ gI σ1 a 13 ∧ gI σ1 a 13 ≤ gI σ a 11 ∧ 0 ≤ gI σ1 a 17 ∧ gI σ1 a 17 ≤ gI σ1 a 13)) ∧ ∃ c1 j1, RSt σ1 a T c1 j1 ∧ (fc ≠ 0 → c1 = fc ∧ j1 = jt) ∧ (fc = 0 → jt ≤ j1 ∧ GS T [(10, 0)] jt (gI σ a 27) [] c1 j1 (gI σ1 a 27)) ∧ (c1 = 0 → 0 ≤ gI σ1 a 27 ∧ gI σ1 a 27 ≤ 12)))) 0 0 (th_A b0) := by
  refine Met.ofW (cc := cX11_places) (maxL := 10) (ret := none) (by decide) rfl ?_
  intro p e s m args below meth c s₁ B hml hv
  obtain ⟨rfl, hH, hK⟩ := hv
  have hx := B.exec
  have hb := B.bytes
  have hr := B.returns
  have hts := atoms_spec (ws := wsX11_places) B.pre
  have hown : s.vm.findClass RX11 = some m.cls := findClass_of_methodNamed B.named
  have hlocks := B.notSynchronized
  have h00 : b0 ≤ s.heap.size := hH.1
  have hS : va_S (th_A b0) s.heap s.heap [] := va_S.rf
  have hF : fr [13] E σ σ := fr.rf
  have hM : fm [13, 14, 15, 16, 17, 18, 19, 20] E σ σ a := fm.rf
  have inX11 : ∀ w ∈ wsX110, w ∈ wsX11_places := by decide +kernel
  have fl0 := hts (.fieldLink RX11 300 "NestQueryModel" "isGone" "Z") (by decide +kernel)
  have hl := lv_entry ([.ref a]) (n := 10) (Nat.le_of_ble_eq_true rfl)
  rw [lg_entry_eq]
  generalize (lg_sl ([.ref a]) ++ List.replicate (10 - (lg_sl ([.ref a])).length) Slot.unset).toArray = ls at hl ⊢
  have hl : lv_has ls 10 [(0, .ref a)] := hl
  obtain ⟨a110, ea110, ra110, la110, ua110⟩ := hO.gi h_a (by decide) k13_11
  obtain ⟨a130, ea130, ra130, la130, ua130⟩ := hO.gi h_a (by decide) k13_13
  obtain ⟨a140, ea140, ra140, la140, ua140⟩ := hO.gi h_a (by decide) k13_14
  obtain ⟨a170, ea170, ra170, la170, ua170⟩ := hO.gi h_a (by decide) k13_17
  obtain ⟨a190, ea190, ra190, la190, ua190⟩ := hO.gi h_a (by decide) k13_19
  obtain ⟨a270, ea270, ra270, la270, ua270⟩ := hO.gi h_a (by decide) k13_27
  have hV0 := hR0.1
  have h0_1 : fc = 0 := by omega
  subst h0_1
  try simp only [ne_eq, not_true_eq_false, not_false_eq_true, false_implies, true_implies, true_and, and_true, eq_self, false_or, or_false, false_and, and_false] at hV0
  have e_2 : gI σ a 19 = 0 := by omega
  have hG_3 := GS.start (T := T) (e := [(10, 0)]) (j := jt) (t := gI σ a 27)
  have e_4 : gI σ a 25 = 0 := by omega
  refine lv_aload_n hx hb dX11_places_0 rfl (lv_at hl 0 rfl) ?_
  refine lv_bipush (v := I 58) hx hb dX11_places_1 (by decide) ?_
  obtain ⟨_, hc_5⟩ := hO.cell h_a (by decide) (ci := 11) rfl
  refine th_calli (va_runV (As := [.int (I 58)]) (rest := []) ⟨hx, hb, hml, hown, hts⟩ (n_isMarked l G y b0 σ E hO a h_a 58 (show rng 58 from (show rng 58 from ⟨by decide, by decide⟩)) (by omega) (by omega) Bf hsr T hSt 0 jt hR0 (by omega)) (cwV 1 hts gX11_places_X11_isMarked rfl rfl rfl (by decide +kernel) ⟨Nat.le_of_ble_eq_true rfl, Nat.le_of_ble_eq_true rfl⟩) (th_PV hK hH rfl hc_5) rfl rfl hl.1 rfl (lv_room (Nat.le_of_ble_eq_true rfl)) dX11_places_3 ⟨Nat.le_of_ble_eq_true rfl, Nat.le_of_ble_eq_true rfl⟩) hS (fun z_8 σ_s_7 H locs rz_8 hw_6 hH hS => ?_)
  obtain ⟨e9, bhw_6, hw_6⟩ := hw_6
  replace e9 := e9.symm
  subst e9
  replace hw_6 : (z_8 = 1 ∧ (0 : Int) = 0 ∧ tK T jt = 58) ∨ (z_8 = 0 ∧ ((0 : Int) ≠ 0 ∨ tK T jt ≠ 58)) := hw_6
  obtain ⟨hw_6, -, hs_9⟩ | ⟨hw_6, hs_9⟩ := hw_6
  · subst hw_6
    refine lv_if_ne (tgt := 13) hx hb dX11_places_6 (by decide) (fun _ => ?_) (fun c_10 => absurd c_10 (by decide))
    refine lv_iconst (v := I 0) hx hb dX11_places_13 (by decide) ?_
    refine lv_istore_n (lv' := [(1, .int (I 0)), (0, .ref a)]) hx hb dX11_places_14 rfl hl (by decide) rfl (fun ls hl => ?_)
    refine lv_iload_n hx hb dX11_places_15 rfl (lv_at hl 0 rfl) ?_
    refine lv_if_eq (tgt := 26) hx hb dX11_places_16 (by decide) (fun _ => ?_) (fun c_11 => absurd (by decide) c_11)
    have hG_12 := hG_3.pcol hs_9
    refine lv_iconst (v := I 0) hx hb dX11_places_26 (by decide) ?_
    refine lv_istore_n (lv' := [(2, .int (I 0)), (1, .int (I 0)), (0, .ref a)]) hx hb dX11_places_27 rfl hl (by decide) rfl (fun ls hl => ?_)
    refine lv_aload_n hx hb dX11_places_28 rfl (lv_at hl 2 rfl) ?_
    refine lv_bipush (v := I 58) hx hb dX11_places_29 (by decide) ?_
    obtain ⟨_, hc_13⟩ := hO.cell h_a (by decide) (ci := 11) rfl
    refine th_calli (va_runV (As := [.int (I 58)]) (rest := []) ⟨hx, hb, hml, hown, hts⟩ (n_isMarked l G y b0 σ E hO a h_a 58 (show rng 58 from (show rng 58 from ⟨by decide, by decide⟩)) (by omega) (by omega) Bf hsr T hSt 0 jt hR0 (by omega)) (cwV 1 hts gX11_places_X11_isMarked rfl rfl rfl (by decide +kernel) ⟨Nat.le_of_ble_eq_true rfl, Nat.le_of_ble_eq_true rfl⟩) (th_PV hK hH rfl hc_13) rfl rfl hl.1 rfl (lv_room (Nat.le_of_ble_eq_true rfl)) dX11_places_31 ⟨Nat.le_of_ble_eq_true rfl, Nat.le_of_ble_eq_true rfl⟩) hS (fun z_16 σ_s_15 H locs rz_16 hw_14 hH hS => ?_)
    obtain ⟨e9, bhw_14, hw_14⟩ := hw_14
    replace e9 := e9.symm
    subst e9
    replace hw_14 : (z_16 = 1 ∧ (0 : Int) = 0 ∧ tK T jt = 58) ∨ (z_16 = 0 ∧ ((0 : Int) ≠ 0 ∨ tK T jt ≠ 58)) := hw_14
    replace hw_14 : z_16 = 1 := by omega
    subst hw_14
    refine lv_if_ne (tgt := 117) hx hb dX11_places_34 (by decide) (fun _ => ?_) (fun c_17 => absurd c_17 (by decide))
    refine lv_aload_n hx hb dX11_places_117 rfl (lv_at hl 2 rfl) ?_
    obtain ⟨_, hc_18⟩ := hO.cell h_a (by decide) (ci := 11) rfl
    refine th_callv (va_runV (As := []) (rest := []) ⟨hx, hb, hml, hown, hts⟩ (n_pass l G y b0 σ E hO a h_a Bf hsr T hSt 0 jt hR0 (by omega) (by omega)) (cwV 0 hts gX11_places_X11_pass rfl rfl rfl (by decide +kernel) ⟨Nat.le_of_ble_eq_true rfl, Nat.le_of_ble_eq_true rfl⟩) (th_PV hK hH rfl hc_18) rfl rfl hl.1 rfl (lv_room (Nat.le_of_ble_eq_true rfl)) dX11_places_118 ⟨Nat.le_of_ble_eq_true rfl, Nat.le_of_ble_eq_true rfl⟩) hS (fun σ_s_20 H locs hw_19 hH hS => ?_)
    obtain ⟨hO9, hF9, hM9, hw_19⟩ := hw_19
    replace hM := hM.tu hM9 (by decide)
    replace hF := hF.tu hF9 (by decide)
    have e_21 : aF σ_s_20 (ad E a 1) = f1 := (hM9.a (by decide) (by decide)).trans ef1
    have e_22 : gI σ_s_20 a 11 = a110 := (hM9.i (by decide)).trans ea110
    have e_23 : gI σ_s_20 a 19 = 0 := (hM9.i (by decide)).trans e_2
    have e_24 : gI σ_s_20 a 27 = a270 := (hM9.i (by decide)).trans ea270
    have e_25 : gI σ_s_20 a 25 = 0 := (hM9.i (by decide)).trans e_4
    replace hsr := hsr.mv hM9 (by decide) (by decide) (by decide) (by decide) (by decide)
    replace hO := hO9
    replace hw_19 : ((gI σ a 13 ≤ gI σ_s_20 a 13 ∧ gI σ_s_20 a 13 ≤ gI σ a 11 ∧ 0 ≤ gI σ_s_20 a 17 ∧ gI σ_s_20 a 17 ≤ gI σ_s_20 a 13) ∧ pgo (gI σ_s_20 a 19) (gI σ_s_20 a 14) (gI σ a 13) (gI σ_s_20 a 13) ∧ gI σ_s_20 a 19 = gI σ a 19) ∧ ∃ c1 j1, RSt σ_s_20 a T c1 j1 ∧ (c1 = 0 ∧ ((0 : Int) ≠ 0 → j1 = jt) ∧ ((0 : Int) = 0 → j1 = jt + 1)) := hw_19
    replace hV0 := hid.mk hV0
    have hn_26 := hw_19.2
    replace hw_19 := hw_19.1
    obtain ⟨cc_27, jj_28, hR_29, hn_26⟩ := hn_26
    have hVhR_29 := hR_29.1
    have h0_30 : cc_27 = 0 := by omega
    subst h0_30
    try simp only [ne_eq, not_true_eq_false, not_false_eq_true, false_implies, true_implies, true_and, and_true, eq_self, false_or, or_false, false_and, and_false] at hVhR_29
    have e_31 : gI σ_s_20 a 19 = 0 := by omega
    have hj_32 : jt + 1 = jj_28 := by omega
    subst hj_32
    have hG_33 := hG_12.qcol hs_9
    refine lv_aload_n hx hb dX11_places_121 rfl (lv_at hl 2 rfl) ?_
    refine lv_bipush (v := I 93) hx hb dX11_places_122 (by decide) ?_
    obtain ⟨_, hc_34⟩ := hO.cell h_a (by decide) (ci := 11) rfl
    refine th_calli (va_runV (As := [.int (I 93)]) (rest := []) ⟨hx, hb, hml, hown, hts⟩ (n_isMarked l G y b0 σ_s_20 E hO a h_a 93 (show rng 93 from (show rng 93 from ⟨by decide, by decide⟩)) (by omega) (by omega) Bf hsr T hSt 0 (jt + 1) hR_29 (by omega)) (cwV 1 hts gX11_places_X11_isMarked rfl rfl rfl (by decide +kernel) ⟨Nat.le_of_ble_eq_true rfl, Nat.le_of_ble_eq_true rfl⟩) (th_PV hK hH rfl hc_34) rfl rfl hl.1 rfl (lv_room (Nat.le_of_ble_eq_true rfl)) dX11_places_124 ⟨Nat.le_of_ble_eq_true rfl, Nat.le_of_ble_eq_true rfl⟩) hS (fun z_37 σ_s_36 H locs rz_37 hw_35 hH hS => ?_)
    obtain ⟨e9, bhw_35, hw_35⟩ := hw_35
    replace e9 := e9.symm
    subst e9
    replace hw_35 : (z_37 = 1 ∧ (0 : Int) = 0 ∧ tK T (jt + 1) = 93) ∨ (z_37 = 0 ∧ ((0 : Int) ≠ 0 ∨ tK T (jt + 1) ≠ 93)) := hw_35
    have hb_38 := hw_19.1
    replace hw_19 := hid.mk hw_19
    replace hn_26 := hid.mk hn_26
    obtain ⟨hw_35, -, hs_39⟩ | ⟨hw_35, hs_39⟩ := hw_35
    · subst hw_35
      refine lv_if_ne (tgt := 134) hx hb dX11_places_127 (by decide) (fun _ => ?_) (fun c_40 => absurd c_40 (by decide))
      refine lv_iconst (v := I 0) hx hb dX11_places_134 (by decide) ?_
      refine lv_istore_n (lv' := [(3, .int (I 0)), (2, .int (I 0)), (1, .int (I 0)), (0, .ref a)]) hx hb dX11_places_135 rfl hl (by decide) rfl (fun ls hl => ?_)
      refine lv_iload_n hx hb dX11_places_136 rfl (lv_at hl 0 rfl) ?_
      refine lv_if_eq (tgt := 147) hx hb dX11_places_137 (by decide) (fun _ => ?_) (fun c_41 => absurd (by decide) c_41)
      have hG_42 := hG_33.rend hs_39
      refine lv_iconst (v := I 0) hx hb dX11_places_147 (by decide) ?_
      refine lv_istore (lv' := [(4, .int (I 0)), (3, .int (I 0)), (2, .int (I 0)), (1, .int (I 0)), (0, .ref a)]) hx hb dX11_places_148 hl (by decide) rfl (fun ls hl => ?_)
      refine lv_aload_n hx hb dX11_places_150 rfl (lv_at hl 4 rfl) ?_
      refine lv_bipush (v := I 93) hx hb dX11_places_151 (by decide) ?_
      obtain ⟨_, hc_43⟩ := hO.cell h_a (by decide) (ci := 11) rfl
      refine th_callv (va_runV (As := [.int (I 93)]) (rest := []) ⟨hx, hb, hml, hown, hts⟩ (n_need l G y b0 σ_s_20 E hO a h_a 93 (show rng 93 from (show rng 93 from ⟨by decide, by decide⟩)) (by omega) (by omega) Bf hsr T hSt 0 (jt + 1) hR_29 (by omega)) (cwV 1 hts gX11_places_X11_need rfl rfl rfl (by decide +kernel) ⟨Nat.le_of_ble_eq_true rfl, Nat.le_of_ble_eq_true rfl⟩) (th_PV hK hH rfl hc_43) rfl rfl hl.1 rfl (lv_room (Nat.le_of_ble_eq_true rfl)) dX11_places_153 ⟨Nat.le_of_ble_eq_true rfl, Nat.le_of_ble_eq_true rfl⟩) hS (fun σ_s_45 H locs hw_44 hH hS => ?_)
      obtain ⟨hO9, hF9, hM9, hw_44⟩ := hw_44
      replace hM := hM.tu hM9 (by decide)
      replace hF := hF.tu hF9 (by decide)
      have e_46 : aF σ_s_45 (ad E a 1) = f1 := (hM9.a (by decide) (by decide)).trans e_21
      have e_47 : gI σ_s_45 a 11 = a110 := (hM9.i (by decide)).trans e_22
      have e_48 : gI σ_s_45 a 27 = a270 := (hM9.i (by decide)).trans e_24
      have e_49 : gI σ_s_45 a 25 = 0 := (hM9.i (by decide)).trans e_25
      replace hsr := hsr.mv hM9 (by decide) (by decide) (by decide) (by decide) (by decide)
      replace hO := hO9
      replace hw_44 : ((gI σ_s_20 a 13 ≤ gI σ_s_45 a 13 ∧ gI σ_s_45 a 13 ≤ gI σ_s_20 a 11 ∧ 0 ≤ gI σ_s_45 a 17 ∧ gI σ_s_45 a 17 ≤ gI σ_s_45 a 13) ∧ pgo (gI σ_s_45 a 19) (gI σ_s_45 a 14) (gI σ_s_20 a 13) (gI σ_s_45 a 13) ∧ bdo (gI σ_s_20 a 19) (gI σ_s_45 a 19)) ∧ ∃ c1 j1, RSt σ_s_45 a T c1 j1 ∧ (((0 : Int) ≠ 0 → c1 = 0 ∧ j1 = (jt + 1)) ∧ ((0 : Int) = 0 → (tK T (jt + 1) = 93 ∧ c1 = 0 ∧ j1 = (jt + 1) + 1) ∨ (tK T (jt + 1) ≠ 93 ∧ c1 = 1 ∧ j1 = (jt + 1)))) := hw_44
      replace hVhR_29 := hid.mk hVhR_29
      have hn_50 := hw_44.2
      replace hw_44 := hw_44.1
      obtain ⟨cc_51, jj_52, hR_53, hn_50⟩ := hn_50
      have hVhR_53 := hR_53.1
      rcases Classical.em (cc_51 = 0) with h0_54 | h0_54
      · subst h0_54
        try simp only [ne_eq, not_true_eq_false, not_false_eq_true, false_implies, true_implies, true_and, and_true, eq_self, false_or, or_false, false_and, and_false] at hVhR_53
        have e_55 : gI σ_s_45 a 19 = 0 := by omega
        try simp only [ne_eq, not_true_eq_false, not_false_eq_true, false_implies, true_implies, true_and, and_true, eq_self, false_or, or_false, false_and, and_false] at hn_50
        have hj_56 : (jt + 1) + 1 = jj_52 := by omega
        subst hj_56
        have hG_57 := hG_42.need (c2 := 0) (j2 := ((jt + 1) + 1)) (fun h9 => absurd rfl h9) (fun _ => by omega)
        refine lv_iconst (v := I 0) hx hb dX11_places_156 (by decide) ?_
        refine lv_istore (lv' := [(5, .int (I 0)), (4, .int (I 0)), (3, .int (I 0)), (2, .int (I 0)), (1, .int (I 0)), (0, .ref a)]) hx hb dX11_places_157 hl (by decide) rfl (fun ls hl => ?_)
        refine lv_iload hx hb dX11_places_159 (lv_at hl 0 rfl) ?_
        refine lv_aload_n hx hb dX11_places_161 rfl (lv_at hl 5 rfl) ?_
        obtain ⟨_, hc_58⟩ := hO.cell h_a (by decide) (ci := 11) rfl
        refine th_calli (va_runV (As := []) (rest := [.int (I 0)]) ⟨hx, hb, hml, hown, hts⟩ (m_things l G y b0 σ_s_45 E hO a h_a f1 e_46) (cwV 0 hts gX11_places_X11_things rfl rfl rfl (by decide +kernel) ⟨Nat.le_of_ble_eq_true rfl, Nat.le_of_ble_eq_true rfl⟩) (th_PV hK hH rfl hc_58) rfl rfl hl.1 rfl (lv_room (Nat.le_of_ble_eq_true rfl)) dX11_places_162 ⟨Nat.le_of_ble_eq_true rfl, Nat.le_of_ble_eq_true rfl⟩) hS (fun z_61 σ_s_60 H locs rz_61 hw_59 hH hS => ?_)
        obtain ⟨e9, hw_59⟩ := hw_59
        replace e9 := e9.symm
        subst e9
        replace hw_59 : z_61 = mS f1 0 := hw_59
        have hb_62 := hw_44.1
        replace hw_44 := hid.mk hw_44
        replace hn_50 := hid.mk hn_50
        refine lv_icmp_ge (tgt := 278) hx hb dX11_places_165 (by decide) (fun c_63 => ?_) (fun c_63 => ?_)
        · replace c_63 := (I_le (a := z_61) (b := 0) rz_61 (show rng 0 from ⟨by decide, by decide⟩)).mp c_63
          exact th_vret hx hb hr hlocks hH hS ⟨hO, hF, hM, ⟨by omega, 0, ((jt + 1) + 1), hR_53, ⟨(fun h9 => absurd rfl h9), fun _ => ⟨by omega, hG_57.ec rfl rfl (fun _ => by omega)⟩, fun _ => by omega⟩⟩⟩ dX11_places_278
        · replace c_63 := mt (I_le (a := z_61) (b := 0) rz_61 (show rng 0 from ⟨by decide, by decide⟩)).mpr c_63
          refine lv_aload_n hx hb dX11_places_168 rfl (lv_at hl 5 rfl) ?_
          refine ok.getIc hO h_a (by decide) k13_25 e_49 (fun _ _ he hv kk => th_get (ci := 11) (C := RX11) (T := TX11) (N := 66) hx hb hts inX11 hown hK hH he rfl 25 (by decide) fl0 hv dX11_places_169 kk) ?_
          refine lv_if_eq (tgt := 278) hx hb dX11_places_172 (by decide) (fun _ => ?_) (fun c_64 => absurd (by decide) c_64)
          exact th_vret hx hb hr hlocks hH hS ⟨hO, hF, hM, ⟨by omega, 0, ((jt + 1) + 1), hR_53, ⟨(fun h9 => absurd rfl h9), fun _ => ⟨by omega, hG_57.ec rfl rfl (fun _ => by omega)⟩, fun _ => by omega⟩⟩⟩ dX11_places_278
      · try simp only [h0_54, ne_eq, not_true_eq_false, not_false_eq_true, false_implies, true_implies, true_and, and_true, eq_self, false_or, or_false, false_and, and_false] at hVhR_53
        try simp only [h0_54, ne_eq, not_true_eq_false, not_false_eq_true, false_implies, true_implies, true_and, and_true, eq_self, false_or, or_false, false_and, and_false] at hn_50
        have hj_65 : jt + 1 = jj_52 := by omega
        subst hj_65
        have hG_66 := hG_42.need (c2 := cc_51) (j2 := (jt + 1)) (fun h9 => absurd rfl h9) (fun _ => by omega)
        refine lv_iconst (v := I 0) hx hb dX11_places_156 (by decide) ?_
        refine lv_istore (lv' := [(5, .int (I 0)), (4, .int (I 0)), (3, .int (I 0)), (2, .int (I 0)), (1, .int (I 0)), (0, .ref a)]) hx hb dX11_places_157 hl (by decide) rfl (fun ls hl => ?_)
        refine lv_iload hx hb dX11_places_159 (lv_at hl 0 rfl) ?_
        refine lv_aload_n hx hb dX11_places_161 rfl (lv_at hl 5 rfl) ?_
        obtain ⟨_, hc_67⟩ := hO.cell h_a (by decide) (ci := 11) rfl
        refine th_calli (va_runV (As := []) (rest := [.int (I 0)]) ⟨hx, hb, hml, hown, hts⟩ (m_things l G y b0 σ_s_45 E hO a h_a f1 e_46) (cwV 0 hts gX11_places_X11_things rfl rfl rfl (by decide +kernel) ⟨Nat.le_of_ble_eq_true rfl, Nat.le_of_ble_eq_true rfl⟩) (th_PV hK hH rfl hc_67) rfl rfl hl.1 rfl (lv_room (Nat.le_of_ble_eq_true rfl)) dX11_places_162 ⟨Nat.le_of_ble_eq_true rfl, Nat.le_of_ble_eq_true rfl⟩) hS (fun z_70 σ_s_69 H locs rz_70 hw_68 hH hS => ?_)
        obtain ⟨e9, hw_68⟩ := hw_68
        replace e9 := e9.symm
        subst e9
        replace hw_68 : z_70 = mS f1 0 := hw_68
        have hb_71 := hw_44.1
        replace hw_44 := hid.mk hw_44
        replace hn_50 := hid.mk hn_50
        refine lv_icmp_ge (tgt := 278) hx hb dX11_places_165 (by decide) (fun c_72 => ?_) (fun c_72 => ?_)
        · replace c_72 := (I_le (a := z_70) (b := 0) rz_70 (show rng 0 from ⟨by decide, by decide⟩)).mp c_72
          exact th_vret hx hb hr hlocks hH hS ⟨hO, hF, hM, ⟨by omega, cc_51, (jt + 1), hR_53, ⟨(fun h9 => absurd rfl h9), fun _ => ⟨by omega, hG_66.was h0_54⟩, fun h9 => absurd h9 h0_54⟩⟩⟩ dX11_places_278
        · replace c_72 := mt (I_le (a := z_70) (b := 0) rz_70 (show rng 0 from ⟨by decide, by decide⟩)).mpr c_72
          refine lv_aload_n hx hb dX11_places_168 rfl (lv_at hl 5 rfl) ?_
          refine ok.getIc hO h_a (by decide) k13_25 e_49 (fun _ _ he hv kk => th_get (ci := 11) (C := RX11) (T := TX11) (N := 66) hx hb hts inX11 hown hK hH he rfl 25 (by decide) fl0 hv dX11_places_169 kk) ?_
          refine lv_if_eq (tgt := 278) hx hb dX11_places_172 (by decide) (fun _ => ?_) (fun c_73 => absurd (by decide) c_73)
          exact th_vret hx hb hr hlocks hH hS ⟨hO, hF, hM, ⟨by omega, cc_51, (jt + 1), hR_53, ⟨(fun h9 => absurd rfl h9), fun _ => ⟨by omega, hG_66.was h0_54⟩, fun h9 => absurd h9 h0_54⟩⟩⟩ dX11_places_278
    · replace hs_39 := hs_39.resolve_left (fun h9 => h9 rfl)
      subst hw_35
      refine lv_if_ne (tgt := 134) hx hb dX11_places_127 (by decide) (fun c_74 => absurd (by decide) c_74) (fun _ => ?_)
      refine lv_iconst (v := I 1) hx hb dX11_places_130 (by decide) ?_
      refine lv_goto (tgt := 135) hx hb dX11_places_131 (by decide) ?_
      refine lv_istore_n (lv' := [(3, .int (I 1)), (2, .int (I 0)), (1, .int (I 0)), (0, .ref a)]) hx hb dX11_places_135 rfl hl (by decide) rfl (fun ls hl => ?_)
      refine lv_iload_n hx hb dX11_places_136 rfl (lv_at hl 0 rfl) ?_
      refine lv_if_eq (tgt := 147) hx hb dX11_places_137 (by decide) (fun c_75 => absurd c_75 (by decide)) (fun _ => ?_)
      have hG_76 := hG_33.rnum hs_39
      refine lv_aload_n hx hb dX11_places_140 rfl (lv_at hl 3 rfl) ?_
      obtain ⟨_, hc_77⟩ := hO.cell h_a (by decide) (ci := 11) rfl
      refine th_calli (va_runV (As := []) (rest := []) ⟨hx, hb, hml, hown, hts⟩ (n_readNumber l G y b0 σ_s_20 E hO a h_a Bf hsr T hSt 0 (jt + 1) hR_29 (by omega)) (cwV 0 hts gX11_places_X11_readNumber rfl rfl rfl (by decide +kernel) ⟨Nat.le_of_ble_eq_true rfl, Nat.le_of_ble_eq_true rfl⟩) (th_PV hK hH rfl hc_77) rfl rfl hl.1 rfl (lv_room (Nat.le_of_ble_eq_true rfl)) dX11_places_141 ⟨Nat.le_of_ble_eq_true rfl, Nat.le_of_ble_eq_true rfl⟩) hS (fun z_80 σ_s_79 H locs rz_80 hw_78 hH hS => ?_)
      obtain ⟨hO9, hF9, hM9, hw_78⟩ := hw_78
      replace hM := hM.tu hM9 (by decide)
      replace hF := hF.tu hF9 (by decide)
      have e_81 : aF σ_s_79 (ad E a 1) = f1 := (hM9.a (by decide) (by decide)).trans e_21
      have e_82 : gI σ_s_79 a 11 = a110 := (hM9.i (by decide)).trans e_22
      have e_83 : gI σ_s_79 a 27 = a270 := (hM9.i (by decide)).trans e_24
      have e_84 : gI σ_s_79 a 25 = 0 := (hM9.i (by decide)).trans e_25
      replace hsr := hsr.mv hM9 (by decide) (by decide) (by decide) (by decide) (by decide)
      replace hO := hO9
      replace hw_78 : ((gI σ_s_20 a 13 ≤ gI σ_s_79 a 13 ∧ gI σ_s_79 a 13 ≤ gI σ_s_20 a 11 ∧ 0 ≤ gI σ_s_79 a 17 ∧ gI σ_s_79 a 17 ≤ gI σ_s_79 a 13) ∧ pgo (gI σ_s_79 a 19) (gI σ_s_79 a 14) (gI σ_s_20 a 13) (gI σ_s_79 a 13) ∧ bdo (gI σ_s_20 a 19) (gI σ_s_79 a 19)) ∧ ∃ c1 j1, RSt σ_s_79 a T c1 j1 ∧ (((0 : Int) ≠ 0 → c1 = 0 ∧ j1 = (jt + 1)) ∧ ((0 : Int) = 0 → nuR T (jt + 1) c1 j1)) := hw_78
      replace hVhR_29 := hid.mk hVhR_29
      have hn_85 := hw_78.2
      replace hw_78 := hw_78.1
      obtain ⟨cc_86, jj_87, hR_88, hn_85⟩ := hn_85
      have hVhR_88 := hR_88.1
      rcases Classical.em (cc_86 = 0) with h0_89 | h0_89
      · subst h0_89
        try simp only [ne_eq, not_true_eq_false, not_false_eq_true, false_implies, true_implies, true_and, and_true, eq_self, false_or, or_false, false_and, and_false] at hVhR_88
        have e_90 : gI σ_s_79 a 19 = 0 := by omega
        try simp only [ne_eq, not_true_eq_false, not_false_eq_true, false_implies, true_implies, true_and, and_true, eq_self, false_or, or_false, false_and, and_false] at hn_85
        have hle_91 : (jt + 1) ≤ jj_87 := nuR.le (T := T) (c := 0) (by first | exact hn_85 | exact hn_85.2 rfl)
        have hG_92 := hG_76.num (c2 := 0) (j2 := jj_87) (fun h9 => absurd rfl h9) (fun _ => by first | exact hn_85 | exact hn_85.2 rfl)
        refine lv_goto (tgt := 148) hx hb dX11_places_144 (by decide) ?_
        refine lv_istore (lv' := [(4, .int (I z_80)), (3, .int (I 1)), (2, .int (I 0)), (1, .int (I 0)), (0, .ref a)]) hx hb dX11_places_148 hl (by decide) rfl (fun ls hl => ?_)
        refine lv_aload_n hx hb dX11_places_150 rfl (lv_at hl 4 rfl) ?_
        refine lv_bipush (v := I 93) hx hb dX11_places_151 (by decide) ?_
        obtain ⟨_, hc_93⟩ := hO.cell h_a (by decide) (ci := 11) rfl
        refine th_callv (va_runV (As := [.int (I 93)]) (rest := []) ⟨hx, hb, hml, hown, hts⟩ (n_need l G y b0 σ_s_79 E hO a h_a 93 (show rng 93 from (show rng 93 from ⟨by decide, by decide⟩)) (by omega) (by omega) Bf hsr T hSt 0 jj_87 hR_88 (by omega)) (cwV 1 hts gX11_places_X11_need rfl rfl rfl (by decide +kernel) ⟨Nat.le_of_ble_eq_true rfl, Nat.le_of_ble_eq_true rfl⟩) (th_PV hK hH rfl hc_93) rfl rfl hl.1 rfl (lv_room (Nat.le_of_ble_eq_true rfl)) dX11_places_153 ⟨Nat.le_of_ble_eq_true rfl, Nat.le_of_ble_eq_true rfl⟩) hS (fun σ_s_95 H locs hw_94 hH hS => ?_)
        obtain ⟨hO9, hF9, hM9, hw_94⟩ := hw_94
        replace hM := hM.tu hM9 (by decide)
        replace hF := hF.tu hF9 (by decide)
        have e_96 : aF σ_s_95 (ad E a 1) = f1 := (hM9.a (by decide) (by decide)).trans e_81
        have e_97 : gI σ_s_95 a 11 = a110 := (hM9.i (by decide)).trans e_82
        have e_98 : gI σ_s_95 a 27 = a270 := (hM9.i (by decide)).trans e_83
        have e_99 : gI σ_s_95 a 25 = 0 := (hM9.i (by decide)).trans e_84
        replace hsr := hsr.mv hM9 (by decide) (by decide) (by decide) (by decide) (by decide)
        replace hO := hO9
        replace hw_94 : ((gI σ_s_79 a 13 ≤ gI σ_s_95 a 13 ∧ gI σ_s_95 a 13 ≤ gI σ_s_79 a 11 ∧ 0 ≤ gI σ_s_95 a 17 ∧ gI σ_s_95 a 17 ≤ gI σ_s_95 a 13) ∧ pgo (gI σ_s_95 a 19) (gI σ_s_95 a 14) (gI σ_s_79 a 13) (gI σ_s_95 a 13) ∧ bdo (gI σ_s_79 a 19) (gI σ_s_95 a 19)) ∧ ∃ c1 j1, RSt σ_s_95 a T c1 j1 ∧ (((0 : Int) ≠ 0 → c1 = 0 ∧ j1 = jj_87) ∧ ((0 : Int) = 0 → (tK T jj_87 = 93 ∧ c1 = 0 ∧ j1 = jj_87 + 1) ∨ (tK T jj_87 ≠ 93 ∧ c1 = 1 ∧ j1 = jj_87))) := hw_94
        have hb_100 := hw_78.1
        replace hw_78 := hid.mk hw_78
        replace hn_85 := hid.mk hn_85
        replace hVhR_88 := hid.mk hVhR_88
        have hn_101 := hw_94.2
        replace hw_94 := hw_94.1
        obtain ⟨cc_102, jj_103, hR_104, hn_101⟩ := hn_101
        have hVhR_104 := hR_104.1
        rcases Classical.em (cc_102 = 0) with h0_105 | h0_105
        · subst h0_105
          try simp only [ne_eq, not_true_eq_false, not_false_eq_true, false_implies, true_implies, true_and, and_true, eq_self, false_or, or_false, false_and, and_false] at hVhR_104
          have e_106 : gI σ_s_95 a 19 = 0 := by omega
          try simp only [ne_eq, not_true_eq_false, not_false_eq_true, false_implies, true_implies, true_and, and_true, eq_self, false_or, or_false, false_and, and_false] at hn_101
          have hj_107 : jj_87 + 1 = jj_103 := by omega
          subst hj_107
          have hG_108 := hG_92.need (c2 := 0) (j2 := (jj_87 + 1)) (fun h9 => absurd rfl h9) (fun _ => by omega)
          refine lv_iconst (v := I 0) hx hb dX11_places_156 (by decide) ?_
          refine lv_istore (lv' := [(5, .int (I 0)), (4, .int (I z_80)), (3, .int (I 1)), (2, .int (I 0)), (1, .int (I 0)), (0, .ref a)]) hx hb dX11_places_157 hl (by decide) rfl (fun ls hl => ?_)
          refine lv_iload hx hb dX11_places_159 (lv_at hl 0 rfl) ?_
          refine lv_aload_n hx hb dX11_places_161 rfl (lv_at hl 5 rfl) ?_
          obtain ⟨_, hc_109⟩ := hO.cell h_a (by decide) (ci := 11) rfl
          refine th_calli (va_runV (As := []) (rest := [.int (I 0)]) ⟨hx, hb, hml, hown, hts⟩ (m_things l G y b0 σ_s_95 E hO a h_a f1 e_96) (cwV 0 hts gX11_places_X11_things rfl rfl rfl (by decide +kernel) ⟨Nat.le_of_ble_eq_true rfl, Nat.le_of_ble_eq_true rfl⟩) (th_PV hK hH rfl hc_109) rfl rfl hl.1 rfl (lv_room (Nat.le_of_ble_eq_true rfl)) dX11_places_162 ⟨Nat.le_of_ble_eq_true rfl, Nat.le_of_ble_eq_true rfl⟩) hS (fun z_112 σ_s_111 H locs rz_112 hw_110 hH hS => ?_)
          obtain ⟨e9, hw_110⟩ := hw_110
          replace e9 := e9.symm
          subst e9
          replace hw_110 : z_112 = mS f1 0 := hw_110
          have hb_113 := hw_94.1
          replace hw_94 := hid.mk hw_94
          replace hn_101 := hid.mk hn_101
          refine lv_icmp_ge (tgt := 278) hx hb dX11_places_165 (by decide) (fun c_114 => ?_) (fun c_114 => ?_)
          · replace c_114 := (I_le (a := z_112) (b := 0) rz_112 (show rng 0 from ⟨by decide, by decide⟩)).mp c_114
            exact th_vret hx hb hr hlocks hH hS ⟨hO, hF, hM, ⟨by omega, 0, (jj_87 + 1), hR_104, ⟨(fun h9 => absurd rfl h9), fun _ => ⟨by omega, hG_108.ec rfl rfl (fun _ => by omega)⟩, fun _ => by omega⟩⟩⟩ dX11_places_278
          · replace c_114 := mt (I_le (a := z_112) (b := 0) rz_112 (show rng 0 from ⟨by decide, by decide⟩)).mpr c_114
            refine lv_aload_n hx hb dX11_places_168 rfl (lv_at hl 5 rfl) ?_
            refine ok.getIc hO h_a (by decide) k13_25 e_99 (fun _ _ he hv kk => th_get (ci := 11) (C := RX11) (T := TX11) (N := 66) hx hb hts inX11 hown hK hH he rfl 25 (by decide) fl0 hv dX11_places_169 kk) ?_
            refine lv_if_eq (tgt := 278) hx hb dX11_places_172 (by decide) (fun _ => ?_) (fun c_115 => absurd (by decide) c_115)
            exact th_vret hx hb hr hlocks hH hS ⟨hO, hF, hM, ⟨by omega, 0, (jj_87 + 1), hR_104, ⟨(fun h9 => absurd rfl h9), fun _ => ⟨by omega, hG_108.ec rfl rfl (fun _ => by omega)⟩, fun _ => by omega⟩⟩⟩ dX11_places_278
        · try simp only [h0_105, ne_eq, not_true_eq_false, not_false_eq_true, false_implies, true_implies, true_and, and_true, eq_self, false_or, or_false, false_and, and_false] at hVhR_104
          try simp only [h0_105, ne_eq, not_true_eq_false, not_false_eq_true, false_implies, true_implies, true_and, and_true, eq_self, false_or, or_false, false_and, and_false] at hn_101
          have hj_116 : jj_87 = jj_103 := by omega
          subst hj_116
          have hG_117 := hG_92.need (c2 := cc_102) (j2 := jj_87) (fun h9 => absurd rfl h9) (fun _ => by omega)
          refine lv_iconst (v := I 0) hx hb dX11_places_156 (by decide) ?_
          refine lv_istore (lv' := [(5, .int (I 0)), (4, .int (I z_80)), (3, .int (I 1)), (2, .int (I 0)), (1, .int (I 0)), (0, .ref a)]) hx hb dX11_places_157 hl (by decide) rfl (fun ls hl => ?_)
          refine lv_iload hx hb dX11_places_159 (lv_at hl 0 rfl) ?_
          refine lv_aload_n hx hb dX11_places_161 rfl (lv_at hl 5 rfl) ?_
          obtain ⟨_, hc_118⟩ := hO.cell h_a (by decide) (ci := 11) rfl
          refine th_calli (va_runV (As := []) (rest := [.int (I 0)]) ⟨hx, hb, hml, hown, hts⟩ (m_things l G y b0 σ_s_95 E hO a h_a f1 e_96) (cwV 0 hts gX11_places_X11_things rfl rfl rfl (by decide +kernel) ⟨Nat.le_of_ble_eq_true rfl, Nat.le_of_ble_eq_true rfl⟩) (th_PV hK hH rfl hc_118) rfl rfl hl.1 rfl (lv_room (Nat.le_of_ble_eq_true rfl)) dX11_places_162 ⟨Nat.le_of_ble_eq_true rfl, Nat.le_of_ble_eq_true rfl⟩) hS (fun z_121 σ_s_120 H locs rz_121 hw_119 hH hS => ?_)
          obtain ⟨e9, hw_119⟩ := hw_119
          replace e9 := e9.symm
          subst e9
          replace hw_119 : z_121 = mS f1 0 := hw_119
          have hb_122 := hw_94.1
          replace hw_94 := hid.mk hw_94
          replace hn_101 := hid.mk hn_101
          refine lv_icmp_ge (tgt := 278) hx hb dX11_places_165 (by decide) (fun c_123 => ?_) (fun c_123 => ?_)
          · replace c_123 := (I_le (a := z_121) (b := 0) rz_121 (show rng 0 from ⟨by decide, by decide⟩)).mp c_123
            exact th_vret hx hb hr hlocks hH hS ⟨hO, hF, hM, ⟨by omega, cc_102, jj_87, hR_104, ⟨(fun h9 => absurd rfl h9), fun _ => ⟨by omega, hG_117.was h0_105⟩, fun h9 => absurd h9 h0_105⟩⟩⟩ dX11_places_278
          · replace c_123 := mt (I_le (a := z_121) (b := 0) rz_121 (show rng 0 from ⟨by decide, by decide⟩)).mpr c_123
            refine lv_aload_n hx hb dX11_places_168 rfl (lv_at hl 5 rfl) ?_
            refine ok.getIc hO h_a (by decide) k13_25 e_99 (fun _ _ he hv kk => th_get (ci := 11) (C := RX11) (T := TX11) (N := 66) hx hb hts inX11 hown hK hH he rfl 25 (by decide) fl0 hv dX11_places_169 kk) ?_
            refine lv_if_eq (tgt := 278) hx hb dX11_places_172 (by decide) (fun _ => ?_) (fun c_124 => absurd (by decide) c_124)
            exact th_vret hx hb hr hlocks hH hS ⟨hO, hF, hM, ⟨by omega, cc_102, jj_87, hR_104, ⟨(fun h9 => absurd rfl h9), fun _ => ⟨by omega, hG_117.was h0_105⟩, fun h9 => absurd h9 h0_105⟩⟩⟩ dX11_places_278
      · try simp only [h0_89, ne_eq, not_true_eq_false, not_false_eq_true, false_implies, true_implies, true_and, and_true, eq_self, false_or, or_false, false_and, and_false] at hVhR_88
        try simp only [h0_89, ne_eq, not_true_eq_false, not_false_eq_true, false_implies, true_implies, true_and, and_true, eq_self, false_or, or_false, false_and, and_false] at hn_85
        have hle_125 : (jt + 1) ≤ jj_87 := nuR.le (T := T) (c := cc_86) (by first | exact hn_85 | exact hn_85.2 rfl)
        have hG_126 := hG_76.num (c2 := cc_86) (j2 := jj_87) (fun h9 => absurd rfl h9) (fun _ => by first | exact hn_85 | exact hn_85.2 rfl)
        refine lv_goto (tgt := 148) hx hb dX11_places_144 (by decide) ?_
        refine lv_istore (lv' := [(4, .int (I z_80)), (3, .int (I 1)), (2, .int (I 0)), (1, .int (I 0)), (0, .ref a)]) hx hb dX11_places_148 hl (by decide) rfl (fun ls hl => ?_)
        refine lv_aload_n hx hb dX11_places_150 rfl (lv_at hl 4 rfl) ?_
        refine lv_bipush (v := I 93) hx hb dX11_places_151 (by decide) ?_
        obtain ⟨_, hc_127⟩ := hO.cell h_a (by decide) (ci := 11) rfl
        refine th_callv (va_runV (As := [.int (I 93)]) (rest := []) ⟨hx, hb, hml, hown, hts⟩ (n_need l G y b0 σ_s_79 E hO a h_a 93 (show rng 93 from (show rng 93 from ⟨by decide, by decide⟩)) (by omega) (by omega) Bf hsr T hSt cc_86 jj_87 hR_88 (by omega)) (cwV 1 hts gX11_places_X11_need rfl rfl rfl (by decide +kernel) ⟨Nat.le_of_ble_eq_true rfl, Nat.le_of_ble_eq_true rfl⟩) (th_PV hK hH rfl hc_127) rfl rfl hl.1 rfl (lv_room (Nat.le_of_ble_eq_true rfl)) dX11_places_153 ⟨Nat.le_of_ble_eq_true rfl, Nat.le_of_ble_eq_true rfl⟩) hS (fun σ_s_129 H locs hw_128 hH hS => ?_)
        obtain ⟨hO9, hF9, hM9, hw_128⟩ := hw_128
        replace hM := hM.tu hM9 (by decide)
        replace hF := hF.tu hF9 (by decide)
        have e_130 : aF σ_s_129 (ad E a 1) = f1 := (hM9.a (by decide) (by decide)).trans e_81
        have e_131 : gI σ_s_129 a 11 = a110 := (hM9.i (by decide)).trans e_82
        have e_132 : gI σ_s_129 a 27 = a270 := (hM9.i (by decide)).trans e_83
        have e_133 : gI σ_s_129 a 25 = 0 := (hM9.i (by decide)).trans e_84
        replace hsr := hsr.mv hM9 (by decide) (by decide) (by decide) (by decide) (by decide)
        replace hO := hO9
        replace hw_128 : ((gI σ_s_79 a 13 ≤ gI σ_s_129 a 13 ∧ gI σ_s_129 a 13 ≤ gI σ_s_79 a 11 ∧ 0 ≤ gI σ_s_129 a 17 ∧ gI σ_s_129 a 17 ≤ gI σ_s_129 a 13) ∧ pgo (gI σ_s_129 a 19) (gI σ_s_129 a 14) (gI σ_s_79 a 13) (gI σ_s_129 a 13) ∧ bdo (gI σ_s_79 a 19) (gI σ_s_129 a 19)) ∧ ∃ c1 j1, RSt σ_s_129 a T c1 j1 ∧ ((cc_86 ≠ 0 → c1 = cc_86 ∧ j1 = jj_87) ∧ (cc_86 = 0 → (tK T jj_87 = 93 ∧ c1 = 0 ∧ j1 = jj_87 + 1) ∨ (tK T jj_87 ≠ 93 ∧ c1 = 1 ∧ j1 = jj_87))) := hw_128
        have hb_134 := hw_78.1
        replace hw_78 := hid.mk hw_78
        replace hn_85 := hid.mk hn_85
        replace hVhR_88 := hid.mk hVhR_88
        have hn_135 := hw_128.2
        replace hw_128 := hw_128.1
        obtain ⟨cc_136, jj_137, hR_138, hn_135⟩ := hn_135
        have hVhR_138 := hR_138.1
        try simp only [h0_89, ne_eq, not_true_eq_false, not_false_eq_true, false_implies, true_implies, true_and, and_true, eq_self, false_or, or_false, false_and, and_false] at hn_135
        have h0_139 : ¬ cc_136 = 0 := by omega
        try simp only [h0_139, ne_eq, not_true_eq_false, not_false_eq_true, false_implies, true_implies, true_and, and_true, eq_self, false_or, or_false, false_and, and_false] at hVhR_138
        try simp only [h0_89, h0_139, ne_eq, not_true_eq_false, not_false_eq_true, false_implies, true_implies, true_and, and_true, eq_self, false_or, or_false, false_and, and_false] at hn_135
        have hc_140 : cc_86 = cc_136 := by omega
        subst hc_140
        have hj_141 : jj_87 = jj_137 := by omega
        subst hj_141
        refine lv_iconst (v := I 0) hx hb dX11_places_156 (by decide) ?_
        refine lv_istore (lv' := [(5, .int (I 0)), (4, .int (I z_80)), (3, .int (I 1)), (2, .int (I 0)), (1, .int (I 0)), (0, .ref a)]) hx hb dX11_places_157 hl (by decide) rfl (fun ls hl => ?_)
        refine lv_iload hx hb dX11_places_159 (lv_at hl 0 rfl) ?_
        refine lv_aload_n hx hb dX11_places_161 rfl (lv_at hl 5 rfl) ?_
        obtain ⟨_, hc_142⟩ := hO.cell h_a (by decide) (ci := 11) rfl
        refine th_calli (va_runV (As := []) (rest := [.int (I 0)]) ⟨hx, hb, hml, hown, hts⟩ (m_things l G y b0 σ_s_129 E hO a h_a f1 e_130) (cwV 0 hts gX11_places_X11_things rfl rfl rfl (by decide +kernel) ⟨Nat.le_of_ble_eq_true rfl, Nat.le_of_ble_eq_true rfl⟩) (th_PV hK hH rfl hc_142) rfl rfl hl.1 rfl (lv_room (Nat.le_of_ble_eq_true rfl)) dX11_places_162 ⟨Nat.le_of_ble_eq_true rfl, Nat.le_of_ble_eq_true rfl⟩) hS (fun z_145 σ_s_144 H locs rz_145 hw_143 hH hS => ?_)
        obtain ⟨e9, hw_143⟩ := hw_143
        replace e9 := e9.symm
        subst e9
        replace hw_143 : z_145 = mS f1 0 := hw_143
        have hb_146 := hw_128.1
        replace hw_128 := hid.mk hw_128
        replace hn_135 := hid.mk hn_135
        refine lv_icmp_ge (tgt := 278) hx hb dX11_places_165 (by decide) (fun c_147 => ?_) (fun c_147 => ?_)
        · replace c_147 := (I_le (a := z_145) (b := 0) rz_145 (show rng 0 from ⟨by decide, by decide⟩)).mp c_147
          exact th_vret hx hb hr hlocks hH hS ⟨hO, hF, hM, ⟨by omega, cc_86, jj_87, hR_138, ⟨(fun h9 => absurd rfl h9), fun _ => ⟨by omega, hG_126.was h0_139⟩, fun h9 => absurd h9 h0_139⟩⟩⟩ dX11_places_278
        · replace c_147 := mt (I_le (a := z_145) (b := 0) rz_145 (show rng 0 from ⟨by decide, by decide⟩)).mpr c_147
          refine lv_aload_n hx hb dX11_places_168 rfl (lv_at hl 5 rfl) ?_
          refine ok.getIc hO h_a (by decide) k13_25 e_133 (fun _ _ he hv kk => th_get (ci := 11) (C := RX11) (T := TX11) (N := 66) hx hb hts inX11 hown hK hH he rfl 25 (by decide) fl0 hv dX11_places_169 kk) ?_
          refine lv_if_eq (tgt := 278) hx hb dX11_places_172 (by decide) (fun _ => ?_) (fun c_148 => absurd (by decide) c_148)
          exact th_vret hx hb hr hlocks hH hS ⟨hO, hF, hM, ⟨by omega, cc_86, jj_87, hR_138, ⟨(fun h9 => absurd rfl h9), fun _ => ⟨by omega, hG_126.was h0_139⟩, fun h9 => absurd h9 h0_139⟩⟩⟩ dX11_places_278
  · replace hs_9 := hs_9.resolve_left (fun h9 => h9 rfl)
    subst hw_6
    refine lv_if_ne (tgt := 13) hx hb dX11_places_6 (by decide) (fun c_149 => absurd (by decide) c_149) (fun _ => ?_)
    refine lv_iconst (v := I 1) hx hb dX11_places_9 (by decide) ?_
    refine lv_goto (tgt := 14) hx hb dX11_places_10 (by decide) ?_
    refine lv_istore_n (lv' := [(1, .int (I 1)), (0, .ref a)]) hx hb dX11_places_14 rfl hl (by decide) rfl (fun ls hl => ?_)
    refine lv_iload_n hx hb dX11_places_15 rfl (lv_at hl 0 rfl) ?_
    refine lv_if_eq (tgt := 26) hx hb dX11_places_16 (by decide) (fun c_150 => absurd c_150 (by decide)) (fun _ => ?_)
    have hG_151 := hG_3.pnum hs_9
    refine lv_aload_n hx hb dX11_places_19 rfl (lv_at hl 1 rfl) ?_
    obtain ⟨_, hc_152⟩ := hO.cell h_a (by decide) (ci := 11) rfl
    refine th_calli (va_runV (As := []) (rest := []) ⟨hx, hb, hml, hown, hts⟩ (n_readNumber l G y b0 σ E hO a h_a Bf hsr T hSt 0 jt hR0 (by omega)) (cwV 0 hts gX11_places_X11_readNumber rfl rfl rfl (by decide +kernel) ⟨Nat.le_of_ble_eq_true rfl, Nat.le_of_ble_eq_true rfl⟩) (th_PV hK hH rfl hc_152) rfl rfl hl.1 rfl (lv_room (Nat.le_of_ble_eq_true rfl)) dX11_places_20 ⟨Nat.le_of_ble_eq_true rfl, Nat.le_of_ble_eq_true rfl⟩) hS (fun z_155 σ_s_154 H locs rz_155 hw_153 hH hS => ?_)
    obtain ⟨hO9, hF9, hM9, hw_153⟩ := hw_153
    replace hM := hM.tu hM9 (by decide)
    replace hF := hF.tu hF9 (by decide)
    have e_156 : aF σ_s_154 (ad E a 1) = f1 := (hM9.a (by decide) (by decide)).trans ef1
    have e_157 : gI σ_s_154 a 11 = a110 := (hM9.i (by decide)).trans ea110
    have e_158 : gI σ_s_154 a 27 = a270 := (hM9.i (by decide)).trans ea270
    have e_159 : gI σ_s_154 a 25 = 0 := (hM9.i (by decide)).trans e_4
    replace hsr := hsr.mv hM9 (by decide) (by decide) (by decide) (by decide) (by decide)
    replace hO := hO9
    replace hw_153 : ((gI σ a 13 ≤ gI σ_s_154 a 13 ∧ gI σ_s_154 a 13 ≤ gI σ a 11 ∧ 0 ≤ gI σ_s_154 a 17 ∧ gI σ_s_154 a 17 ≤ gI σ_s_154 a 13) ∧ pgo (gI σ_s_154 a 19) (gI σ_s_154 a 14) (gI σ a 13) (gI σ_s_154 a 13) ∧ bdo (gI σ a 19) (gI σ_s_154 a 19)) ∧ ∃ c1 j1, RSt σ_s_154 a T c1 j1 ∧ (((0 : Int) ≠ 0 → c1 = 0 ∧ j1 = jt) ∧ ((0 : Int) = 0 → nuR T jt c1 j1)) := hw_153
    replace hV0 := hid.mk hV0
    have hn_160 := hw_153.2
    replace hw_153 := hw_153.1
    obtain ⟨cc_161, jj_162, hR_163, hn_160⟩ := hn_160
    have hVhR_163 := hR_163.1
    rcases Classical.em (cc_161 = 0) with h0_164 | h0_164
    · subst h0_164
      try simp only [ne_eq, not_true_eq_false, not_false_eq_true, false_implies, true_implies, true_and, and_true, eq_self, false_or, or_false, false_and, and_false] at hVhR_163
      have e_165 : gI σ_s_154 a 19 = 0 := by omega
      try simp only [ne_eq, not_true_eq_false, not_false_eq_true, false_implies, true_implies, true_and, and_true, eq_self, false_or, or_false, false_and, and_false] at hn_160
      have hle_166 : jt ≤ jj_162 := nuR.le (T := T) (c := 0) (by first | exact hn_160 | exact hn_160.2 rfl)
      have hG_167 := hG_151.num (c2 := 0) (j2 := jj_162) (fun h9 => absurd rfl h9) (fun _ => by first | exact hn_160 | exact hn_160.2 rfl)
      refine lv_goto (tgt := 27) hx hb dX11_places_23 (by decide) ?_
      refine lv_istore_n (lv' := [(2, .int (I z_155)), (1, .int (I 1)), (0, .ref a)]) hx hb dX11_places_27 rfl hl (by decide) rfl (fun ls hl => ?_)
      refine lv_aload_n hx hb dX11_places_28 rfl (lv_at hl 2 rfl) ?_
      refine lv_bipush (v := I 58) hx hb dX11_places_29 (by decide) ?_
      obtain ⟨_, hc_168⟩ := hO.cell h_a (by decide) (ci := 11) rfl
      refine th_calli (va_runV (As := [.int (I 58)]) (rest := []) ⟨hx, hb, hml, hown, hts⟩ (n_isMarked l G y b0 σ_s_154 E hO a h_a 58 (show rng 58 from (show rng 58 from ⟨by decide, by decide⟩)) (by omega) (by omega) Bf hsr T hSt 0 jj_162 hR_163 (by omega)) (cwV 1 hts gX11_places_X11_isMarked rfl rfl rfl (by decide +kernel) ⟨Nat.le_of_ble_eq_true rfl, Nat.le_of_ble_eq_true rfl⟩) (th_PV hK hH rfl hc_168) rfl rfl hl.1 rfl (lv_room (Nat.le_of_ble_eq_true rfl)) dX11_places_31 ⟨Nat.le_of_ble_eq_true rfl, Nat.le_of_ble_eq_true rfl⟩) hS (fun z_171 σ_s_170 H locs rz_171 hw_169 hH hS => ?_)
      obtain ⟨e9, bhw_169, hw_169⟩ := hw_169
      replace e9 := e9.symm
      subst e9
      replace hw_169 : (z_171 = 1 ∧ (0 : Int) = 0 ∧ tK T jj_162 = 58) ∨ (z_171 = 0 ∧ ((0 : Int) ≠ 0 ∨ tK T jj_162 ≠ 58)) := hw_169
      have hb_172 := hw_153.1
      replace hw_153 := hid.mk hw_153
      replace hn_160 := hid.mk hn_160
      obtain ⟨hw_169, -, hs_173⟩ | ⟨hw_169, hs_173⟩ := hw_169
      · subst hw_169
        refine lv_if_ne (tgt := 117) hx hb dX11_places_34 (by decide) (fun _ => ?_) (fun c_174 => absurd c_174 (by decide))
        refine lv_aload_n hx hb dX11_places_117 rfl (lv_at hl 2 rfl) ?_
        obtain ⟨_, hc_175⟩ := hO.cell h_a (by decide) (ci := 11) rfl
        refine th_callv (va_runV (As := []) (rest := []) ⟨hx, hb, hml, hown, hts⟩ (n_pass l G y b0 σ_s_154 E hO a h_a Bf hsr T hSt 0 jj_162 hR_163 (by omega) (by omega)) (cwV 0 hts gX11_places_X11_pass rfl rfl rfl (by decide +kernel) ⟨Nat.le_of_ble_eq_true rfl, Nat.le_of_ble_eq_true rfl⟩) (th_PV hK hH rfl hc_175) rfl rfl hl.1 rfl (lv_room (Nat.le_of_ble_eq_true rfl)) dX11_places_118 ⟨Nat.le_of_ble_eq_true rfl, Nat.le_of_ble_eq_true rfl⟩) hS (fun σ_s_177 H locs hw_176 hH hS => ?_)
        obtain ⟨hO9, hF9, hM9, hw_176⟩ := hw_176
        replace hM := hM.tu hM9 (by decide)
        replace hF := hF.tu hF9 (by decide)
        have e_178 : aF σ_s_177 (ad E a 1) = f1 := (hM9.a (by decide) (by decide)).trans e_156
        have e_179 : gI σ_s_177 a 11 = a110 := (hM9.i (by decide)).trans e_157
        have e_180 : gI σ_s_177 a 27 = a270 := (hM9.i (by decide)).trans e_158
        have e_181 : gI σ_s_177 a 25 = 0 := (hM9.i (by decide)).trans e_159
        have e_182 : gI σ_s_177 a 19 = 0 := (hM9.i (by decide)).trans e_165
        replace hsr := hsr.mv hM9 (by decide) (by decide) (by decide) (by decide) (by decide)
        replace hO := hO9
        replace hw_176 : ((gI σ_s_154 a 13 ≤ gI σ_s_177 a 13 ∧ gI σ_s_177 a 13 ≤ gI σ_s_154 a 11 ∧ 0 ≤ gI σ_s_177 a 17 ∧ gI σ_s_177 a 17 ≤ gI σ_s_177 a 13) ∧ pgo (gI σ_s_177 a 19) (gI σ_s_177 a 14) (gI σ_s_154 a 13) (gI σ_s_177 a 13) ∧ gI σ_s_177 a 19 = gI σ_s_154 a 19) ∧ ∃ c1 j1, RSt σ_s_177 a T c1 j1 ∧ (c1 = 0 ∧ ((0 : Int) ≠ 0 → j1 = jj_162) ∧ ((0 : Int) = 0 → j1 = jj_162 + 1)) := hw_176
        replace hVhR_163 := hid.mk hVhR_163
        have hn_183 := hw_176.2
        replace hw_176 := hw_176.1
        obtain ⟨cc_184, jj_185, hR_186, hn_183⟩ := hn_183
        have hVhR_186 := hR_186.1
        have h0_187 : cc_184 = 0 := by omega
        subst h0_187
        try simp only [ne_eq, not_true_eq_false, not_false_eq_true, false_implies, true_implies, true_and, and_true, eq_self, false_or, or_false, false_and, and_false] at hVhR_186
        have e_188 : gI σ_s_177 a 19 = 0 := by omega
        have hj_189 : jj_162 + 1 = jj_185 := by omega
        subst hj_189
        have hG_190 := hG_167.qcol hs_173
        refine lv_aload_n hx hb dX11_places_121 rfl (lv_at hl 2 rfl) ?_
        refine lv_bipush (v := I 93) hx hb dX11_places_122 (by decide) ?_
        obtain ⟨_, hc_191⟩ := hO.cell h_a (by decide) (ci := 11) rfl
        refine th_calli (va_runV (As := [.int (I 93)]) (rest := []) ⟨hx, hb, hml, hown, hts⟩ (n_isMarked l G y b0 σ_s_177 E hO a h_a 93 (show rng 93 from (show rng 93 from ⟨by decide, by decide⟩)) (by omega) (by omega) Bf hsr T hSt 0 (jj_162 + 1) hR_186 (by omega)) (cwV 1 hts gX11_places_X11_isMarked rfl rfl rfl (by decide +kernel) ⟨Nat.le_of_ble_eq_true rfl, Nat.le_of_ble_eq_true rfl⟩) (th_PV hK hH rfl hc_191) rfl rfl hl.1 rfl (lv_room (Nat.le_of_ble_eq_true rfl)) dX11_places_124 ⟨Nat.le_of_ble_eq_true rfl, Nat.le_of_ble_eq_true rfl⟩) hS (fun z_194 σ_s_193 H locs rz_194 hw_192 hH hS => ?_)
        obtain ⟨e9, bhw_192, hw_192⟩ := hw_192
        replace e9 := e9.symm
        subst e9
        replace hw_192 : (z_194 = 1 ∧ (0 : Int) = 0 ∧ tK T (jj_162 + 1) = 93) ∨ (z_194 = 0 ∧ ((0 : Int) ≠ 0 ∨ tK T (jj_162 + 1) ≠ 93)) := hw_192
        have hb_195 := hw_176.1
        replace hw_176 := hid.mk hw_176
        replace hn_183 := hid.mk hn_183
        obtain ⟨hw_192, -, hs_196⟩ | ⟨hw_192, hs_196⟩ := hw_192
        · subst hw_192
          refine lv_if_ne (tgt := 134) hx hb dX11_places_127 (by decide) (fun _ => ?_) (fun c_197 => absurd c_197 (by decide))
          refine lv_iconst (v := I 0) hx hb dX11_places_134 (by decide) ?_
          refine lv_istore_n (lv' := [(3, .int (I 0)), (2, .int (I z_155)), (1, .int (I 1)), (0, .ref a)]) hx hb dX11_places_135 rfl hl (by decide) rfl (fun ls hl => ?_)
          refine lv_iload_n hx hb dX11_places_136 rfl (lv_at hl 0 rfl) ?_
          refine lv_if_eq (tgt := 147) hx hb dX11_places_137 (by decide) (fun _ => ?_) (fun c_198 => absurd (by decide) c_198)
          have hG_199 := hG_190.rend hs_196
          refine lv_iconst (v := I 0) hx hb dX11_places_147 (by decide) ?_
          refine lv_istore (lv' := [(4, .int (I 0)), (3, .int (I 0)), (2, .int (I z_155)), (1, .int (I 1)), (0, .ref a)]) hx hb dX11_places_148 hl (by decide) rfl (fun ls hl => ?_)
          refine lv_aload_n hx hb dX11_places_150 rfl (lv_at hl 4 rfl) ?_
          refine lv_bipush (v := I 93) hx hb dX11_places_151 (by decide) ?_
          obtain ⟨_, hc_200⟩ := hO.cell h_a (by decide) (ci := 11) rfl
          refine th_callv (va_runV (As := [.int (I 93)]) (rest := []) ⟨hx, hb, hml, hown, hts⟩ (n_need l G y b0 σ_s_177 E hO a h_a 93 (show rng 93 from (show rng 93 from ⟨by decide, by decide⟩)) (by omega) (by omega) Bf hsr T hSt 0 (jj_162 + 1) hR_186 (by omega)) (cwV 1 hts gX11_places_X11_need rfl rfl rfl (by decide +kernel) ⟨Nat.le_of_ble_eq_true rfl, Nat.le_of_ble_eq_true rfl⟩) (th_PV hK hH rfl hc_200) rfl rfl hl.1 rfl (lv_room (Nat.le_of_ble_eq_true rfl)) dX11_places_153 ⟨Nat.le_of_ble_eq_true rfl, Nat.le_of_ble_eq_true rfl⟩) hS (fun σ_s_202 H locs hw_201 hH hS => ?_)
          obtain ⟨hO9, hF9, hM9, hw_201⟩ := hw_201
          replace hM := hM.tu hM9 (by decide)
          replace hF := hF.tu hF9 (by decide)
          have e_203 : aF σ_s_202 (ad E a 1) = f1 := (hM9.a (by decide) (by decide)).trans e_178
          have e_204 : gI σ_s_202 a 11 = a110 := (hM9.i (by decide)).trans e_179
          have e_205 : gI σ_s_202 a 27 = a270 := (hM9.i (by decide)).trans e_180
          have e_206 : gI σ_s_202 a 25 = 0 := (hM9.i (by decide)).trans e_181
          replace hsr := hsr.mv hM9 (by decide) (by decide) (by decide) (by decide) (by decide)
          replace hO := hO9
          replace hw_201 : ((gI σ_s_177 a 13 ≤ gI σ_s_202 a 13 ∧ gI σ_s_202 a 13 ≤ gI σ_s_177 a 11 ∧ 0 ≤ gI σ_s_202 a 17 ∧ gI σ_s_202 a 17 ≤ gI σ_s_202 a 13) ∧ pgo (gI σ_s_202 a 19) (gI σ_s_202 a 14) (gI σ_s_177 a 13) (gI σ_s_202 a 13) ∧ bdo (gI σ_s_177 a 19) (gI σ_s_202 a 19)) ∧ ∃ c1 j1, RSt σ_s_202 a T c1 j1 ∧ (((0 : Int) ≠ 0 → c1 = 0 ∧ j1 = (jj_162 + 1)) ∧ ((0 : Int) = 0 → (tK T (jj_162 + 1) = 93 ∧ c1 = 0 ∧ j1 = (jj_162 + 1) + 1) ∨ (tK T (jj_162 + 1) ≠ 93 ∧ c1 = 1 ∧ j1 = (jj_162 + 1)))) := hw_201
          replace hVhR_186 := hid.mk hVhR_186
          have hn_207 := hw_201.2
          replace hw_201 := hw_201.1
          obtain ⟨cc_208, jj_209, hR_210, hn_207⟩ := hn_207
          have hVhR_210 := hR_210.1
          rcases Classical.em (cc_208 = 0) with h0_211 | h0_211
          · subst h0_211
            try simp only [ne_eq, not_true_eq_false, not_false_eq_true, false_implies, true_implies, true_and, and_true, eq_self, false_or, or_false, false_and, and_false] at hVhR_210
            have e_212 : gI σ_s_202 a 19 = 0 := by omega
            try simp only [ne_eq, not_true_eq_false, not_false_eq_true, false_implies, true_implies, true_and, and_true, eq_self, false_or, or_false, false_and, and_false] at hn_207
            have hj_213 : (jj_162 + 1) + 1 = jj_209 := by omega
            subst hj_213
            have hG_214 := hG_199.need (c2 := 0) (j2 := ((jj_162 + 1) + 1)) (fun h9 => absurd rfl h9) (fun _ => by omega)
            refine lv_iconst (v := I 0) hx hb dX11_places_156 (by decide) ?_
            refine lv_istore (lv' := [(5, .int (I 0)), (4, .int (I 0)), (3, .int (I 0)), (2, .int (I z_155)), (1, .int (I 1)), (0, .ref a)]) hx hb dX11_places_157 hl (by decide) rfl (fun ls hl => ?_)
            refine lv_iload hx hb dX11_places_159 (lv_at hl 0 rfl) ?_
            refine lv_aload_n hx hb dX11_places_161 rfl (lv_at hl 5 rfl) ?_
            obtain ⟨_, hc_215⟩ := hO.cell h_a (by decide) (ci := 11) rfl
            refine th_calli (va_runV (As := []) (rest := [.int (I 0)]) ⟨hx, hb, hml, hown, hts⟩ (m_things l G y b0 σ_s_202 E hO a h_a f1 e_203) (cwV 0 hts gX11_places_X11_things rfl rfl rfl (by decide +kernel) ⟨Nat.le_of_ble_eq_true rfl, Nat.le_of_ble_eq_true rfl⟩) (th_PV hK hH rfl hc_215) rfl rfl hl.1 rfl (lv_room (Nat.le_of_ble_eq_true rfl)) dX11_places_162 ⟨Nat.le_of_ble_eq_true rfl, Nat.le_of_ble_eq_true rfl⟩) hS (fun z_218 σ_s_217 H locs rz_218 hw_216 hH hS => ?_)
            obtain ⟨e9, hw_216⟩ := hw_216
            replace e9 := e9.symm
            subst e9
            replace hw_216 : z_218 = mS f1 0 := hw_216
            have hb_219 := hw_201.1
            replace hw_201 := hid.mk hw_201
            replace hn_207 := hid.mk hn_207
            refine lv_icmp_ge (tgt := 278) hx hb dX11_places_165 (by decide) (fun c_220 => ?_) (fun c_220 => ?_)
            · replace c_220 := (I_le (a := z_218) (b := 0) rz_218 (show rng 0 from ⟨by decide, by decide⟩)).mp c_220
              exact th_vret hx hb hr hlocks hH hS ⟨hO, hF, hM, ⟨by omega, 0, ((jj_162 + 1) + 1), hR_210, ⟨(fun h9 => absurd rfl h9), fun _ => ⟨by omega, hG_214.ec rfl rfl (fun _ => by omega)⟩, fun _ => by omega⟩⟩⟩ dX11_places_278
            · replace c_220 := mt (I_le (a := z_218) (b := 0) rz_218 (show rng 0 from ⟨by decide, by decide⟩)).mpr c_220
              refine lv_aload_n hx hb dX11_places_168 rfl (lv_at hl 5 rfl) ?_
              refine ok.getIc hO h_a (by decide) k13_25 e_206 (fun _ _ he hv kk => th_get (ci := 11) (C := RX11) (T := TX11) (N := 66) hx hb hts inX11 hown hK hH he rfl 25 (by decide) fl0 hv dX11_places_169 kk) ?_
              refine lv_if_eq (tgt := 278) hx hb dX11_places_172 (by decide) (fun _ => ?_) (fun c_221 => absurd (by decide) c_221)
              exact th_vret hx hb hr hlocks hH hS ⟨hO, hF, hM, ⟨by omega, 0, ((jj_162 + 1) + 1), hR_210, ⟨(fun h9 => absurd rfl h9), fun _ => ⟨by omega, hG_214.ec rfl rfl (fun _ => by omega)⟩, fun _ => by omega⟩⟩⟩ dX11_places_278
          · try simp only [h0_211, ne_eq, not_true_eq_false, not_false_eq_true, false_implies, true_implies, true_and, and_true, eq_self, false_or, or_false, false_and, and_false] at hVhR_210
            try simp only [h0_211, ne_eq, not_true_eq_false, not_false_eq_true, false_implies, true_implies, true_and, and_true, eq_self, false_or, or_false, false_and, and_false] at hn_207
            have hj_222 : jj_162 + 1 = jj_209 := by omega
            subst hj_222
            have hG_223 := hG_199.need (c2 := cc_208) (j2 := (jj_162 + 1)) (fun h9 => absurd rfl h9) (fun _ => by omega)
            refine lv_iconst (v := I 0) hx hb dX11_places_156 (by decide) ?_
            refine lv_istore (lv' := [(5, .int (I 0)), (4, .int (I 0)), (3, .int (I 0)), (2, .int (I z_155)), (1, .int (I 1)), (0, .ref a)]) hx hb dX11_places_157 hl (by decide) rfl (fun ls hl => ?_)
            refine lv_iload hx hb dX11_places_159 (lv_at hl 0 rfl) ?_
            refine lv_aload_n hx hb dX11_places_161 rfl (lv_at hl 5 rfl) ?_
            obtain ⟨_, hc_224⟩ := hO.cell h_a (by decide) (ci := 11) rfl
            refine th_calli (va_runV (As := []) (rest := [.int (I 0)]) ⟨hx, hb, hml, hown, hts⟩ (m_things l G y b0 σ_s_202 E hO a h_a f1 e_203) (cwV 0 hts gX11_places_X11_things rfl rfl rfl (by decide +kernel) ⟨Nat.le_of_ble_eq_true rfl, Nat.le_of_ble_eq_true rfl⟩) (th_PV hK hH rfl hc_224) rfl rfl hl.1 rfl (lv_room (Nat.le_of_ble_eq_true rfl)) dX11_places_162 ⟨Nat.le_of_ble_eq_true rfl, Nat.le_of_ble_eq_true rfl⟩) hS (fun z_227 σ_s_226 H locs rz_227 hw_225 hH hS => ?_)
            obtain ⟨e9, hw_225⟩ := hw_225
            replace e9 := e9.symm
            subst e9
            replace hw_225 : z_227 = mS f1 0 := hw_225
            have hb_228 := hw_201.1
            replace hw_201 := hid.mk hw_201
            replace hn_207 := hid.mk hn_207
            refine lv_icmp_ge (tgt := 278) hx hb dX11_places_165 (by decide) (fun c_229 => ?_) (fun c_229 => ?_)
            · replace c_229 := (I_le (a := z_227) (b := 0) rz_227 (show rng 0 from ⟨by decide, by decide⟩)).mp c_229
              exact th_vret hx hb hr hlocks hH hS ⟨hO, hF, hM, ⟨by omega, cc_208, (jj_162 + 1), hR_210, ⟨(fun h9 => absurd rfl h9), fun _ => ⟨by omega, hG_223.was h0_211⟩, fun h9 => absurd h9 h0_211⟩⟩⟩ dX11_places_278
            · replace c_229 := mt (I_le (a := z_227) (b := 0) rz_227 (show rng 0 from ⟨by decide, by decide⟩)).mpr c_229
              refine lv_aload_n hx hb dX11_places_168 rfl (lv_at hl 5 rfl) ?_
              refine ok.getIc hO h_a (by decide) k13_25 e_206 (fun _ _ he hv kk => th_get (ci := 11) (C := RX11) (T := TX11) (N := 66) hx hb hts inX11 hown hK hH he rfl 25 (by decide) fl0 hv dX11_places_169 kk) ?_
              refine lv_if_eq (tgt := 278) hx hb dX11_places_172 (by decide) (fun _ => ?_) (fun c_230 => absurd (by decide) c_230)
              exact th_vret hx hb hr hlocks hH hS ⟨hO, hF, hM, ⟨by omega, cc_208, (jj_162 + 1), hR_210, ⟨(fun h9 => absurd rfl h9), fun _ => ⟨by omega, hG_223.was h0_211⟩, fun h9 => absurd h9 h0_211⟩⟩⟩ dX11_places_278
        · replace hs_196 := hs_196.resolve_left (fun h9 => h9 rfl)
          subst hw_192
          refine lv_if_ne (tgt := 134) hx hb dX11_places_127 (by decide) (fun c_231 => absurd (by decide) c_231) (fun _ => ?_)
          refine lv_iconst (v := I 1) hx hb dX11_places_130 (by decide) ?_
          refine lv_goto (tgt := 135) hx hb dX11_places_131 (by decide) ?_
          refine lv_istore_n (lv' := [(3, .int (I 1)), (2, .int (I z_155)), (1, .int (I 1)), (0, .ref a)]) hx hb dX11_places_135 rfl hl (by decide) rfl (fun ls hl => ?_)
          refine lv_iload_n hx hb dX11_places_136 rfl (lv_at hl 0 rfl) ?_
          refine lv_if_eq (tgt := 147) hx hb dX11_places_137 (by decide) (fun c_232 => absurd c_232 (by decide)) (fun _ => ?_)
          have hG_233 := hG_190.rnum hs_196
          refine lv_aload_n hx hb dX11_places_140 rfl (lv_at hl 3 rfl) ?_
          obtain ⟨_, hc_234⟩ := hO.cell h_a (by decide) (ci := 11) rfl
          refine th_calli (va_runV (As := []) (rest := []) ⟨hx, hb, hml, hown, hts⟩ (n_readNumber l G y b0 σ_s_177 E hO a h_a Bf hsr T hSt 0 (jj_162 + 1) hR_186 (by omega)) (cwV 0 hts gX11_places_X11_readNumber rfl rfl rfl (by decide +kernel) ⟨Nat.le_of_ble_eq_true rfl, Nat.le_of_ble_eq_true rfl⟩) (th_PV hK hH rfl hc_234) rfl rfl hl.1 rfl (lv_room (Nat.le_of_ble_eq_true rfl)) dX11_places_141 ⟨Nat.le_of_ble_eq_true rfl, Nat.le_of_ble_eq_true rfl⟩) hS (fun z_237 σ_s_236 H locs rz_237 hw_235 hH hS => ?_)
          obtain ⟨hO9, hF9, hM9, hw_235⟩ := hw_235
          replace hM := hM.tu hM9 (by decide)
          replace hF := hF.tu hF9 (by decide)
          have e_238 : aF σ_s_236 (ad E a 1) = f1 := (hM9.a (by decide) (by decide)).trans e_178
          have e_239 : gI σ_s_236 a 11 = a110 := (hM9.i (by decide)).trans e_179
          have e_240 : gI σ_s_236 a 27 = a270 := (hM9.i (by decide)).trans e_180
          have e_241 : gI σ_s_236 a 25 = 0 := (hM9.i (by decide)).trans e_181
          replace hsr := hsr.mv hM9 (by decide) (by decide) (by decide) (by decide) (by decide)
          replace hO := hO9
          replace hw_235 : ((gI σ_s_177 a 13 ≤ gI σ_s_236 a 13 ∧ gI σ_s_236 a 13 ≤ gI σ_s_177 a 11 ∧ 0 ≤ gI σ_s_236 a 17 ∧ gI σ_s_236 a 17 ≤ gI σ_s_236 a 13) ∧ pgo (gI σ_s_236 a 19) (gI σ_s_236 a 14) (gI σ_s_177 a 13) (gI σ_s_236 a 13) ∧ bdo (gI σ_s_177 a 19) (gI σ_s_236 a 19)) ∧ ∃ c1 j1, RSt σ_s_236 a T c1 j1 ∧ (((0 : Int) ≠ 0 → c1 = 0 ∧ j1 = (jj_162 + 1)) ∧ ((0 : Int) = 0 → nuR T (jj_162 + 1) c1 j1)) := hw_235
          replace hVhR_186 := hid.mk hVhR_186
          have hn_242 := hw_235.2
          replace hw_235 := hw_235.1
          obtain ⟨cc_243, jj_244, hR_245, hn_242⟩ := hn_242
          have hVhR_245 := hR_245.1
          rcases Classical.em (cc_243 = 0) with h0_246 | h0_246
          · subst h0_246
            try simp only [ne_eq, not_true_eq_false, not_false_eq_true, false_implies, true_implies, true_and, and_true, eq_self, false_or, or_false, false_and, and_false] at hVhR_245
            have e_247 : gI σ_s_236 a 19 = 0 := by omega
            try simp only [ne_eq, not_true_eq_false, not_false_eq_true, false_implies, true_implies, true_and, and_true, eq_self, false_or, or_false, false_and, and_false] at hn_242
            have hle_248 : (jj_162 + 1) ≤ jj_244 := nuR.le (T := T) (c := 0) (by first | exact hn_242 | exact hn_242.2 rfl)
            have hG_249 := hG_233.num (c2 := 0) (j2 := jj_244) (fun h9 => absurd rfl h9) (fun _ => by first | exact hn_242 | exact hn_242.2 rfl)
            refine lv_goto (tgt := 148) hx hb dX11_places_144 (by decide) ?_
            refine lv_istore (lv' := [(4, .int (I z_237)), (3, .int (I 1)), (2, .int (I z_155)), (1, .int (I 1)), (0, .ref a)]) hx hb dX11_places_148 hl (by decide) rfl (fun ls hl => ?_)
            refine lv_aload_n hx hb dX11_places_150 rfl (lv_at hl 4 rfl) ?_
            refine lv_bipush (v := I 93) hx hb dX11_places_151 (by decide) ?_
            obtain ⟨_, hc_250⟩ := hO.cell h_a (by decide) (ci := 11) rfl
            refine th_callv (va_runV (As := [.int (I 93)]) (rest := []) ⟨hx, hb, hml, hown, hts⟩ (n_need l G y b0 σ_s_236 E hO a h_a 93 (show rng 93 from (show rng 93 from ⟨by decide, by decide⟩)) (by omega) (by omega) Bf hsr T hSt 0 jj_244 hR_245 (by omega)) (cwV 1 hts gX11_places_X11_need rfl rfl rfl (by decide +kernel) ⟨Nat.le_of_ble_eq_true rfl, Nat.le_of_ble_eq_true rfl⟩) (th_PV hK hH rfl hc_250) rfl rfl hl.1 rfl (lv_room (Nat.le_of_ble_eq_true rfl)) dX11_places_153 ⟨Nat.le_of_ble_eq_true rfl, Nat.le_of_ble_eq_true rfl⟩) hS (fun σ_s_252 H locs hw_251 hH hS => ?_)
            obtain ⟨hO9, hF9, hM9, hw_251⟩ := hw_251
            replace hM := hM.tu hM9 (by decide)
            replace hF := hF.tu hF9 (by decide)
            have e_253 : aF σ_s_252 (ad E a 1) = f1 := (hM9.a (by decide) (by decide)).trans e_238
            have e_254 : gI σ_s_252 a 11 = a110 := (hM9.i (by decide)).trans e_239
            have e_255 : gI σ_s_252 a 27 = a270 := (hM9.i (by decide)).trans e_240
            have e_256 : gI σ_s_252 a 25 = 0 := (hM9.i (by decide)).trans e_241
            replace hsr := hsr.mv hM9 (by decide) (by decide) (by decide) (by decide) (by decide)
            replace hO := hO9
            replace hw_251 : ((gI σ_s_236 a 13 ≤ gI σ_s_252 a 13 ∧ gI σ_s_252 a 13 ≤ gI σ_s_236 a 11 ∧ 0 ≤ gI σ_s_252 a 17 ∧ gI σ_s_252 a 17 ≤ gI σ_s_252 a 13) ∧ pgo (gI σ_s_252 a 19) (gI σ_s_252 a 14) (gI σ_s_236 a 13) (gI σ_s_252 a 13) ∧ bdo (gI σ_s_236 a 19) (gI σ_s_252 a 19)) ∧ ∃ c1 j1, RSt σ_s_252 a T c1 j1 ∧ (((0 : Int) ≠ 0 → c1 = 0 ∧ j1 = jj_244) ∧ ((0 : Int) = 0 → (tK T jj_244 = 93 ∧ c1 = 0 ∧ j1 = jj_244 + 1) ∨ (tK T jj_244 ≠ 93 ∧ c1 = 1 ∧ j1 = jj_244))) := hw_251
            have hb_257 := hw_235.1
            replace hw_235 := hid.mk hw_235
            replace hn_242 := hid.mk hn_242
            replace hVhR_245 := hid.mk hVhR_245
            have hn_258 := hw_251.2
            replace hw_251 := hw_251.1
            obtain ⟨cc_259, jj_260, hR_261, hn_258⟩ := hn_258
            have hVhR_261 := hR_261.1
            rcases Classical.em (cc_259 = 0) with h0_262 | h0_262
            · subst h0_262
              try simp only [ne_eq, not_true_eq_false, not_false_eq_true, false_implies, true_implies, true_and, and_true, eq_self, false_or, or_false, false_and, and_false] at hVhR_261
              have e_263 : gI σ_s_252 a 19 = 0 := by omega
              try simp only [ne_eq, not_true_eq_false, not_false_eq_true, false_implies, true_implies, true_and, and_true, eq_self, false_or, or_false, false_and, and_false] at hn_258
              have hj_264 : jj_244 + 1 = jj_260 := by omega
              subst hj_264
              have hG_265 := hG_249.need (c2 := 0) (j2 := (jj_244 + 1)) (fun h9 => absurd rfl h9) (fun _ => by omega)
              refine lv_iconst (v := I 0) hx hb dX11_places_156 (by decide) ?_
              refine lv_istore (lv' := [(5, .int (I 0)), (4, .int (I z_237)), (3, .int (I 1)), (2, .int (I z_155)), (1, .int (I 1)), (0, .ref a)]) hx hb dX11_places_157 hl (by decide) rfl (fun ls hl => ?_)
              refine lv_iload hx hb dX11_places_159 (lv_at hl 0 rfl) ?_
              refine lv_aload_n hx hb dX11_places_161 rfl (lv_at hl 5 rfl) ?_
              obtain ⟨_, hc_266⟩ := hO.cell h_a (by decide) (ci := 11) rfl
              refine th_calli (va_runV (As := []) (rest := [.int (I 0)]) ⟨hx, hb, hml, hown, hts⟩ (m_things l G y b0 σ_s_252 E hO a h_a f1 e_253) (cwV 0 hts gX11_places_X11_things rfl rfl rfl (by decide +kernel) ⟨Nat.le_of_ble_eq_true rfl, Nat.le_of_ble_eq_true rfl⟩) (th_PV hK hH rfl hc_266) rfl rfl hl.1 rfl (lv_room (Nat.le_of_ble_eq_true rfl)) dX11_places_162 ⟨Nat.le_of_ble_eq_true rfl, Nat.le_of_ble_eq_true rfl⟩) hS (fun z_269 σ_s_268 H locs rz_269 hw_267 hH hS => ?_)
              obtain ⟨e9, hw_267⟩ := hw_267
              replace e9 := e9.symm
              subst e9
              replace hw_267 : z_269 = mS f1 0 := hw_267
              have hb_270 := hw_251.1
              replace hw_251 := hid.mk hw_251
              replace hn_258 := hid.mk hn_258
              refine lv_icmp_ge (tgt := 278) hx hb dX11_places_165 (by decide) (fun c_271 => ?_) (fun c_271 => ?_)
              · replace c_271 := (I_le (a := z_269) (b := 0) rz_269 (show rng 0 from ⟨by decide, by decide⟩)).mp c_271
                exact th_vret hx hb hr hlocks hH hS ⟨hO, hF, hM, ⟨by omega, 0, (jj_244 + 1), hR_261, ⟨(fun h9 => absurd rfl h9), fun _ => ⟨by omega, hG_265.ec rfl rfl (fun _ => by omega)⟩, fun _ => by omega⟩⟩⟩ dX11_places_278
              · replace c_271 := mt (I_le (a := z_269) (b := 0) rz_269 (show rng 0 from ⟨by decide, by decide⟩)).mpr c_271
                refine lv_aload_n hx hb dX11_places_168 rfl (lv_at hl 5 rfl) ?_
                refine ok.getIc hO h_a (by decide) k13_25 e_256 (fun _ _ he hv kk => th_get (ci := 11) (C := RX11) (T := TX11) (N := 66) hx hb hts inX11 hown hK hH he rfl 25 (by decide) fl0 hv dX11_places_169 kk) ?_
                refine lv_if_eq (tgt := 278) hx hb dX11_places_172 (by decide) (fun _ => ?_) (fun c_272 => absurd (by decide) c_272)
                exact th_vret hx hb hr hlocks hH hS ⟨hO, hF, hM, ⟨by omega, 0, (jj_244 + 1), hR_261, ⟨(fun h9 => absurd rfl h9), fun _ => ⟨by omega, hG_265.ec rfl rfl (fun _ => by omega)⟩, fun _ => by omega⟩⟩⟩ dX11_places_278
            · try simp only [h0_262, ne_eq, not_true_eq_false, not_false_eq_true, false_implies, true_implies, true_and, and_true, eq_self, false_or, or_false, false_and, and_false] at hVhR_261
              try simp only [h0_262, ne_eq, not_true_eq_false, not_false_eq_true, false_implies, true_implies, true_and, and_true, eq_self, false_or, or_false, false_and, and_false] at hn_258
              have hj_273 : jj_244 = jj_260 := by omega
              subst hj_273
              have hG_274 := hG_249.need (c2 := cc_259) (j2 := jj_244) (fun h9 => absurd rfl h9) (fun _ => by omega)
              refine lv_iconst (v := I 0) hx hb dX11_places_156 (by decide) ?_
              refine lv_istore (lv' := [(5, .int (I 0)), (4, .int (I z_237)), (3, .int (I 1)), (2, .int (I z_155)), (1, .int (I 1)), (0, .ref a)]) hx hb dX11_places_157 hl (by decide) rfl (fun ls hl => ?_)
              refine lv_iload hx hb dX11_places_159 (lv_at hl 0 rfl) ?_
              refine lv_aload_n hx hb dX11_places_161 rfl (lv_at hl 5 rfl) ?_
              obtain ⟨_, hc_275⟩ := hO.cell h_a (by decide) (ci := 11) rfl
              refine th_calli (va_runV (As := []) (rest := [.int (I 0)]) ⟨hx, hb, hml, hown, hts⟩ (m_things l G y b0 σ_s_252 E hO a h_a f1 e_253) (cwV 0 hts gX11_places_X11_things rfl rfl rfl (by decide +kernel) ⟨Nat.le_of_ble_eq_true rfl, Nat.le_of_ble_eq_true rfl⟩) (th_PV hK hH rfl hc_275) rfl rfl hl.1 rfl (lv_room (Nat.le_of_ble_eq_true rfl)) dX11_places_162 ⟨Nat.le_of_ble_eq_true rfl, Nat.le_of_ble_eq_true rfl⟩) hS (fun z_278 σ_s_277 H locs rz_278 hw_276 hH hS => ?_)
              obtain ⟨e9, hw_276⟩ := hw_276
              replace e9 := e9.symm
              subst e9
              replace hw_276 : z_278 = mS f1 0 := hw_276
              have hb_279 := hw_251.1
              replace hw_251 := hid.mk hw_251
              replace hn_258 := hid.mk hn_258
              refine lv_icmp_ge (tgt := 278) hx hb dX11_places_165 (by decide) (fun c_280 => ?_) (fun c_280 => ?_)
              · replace c_280 := (I_le (a := z_278) (b := 0) rz_278 (show rng 0 from ⟨by decide, by decide⟩)).mp c_280
                exact th_vret hx hb hr hlocks hH hS ⟨hO, hF, hM, ⟨by omega, cc_259, jj_244, hR_261, ⟨(fun h9 => absurd rfl h9), fun _ => ⟨by omega, hG_274.was h0_262⟩, fun h9 => absurd h9 h0_262⟩⟩⟩ dX11_places_278
              · replace c_280 := mt (I_le (a := z_278) (b := 0) rz_278 (show rng 0 from ⟨by decide, by decide⟩)).mpr c_280
                refine lv_aload_n hx hb dX11_places_168 rfl (lv_at hl 5 rfl) ?_
                refine ok.getIc hO h_a (by decide) k13_25 e_256 (fun _ _ he hv kk => th_get (ci := 11) (C := RX11) (T := TX11) (N := 66) hx hb hts inX11 hown hK hH he rfl 25 (by decide) fl0 hv dX11_places_169 kk) ?_
                refine lv_if_eq (tgt := 278) hx hb dX11_places_172 (by decide) (fun _ => ?_) (fun c_281 => absurd (by decide) c_281)
                exact th_vret hx hb hr hlocks hH hS ⟨hO, hF, hM, ⟨by omega, cc_259, jj_244, hR_261, ⟨(fun h9 => absurd rfl h9), fun _ => ⟨by omega, hG_274.was h0_262⟩, fun h9 => absurd h9 h0_262⟩⟩⟩ dX11_places_278
          · try simp only [h0_246, ne_eq, not_true_eq_false, not_false_eq_true, false_implies, true_implies, true_and, and_true, eq_self, false_or, or_false, false_and, and_false] at hVhR_245
            try simp only [h0_246, ne_eq, not_true_eq_false, not_false_eq_true, false_implies, true_implies, true_and, and_true, eq_self, false_or, or_false, false_and, and_false] at hn_242
            have hle_282 : (jj_162 + 1) ≤ jj_244 := nuR.le (T := T) (c := cc_243) (by first | exact hn_242 | exact hn_242.2 rfl)
            have hG_283 := hG_233.num (c2 := cc_243) (j2 := jj_244) (fun h9 => absurd rfl h9) (fun _ => by first | exact hn_242 | exact hn_242.2 rfl)
            refine lv_goto (tgt := 148) hx hb dX11_places_144 (by decide) ?_
            refine lv_istore (lv' := [(4, .int (I z_237)), (3, .int (I 1)), (2, .int (I z_155)), (1, .int (I 1)), (0, .ref a)]) hx hb dX11_places_148 hl (by decide) rfl (fun ls hl => ?_)
            refine lv_aload_n hx hb dX11_places_150 rfl (lv_at hl 4 rfl) ?_
            refine lv_bipush (v := I 93) hx hb dX11_places_151 (by decide) ?_
            obtain ⟨_, hc_284⟩ := hO.cell h_a (by decide) (ci := 11) rfl
            refine th_callv (va_runV (As := [.int (I 93)]) (rest := []) ⟨hx, hb, hml, hown, hts⟩ (n_need l G y b0 σ_s_236 E hO a h_a 93 (show rng 93 from (show rng 93 from ⟨by decide, by decide⟩)) (by omega) (by omega) Bf hsr T hSt cc_243 jj_244 hR_245 (by omega)) (cwV 1 hts gX11_places_X11_need rfl rfl rfl (by decide +kernel) ⟨Nat.le_of_ble_eq_true rfl, Nat.le_of_ble_eq_true rfl⟩) (th_PV hK hH rfl hc_284) rfl rfl hl.1 rfl (lv_room (Nat.le_of_ble_eq_true rfl)) dX11_places_153 ⟨Nat.le_of_ble_eq_true rfl, Nat.le_of_ble_eq_true rfl⟩) hS (fun σ_s_286 H locs hw_285 hH hS => ?_)
            obtain ⟨hO9, hF9, hM9, hw_285⟩ := hw_285
            replace hM := hM.tu hM9 (by decide)
            replace hF := hF.tu hF9 (by decide)
            have e_287 : aF σ_s_286 (ad E a 1) = f1 := (hM9.a (by decide) (by decide)).trans e_238
            have e_288 : gI σ_s_286 a 11 = a110 := (hM9.i (by decide)).trans e_239
            have e_289 : gI σ_s_286 a 27 = a270 := (hM9.i (by decide)).trans e_240
            have e_290 : gI σ_s_286 a 25 = 0 := (hM9.i (by decide)).trans e_241
            replace hsr := hsr.mv hM9 (by decide) (by decide) (by decide) (by decide) (by decide)
            replace hO := hO9
            replace hw_285 : ((gI σ_s_236 a 13 ≤ gI σ_s_286 a 13 ∧ gI σ_s_286 a 13 ≤ gI σ_s_236 a 11 ∧ 0 ≤ gI σ_s_286 a 17 ∧ gI σ_s_286 a 17 ≤ gI σ_s_286 a 13) ∧ pgo (gI σ_s_286 a 19) (gI σ_s_286 a 14) (gI σ_s_236 a 13) (gI σ_s_286 a 13) ∧ bdo (gI σ_s_236 a 19) (gI σ_s_286 a 19)) ∧ ∃ c1 j1, RSt σ_s_286 a T c1 j1 ∧ ((cc_243 ≠ 0 → c1 = cc_243 ∧ j1 = jj_244) ∧ (cc_243 = 0 → (tK T jj_244 = 93 ∧ c1 = 0 ∧ j1 = jj_244 + 1) ∨ (tK T jj_244 ≠ 93 ∧ c1 = 1 ∧ j1 = jj_244))) := hw_285
            have hb_291 := hw_235.1
            replace hw_235 := hid.mk hw_235
            replace hn_242 := hid.mk hn_242
            replace hVhR_245 := hid.mk hVhR_245
            have hn_292 := hw_285.2
            replace hw_285 := hw_285.1
            obtain ⟨cc_293, jj_294, hR_295, hn_292⟩ := hn_292
            have hVhR_295 := hR_295.1
            try simp only [h0_246, ne_eq, not_true_eq_false, not_false_eq_true, false_implies, true_implies, true_and, and_true, eq_self, false_or, or_false, false_and, and_false] at hn_292
            have h0_296 : ¬ cc_293 = 0 := by omega
            try simp only [h0_296, ne_eq, not_true_eq_false, not_false_eq_true, false_implies, true_implies, true_and, and_true, eq_self, false_or, or_false, false_and, and_false] at hVhR_295
            try simp only [h0_246, h0_296, ne_eq, not_true_eq_false, not_false_eq_true, false_implies, true_implies, true_and, and_true, eq_self, false_or, or_false, false_and, and_false] at hn_292
            have hc_297 : cc_243 = cc_293 := by omega
            subst hc_297
            have hj_298 : jj_244 = jj_294 := by omega
            subst hj_298
            refine lv_iconst (v := I 0) hx hb dX11_places_156 (by decide) ?_
            refine lv_istore (lv' := [(5, .int (I 0)), (4, .int (I z_237)), (3, .int (I 1)), (2, .int (I z_155)), (1, .int (I 1)), (0, .ref a)]) hx hb dX11_places_157 hl (by decide) rfl (fun ls hl => ?_)
            refine lv_iload hx hb dX11_places_159 (lv_at hl 0 rfl) ?_
            refine lv_aload_n hx hb dX11_places_161 rfl (lv_at hl 5 rfl) ?_
            obtain ⟨_, hc_299⟩ := hO.cell h_a (by decide) (ci := 11) rfl
            refine th_calli (va_runV (As := []) (rest := [.int (I 0)]) ⟨hx, hb, hml, hown, hts⟩ (m_things l G y b0 σ_s_286 E hO a h_a f1 e_287) (cwV 0 hts gX11_places_X11_things rfl rfl rfl (by decide +kernel) ⟨Nat.le_of_ble_eq_true rfl, Nat.le_of_ble_eq_true rfl⟩) (th_PV hK hH rfl hc_299) rfl rfl hl.1 rfl (lv_room (Nat.le_of_ble_eq_true rfl)) dX11_places_162 ⟨Nat.le_of_ble_eq_true rfl, Nat.le_of_ble_eq_true rfl⟩) hS (fun z_302 σ_s_301 H locs rz_302 hw_300 hH hS => ?_)
            obtain ⟨e9, hw_300⟩ := hw_300
            replace e9 := e9.symm
            subst e9
            replace hw_300 : z_302 = mS f1 0 := hw_300
            have hb_303 := hw_285.1
            replace hw_285 := hid.mk hw_285
            replace hn_292 := hid.mk hn_292
            refine lv_icmp_ge (tgt := 278) hx hb dX11_places_165 (by decide) (fun c_304 => ?_) (fun c_304 => ?_)
            · replace c_304 := (I_le (a := z_302) (b := 0) rz_302 (show rng 0 from ⟨by decide, by decide⟩)).mp c_304
              exact th_vret hx hb hr hlocks hH hS ⟨hO, hF, hM, ⟨by omega, cc_243, jj_244, hR_295, ⟨(fun h9 => absurd rfl h9), fun _ => ⟨by omega, hG_283.was h0_296⟩, fun h9 => absurd h9 h0_296⟩⟩⟩ dX11_places_278
            · replace c_304 := mt (I_le (a := z_302) (b := 0) rz_302 (show rng 0 from ⟨by decide, by decide⟩)).mpr c_304
              refine lv_aload_n hx hb dX11_places_168 rfl (lv_at hl 5 rfl) ?_
              refine ok.getIc hO h_a (by decide) k13_25 e_290 (fun _ _ he hv kk => th_get (ci := 11) (C := RX11) (T := TX11) (N := 66) hx hb hts inX11 hown hK hH he rfl 25 (by decide) fl0 hv dX11_places_169 kk) ?_
              refine lv_if_eq (tgt := 278) hx hb dX11_places_172 (by decide) (fun _ => ?_) (fun c_305 => absurd (by decide) c_305)
              exact th_vret hx hb hr hlocks hH hS ⟨hO, hF, hM, ⟨by omega, cc_243, jj_244, hR_295, ⟨(fun h9 => absurd rfl h9), fun _ => ⟨by omega, hG_283.was h0_296⟩, fun h9 => absurd h9 h0_296⟩⟩⟩ dX11_places_278
      · replace hs_173 := hs_173.resolve_left (fun h9 => h9 rfl)
        subst hw_169
        refine lv_if_ne (tgt := 117) hx hb dX11_places_34 (by decide) (fun c_306 => absurd (by decide) c_306) (fun _ => ?_)
        have hG_307 := hG_167.qend (fun _ => hs_173)
        refine lv_aload_n hx hb dX11_places_37 rfl (lv_at hl 2 rfl) ?_
        refine lv_bipush (v := I 93) hx hb dX11_places_38 (by decide) ?_
        obtain ⟨_, hc_308⟩ := hO.cell h_a (by decide) (ci := 11) rfl
        refine th_callv (va_runV (As := [.int (I 93)]) (rest := []) ⟨hx, hb, hml, hown, hts⟩ (n_need l G y b0 σ_s_154 E hO a h_a 93 (show rng 93 from (show rng 93 from ⟨by decide, by decide⟩)) (by omega) (by omega) Bf hsr T hSt 0 jj_162 hR_163 (by omega)) (cwV 1 hts gX11_places_X11_need rfl rfl rfl (by decide +kernel) ⟨Nat.le_of_ble_eq_true rfl, Nat.le_of_ble_eq_true rfl⟩) (th_PV hK hH rfl hc_308) rfl rfl hl.1 rfl (lv_room (Nat.le_of_ble_eq_true rfl)) dX11_places_40 ⟨Nat.le_of_ble_eq_true rfl, Nat.le_of_ble_eq_true rfl⟩) hS (fun σ_s_310 H locs hw_309 hH hS => ?_)
        obtain ⟨hO9, hF9, hM9, hw_309⟩ := hw_309
        replace hM := hM.tu hM9 (by decide)
        replace hF := hF.tu hF9 (by decide)
        have e_311 : aF σ_s_310 (ad E a 1) = f1 := (hM9.a (by decide) (by decide)).trans e_156
        have e_312 : gI σ_s_310 a 11 = a110 := (hM9.i (by decide)).trans e_157
        have e_313 : gI σ_s_310 a 27 = a270 := (hM9.i (by decide)).trans e_158
        have e_314 : gI σ_s_310 a 25 = 0 := (hM9.i (by decide)).trans e_159
        replace hsr := hsr.mv hM9 (by decide) (by decide) (by decide) (by decide) (by decide)
        replace hO := hO9
        replace hw_309 : ((gI σ_s_154 a 13 ≤ gI σ_s_310 a 13 ∧ gI σ_s_310 a 13 ≤ gI σ_s_154 a 11 ∧ 0 ≤ gI σ_s_310 a 17 ∧ gI σ_s_310 a 17 ≤ gI σ_s_310 a 13) ∧ pgo (gI σ_s_310 a 19) (gI σ_s_310 a 14) (gI σ_s_154 a 13) (gI σ_s_310 a 13) ∧ bdo (gI σ_s_154 a 19) (gI σ_s_310 a 19)) ∧ ∃ c1 j1, RSt σ_s_310 a T c1 j1 ∧ (((0 : Int) ≠ 0 → c1 = 0 ∧ j1 = jj_162) ∧ ((0 : Int) = 0 → (tK T jj_162 = 93 ∧ c1 = 0 ∧ j1 = jj_162 + 1) ∨ (tK T jj_162 ≠ 93 ∧ c1 = 1 ∧ j1 = jj_162))) := hw_309
        replace hVhR_163 := hid.mk hVhR_163
        have hn_315 := hw_309.2
        replace hw_309 := hw_309.1
        obtain ⟨cc_316, jj_317, hR_318, hn_315⟩ := hn_315
        have hVhR_318 := hR_318.1
        rcases Classical.em (cc_316 = 0) with h0_319 | h0_319
        · subst h0_319
          try simp only [ne_eq, not_true_eq_false, not_false_eq_true, false_implies, true_implies, true_and, and_true, eq_self, false_or, or_false, false_and, and_false] at hVhR_318
          have e_320 : gI σ_s_310 a 19 = 0 := by omega
          try simp only [ne_eq, not_true_eq_false, not_false_eq_true, false_implies, true_implies, true_and, and_true, eq_self, false_or, or_false, false_and, and_false] at hn_315
          have hj_321 : jj_162 + 1 = jj_317 := by omega
          subst hj_321
          have hG_322 := hG_307.need (c2 := 0) (j2 := (jj_162 + 1)) (fun h9 => absurd rfl h9) (fun _ => by omega)
          refine lv_iconst (v := I 0) hx hb dX11_places_43 (by decide) ?_
          refine lv_istore_n (lv' := [(3, .int (I 0)), (2, .int (I z_155)), (1, .int (I 1)), (0, .ref a)]) hx hb dX11_places_44 rfl hl (by decide) rfl (fun ls hl => ?_)
          refine lv_iload_n hx hb dX11_places_45 rfl (lv_at hl 0 rfl) ?_
          refine lv_aload_n hx hb dX11_places_46 rfl (lv_at hl 3 rfl) ?_
          obtain ⟨_, hc_323⟩ := hO.cell h_a (by decide) (ci := 11) rfl
          refine th_calli (va_runV (As := []) (rest := [.int (I 0)]) ⟨hx, hb, hml, hown, hts⟩ (m_things l G y b0 σ_s_310 E hO a h_a f1 e_311) (cwV 0 hts gX11_places_X11_things rfl rfl rfl (by decide +kernel) ⟨Nat.le_of_ble_eq_true rfl, Nat.le_of_ble_eq_true rfl⟩) (th_PV hK hH rfl hc_323) rfl rfl hl.1 rfl (lv_room (Nat.le_of_ble_eq_true rfl)) dX11_places_47 ⟨Nat.le_of_ble_eq_true rfl, Nat.le_of_ble_eq_true rfl⟩) hS (fun z_326 σ_s_325 H locs rz_326 hw_324 hH hS => ?_)
          obtain ⟨e9, hw_324⟩ := hw_324
          replace e9 := e9.symm
          subst e9
          replace hw_324 : z_326 = mS f1 0 := hw_324
          have hb_327 := hw_309.1
          replace hw_309 := hid.mk hw_309
          replace hn_315 := hid.mk hn_315
          refine lv_icmp_ge (tgt := 116) hx hb dX11_places_50 (by decide) (fun c_328 => ?_) (fun c_328 => ?_)
          · replace c_328 := (I_le (a := z_326) (b := 0) rz_326 (show rng 0 from ⟨by decide, by decide⟩)).mp c_328
            exact th_vret hx hb hr hlocks hH hS ⟨hO, hF, hM, ⟨by omega, 0, (jj_162 + 1), hR_318, ⟨(fun h9 => absurd rfl h9), fun _ => ⟨by omega, hG_322.ec rfl rfl (fun _ => by omega)⟩, fun _ => by omega⟩⟩⟩ dX11_places_116
          · replace c_328 := mt (I_le (a := z_326) (b := 0) rz_326 (show rng 0 from ⟨by decide, by decide⟩)).mpr c_328
            refine lv_aload_n hx hb dX11_places_53 rfl (lv_at hl 3 rfl) ?_
            refine ok.getIc hO h_a (by decide) k13_25 e_314 (fun _ _ he hv kk => th_get (ci := 11) (C := RX11) (T := TX11) (N := 66) hx hb hts inX11 hown hK hH he rfl 25 (by decide) fl0 hv dX11_places_54 kk) ?_
            refine lv_if_eq (tgt := 116) hx hb dX11_places_57 (by decide) (fun _ => ?_) (fun c_329 => absurd (by decide) c_329)
            exact th_vret hx hb hr hlocks hH hS ⟨hO, hF, hM, ⟨by omega, 0, (jj_162 + 1), hR_318, ⟨(fun h9 => absurd rfl h9), fun _ => ⟨by omega, hG_322.ec rfl rfl (fun _ => by omega)⟩, fun _ => by omega⟩⟩⟩ dX11_places_116
        · try simp only [h0_319, ne_eq, not_true_eq_false, not_false_eq_true, false_implies, true_implies, true_and, and_true, eq_self, false_or, or_false, false_and, and_false] at hVhR_318
          try simp only [h0_319, ne_eq, not_true_eq_false, not_false_eq_true, false_implies, true_implies, true_and, and_true, eq_self, false_or, or_false, false_and, and_false] at hn_315
          have hj_330 : jj_162 = jj_317 := by omega
          subst hj_330
          have hG_331 := hG_307.need (c2 := cc_316) (j2 := jj_162) (fun h9 => absurd rfl h9) (fun _ => by omega)
          refine lv_iconst (v := I 0) hx hb dX11_places_43 (by decide) ?_
          refine lv_istore_n (lv' := [(3, .int (I 0)), (2, .int (I z_155)), (1, .int (I 1)), (0, .ref a)]) hx hb dX11_places_44 rfl hl (by decide) rfl (fun ls hl => ?_)
          refine lv_iload_n hx hb dX11_places_45 rfl (lv_at hl 0 rfl) ?_
          refine lv_aload_n hx hb dX11_places_46 rfl (lv_at hl 3 rfl) ?_
          obtain ⟨_, hc_332⟩ := hO.cell h_a (by decide) (ci := 11) rfl
          refine th_calli (va_runV (As := []) (rest := [.int (I 0)]) ⟨hx, hb, hml, hown, hts⟩ (m_things l G y b0 σ_s_310 E hO a h_a f1 e_311) (cwV 0 hts gX11_places_X11_things rfl rfl rfl (by decide +kernel) ⟨Nat.le_of_ble_eq_true rfl, Nat.le_of_ble_eq_true rfl⟩) (th_PV hK hH rfl hc_332) rfl rfl hl.1 rfl (lv_room (Nat.le_of_ble_eq_true rfl)) dX11_places_47 ⟨Nat.le_of_ble_eq_true rfl, Nat.le_of_ble_eq_true rfl⟩) hS (fun z_335 σ_s_334 H locs rz_335 hw_333 hH hS => ?_)
          obtain ⟨e9, hw_333⟩ := hw_333
          replace e9 := e9.symm
          subst e9
          replace hw_333 : z_335 = mS f1 0 := hw_333
          have hb_336 := hw_309.1
          replace hw_309 := hid.mk hw_309
          replace hn_315 := hid.mk hn_315
          refine lv_icmp_ge (tgt := 116) hx hb dX11_places_50 (by decide) (fun c_337 => ?_) (fun c_337 => ?_)
          · replace c_337 := (I_le (a := z_335) (b := 0) rz_335 (show rng 0 from ⟨by decide, by decide⟩)).mp c_337
            exact th_vret hx hb hr hlocks hH hS ⟨hO, hF, hM, ⟨by omega, cc_316, jj_162, hR_318, ⟨(fun h9 => absurd rfl h9), fun _ => ⟨by omega, hG_331.was h0_319⟩, fun h9 => absurd h9 h0_319⟩⟩⟩ dX11_places_116
          · replace c_337 := mt (I_le (a := z_335) (b := 0) rz_335 (show rng 0 from ⟨by decide, by decide⟩)).mpr c_337
            refine lv_aload_n hx hb dX11_places_53 rfl (lv_at hl 3 rfl) ?_
            refine ok.getIc hO h_a (by decide) k13_25 e_314 (fun _ _ he hv kk => th_get (ci := 11) (C := RX11) (T := TX11) (N := 66) hx hb hts inX11 hown hK hH he rfl 25 (by decide) fl0 hv dX11_places_54 kk) ?_
            refine lv_if_eq (tgt := 116) hx hb dX11_places_57 (by decide) (fun _ => ?_) (fun c_338 => absurd (by decide) c_338)
            exact th_vret hx hb hr hlocks hH hS ⟨hO, hF, hM, ⟨by omega, cc_316, jj_162, hR_318, ⟨(fun h9 => absurd rfl h9), fun _ => ⟨by omega, hG_331.was h0_319⟩, fun h9 => absurd h9 h0_319⟩⟩⟩ dX11_places_116
    · try simp only [h0_164, ne_eq, not_true_eq_false, not_false_eq_true, false_implies, true_implies, true_and, and_true, eq_self, false_or, or_false, false_and, and_false] at hVhR_163
      try simp only [h0_164, ne_eq, not_true_eq_false, not_false_eq_true, false_implies, true_implies, true_and, and_true, eq_self, false_or, or_false, false_and, and_false] at hn_160
      have hle_339 : jt ≤ jj_162 := nuR.le (T := T) (c := cc_161) (by first | exact hn_160 | exact hn_160.2 rfl)
      have hG_340 := hG_151.num (c2 := cc_161) (j2 := jj_162) (fun h9 => absurd rfl h9) (fun _ => by first | exact hn_160 | exact hn_160.2 rfl)
      refine lv_goto (tgt := 27) hx hb dX11_places_23 (by decide) ?_
      refine lv_istore_n (lv' := [(2, .int (I z_155)), (1, .int (I 1)), (0, .ref a)]) hx hb dX11_places_27 rfl hl (by decide) rfl (fun ls hl => ?_)
      refine lv_aload_n hx hb dX11_places_28 rfl (lv_at hl 2 rfl) ?_
      refine lv_bipush (v := I 58) hx hb dX11_places_29 (by decide) ?_
      obtain ⟨_, hc_341⟩ := hO.cell h_a (by decide) (ci := 11) rfl
      refine th_calli (va_runV (As := [.int (I 58)]) (rest := []) ⟨hx, hb, hml, hown, hts⟩ (n_isMarked l G y b0 σ_s_154 E hO a h_a 58 (show rng 58 from (show rng 58 from ⟨by decide, by decide⟩)) (by omega) (by omega) Bf hsr T hSt cc_161 jj_162 hR_163 (by omega)) (cwV 1 hts gX11_places_X11_isMarked rfl rfl rfl (by decide +kernel) ⟨Nat.le_of_ble_eq_true rfl, Nat.le_of_ble_eq_true rfl⟩) (th_PV hK hH rfl hc_341) rfl rfl hl.1 rfl (lv_room (Nat.le_of_ble_eq_true rfl)) dX11_places_31 ⟨Nat.le_of_ble_eq_true rfl, Nat.le_of_ble_eq_true rfl⟩) hS (fun z_344 σ_s_343 H locs rz_344 hw_342 hH hS => ?_)
      obtain ⟨e9, bhw_342, hw_342⟩ := hw_342
      replace e9 := e9.symm
      subst e9
      replace hw_342 : (z_344 = 1 ∧ cc_161 = 0 ∧ tK T jj_162 = 58) ∨ (z_344 = 0 ∧ (cc_161 ≠ 0 ∨ tK T jj_162 ≠ 58)) := hw_342
      have hb_345 := hw_153.1
      replace hw_153 := hid.mk hw_153
      replace hn_160 := hid.mk hn_160
      try simp only [h0_164, ne_eq, not_true_eq_false, not_false_eq_true, false_implies, true_implies, true_and, and_true, eq_self, false_or, or_false, false_and, and_false] at hw_342
      replace hw_342 : z_344 = 0 := by omega
      subst hw_342
      refine lv_if_ne (tgt := 117) hx hb dX11_places_34 (by decide) (fun c_346 => absurd (by decide) c_346) (fun _ => ?_)
      refine lv_aload_n hx hb dX11_places_37 rfl (lv_at hl 2 rfl) ?_
      refine lv_bipush (v := I 93) hx hb dX11_places_38 (by decide) ?_
      obtain ⟨_, hc_347⟩ := hO.cell h_a (by decide) (ci := 11) rfl
      refine th_callv (va_runV (As := [.int (I 93)]) (rest := []) ⟨hx, hb, hml, hown, hts⟩ (n_need l G y b0 σ_s_154 E hO a h_a 93 (show rng 93 from (show rng 93 from ⟨by decide, by decide⟩)) (by omega) (by omega) Bf hsr T hSt cc_161 jj_162 hR_163 (by omega)) (cwV 1 hts gX11_places_X11_need rfl rfl rfl (by decide +kernel) ⟨Nat.le_of_ble_eq_true rfl, Nat.le_of_ble_eq_true rfl⟩) (th_PV hK hH rfl hc_347) rfl rfl hl.1 rfl (lv_room (Nat.le_of_ble_eq_true rfl)) dX11_places_40 ⟨Nat.le_of_ble_eq_true rfl, Nat.le_of_ble_eq_true rfl⟩) hS (fun σ_s_349 H locs hw_348 hH hS => ?_)
      obtain ⟨hO9, hF9, hM9, hw_348⟩ := hw_348
      replace hM := hM.tu hM9 (by decide)
      replace hF := hF.tu hF9 (by decide)
      have e_350 : aF σ_s_349 (ad E a 1) = f1 := (hM9.a (by decide) (by decide)).trans e_156
      have e_351 : gI σ_s_349 a 11 = a110 := (hM9.i (by decide)).trans e_157
      have e_352 : gI σ_s_349 a 27 = a270 := (hM9.i (by decide)).trans e_158
      have e_353 : gI σ_s_349 a 25 = 0 := (hM9.i (by decide)).trans e_159
      replace hsr := hsr.mv hM9 (by decide) (by decide) (by decide) (by decide) (by decide)
      replace hO := hO9
      replace hw_348 : ((gI σ_s_154 a 13 ≤ gI σ_s_349 a 13 ∧ gI σ_s_349 a 13 ≤ gI σ_s_154 a 11 ∧ 0 ≤ gI σ_s_349 a 17 ∧ gI σ_s_349 a 17 ≤ gI σ_s_349 a 13) ∧ pgo (gI σ_s_349 a 19) (gI σ_s_349 a 14) (gI σ_s_154 a 13) (gI σ_s_349 a 13) ∧ bdo (gI σ_s_154 a 19) (gI σ_s_349 a 19)) ∧ ∃ c1 j1, RSt σ_s_349 a T c1 j1 ∧ ((cc_161 ≠ 0 → c1 = cc_161 ∧ j1 = jj_162) ∧ (cc_161 = 0 → (tK T jj_162 = 93 ∧ c1 = 0 ∧ j1 = jj_162 + 1) ∨ (tK T jj_162 ≠ 93 ∧ c1 = 1 ∧ j1 = jj_162))) := hw_348
      replace hVhR_163 := hid.mk hVhR_163
      have hn_354 := hw_348.2
      replace hw_348 := hw_348.1
      obtain ⟨cc_355, jj_356, hR_357, hn_354⟩ := hn_354
      have hVhR_357 := hR_357.1
      try simp only [h0_164, ne_eq, not_true_eq_false, not_false_eq_true, false_implies, true_implies, true_and, and_true, eq_self, false_or, or_false, false_and, and_false] at hn_354
      have h0_358 : ¬ cc_355 = 0 := by omega
      try simp only [h0_358, ne_eq, not_true_eq_false, not_false_eq_true, false_implies, true_implies, true_and, and_true, eq_self, false_or, or_false, false_and, and_false] at hVhR_357
      try simp only [h0_164, h0_358, ne_eq, not_true_eq_false, not_false_eq_true, false_implies, true_implies, true_and, and_true, eq_self, false_or, or_false, false_and, and_false] at hn_354
      have hc_359 : cc_161 = cc_355 := by omega
      subst hc_359
      have hj_360 : jj_162 = jj_356 := by omega
      subst hj_360
      refine lv_iconst (v := I 0) hx hb dX11_places_43 (by decide) ?_
      refine lv_istore_n (lv' := [(3, .int (I 0)), (2, .int (I z_155)), (1, .int (I 1)), (0, .ref a)]) hx hb dX11_places_44 rfl hl (by decide) rfl (fun ls hl => ?_)
      refine lv_iload_n hx hb dX11_places_45 rfl (lv_at hl 0 rfl) ?_
      refine lv_aload_n hx hb dX11_places_46 rfl (lv_at hl 3 rfl) ?_
      obtain ⟨_, hc_361⟩ := hO.cell h_a (by decide) (ci := 11) rfl
      refine th_calli (va_runV (As := []) (rest := [.int (I 0)]) ⟨hx, hb, hml, hown, hts⟩ (m_things l G y b0 σ_s_349 E hO a h_a f1 e_350) (cwV 0 hts gX11_places_X11_things rfl rfl rfl (by decide +kernel) ⟨Nat.le_of_ble_eq_true rfl, Nat.le_of_ble_eq_true rfl⟩) (th_PV hK hH rfl hc_361) rfl rfl hl.1 rfl (lv_room (Nat.le_of_ble_eq_true rfl)) dX11_places_47 ⟨Nat.le_of_ble_eq_true rfl, Nat.le_of_ble_eq_true rfl⟩) hS (fun z_364 σ_s_363 H locs rz_364 hw_362 hH hS => ?_)
      obtain ⟨e9, hw_362⟩ := hw_362
      replace e9 := e9.symm
      subst e9
      replace hw_362 : z_364 = mS f1 0 := hw_362
      have hb_365 := hw_348.1
      replace hw_348 := hid.mk hw_348
      replace hn_354 := hid.mk hn_354
      refine lv_icmp_ge (tgt := 116) hx hb dX11_places_50 (by decide) (fun c_366 => ?_) (fun c_366 => ?_)
      · replace c_366 := (I_le (a := z_364) (b := 0) rz_364 (show rng 0 from ⟨by decide, by decide⟩)).mp c_366
        exact th_vret hx hb hr hlocks hH hS ⟨hO, hF, hM, ⟨by omega, cc_161, jj_162, hR_357, ⟨(fun h9 => absurd rfl h9), fun _ => ⟨by omega, hG_340.was h0_358⟩, fun h9 => absurd h9 h0_358⟩⟩⟩ dX11_places_116
      · replace c_366 := mt (I_le (a := z_364) (b := 0) rz_364 (show rng 0 from ⟨by decide, by decide⟩)).mpr c_366
        refine lv_aload_n hx hb dX11_places_53 rfl (lv_at hl 3 rfl) ?_
        refine ok.getIc hO h_a (by decide) k13_25 e_353 (fun _ _ he hv kk => th_get (ci := 11) (C := RX11) (T := TX11) (N := 66) hx hb hts inX11 hown hK hH he rfl 25 (by decide) fl0 hv dX11_places_54 kk) ?_
        refine lv_if_eq (tgt := 116) hx hb dX11_places_57 (by decide) (fun _ => ?_) (fun c_367 => absurd (by decide) c_367)
        exact th_vret hx hb hr hlocks hH hS ⟨hO, hF, hM, ⟨by omega, cc_161, jj_162, hR_357, ⟨(fun h9 => absurd rfl h9), fun _ => ⟨by omega, hG_340.was h0_358⟩, fun h9 => absurd h9 h0_358⟩⟩⟩ dX11_places_116

set_option maxHeartbeats 20000000 in
set_option maxRecDepth 100000 in
theorem n_keyOrAll (l : Launch) (G : va_G) (y : Nat → ClassId) (b0 : Nat) (σ : th_M) (E : th_E) (hO : ok y E σ) (a : Nat) (h_a : kd E a = 13) (f1 : Nat → Int32) (ef1 : aF σ (ad E a 1) = f1) (Bf : Int → Int) (hsr : sr E σ a Bf) (T : tkT) (hSt : tkSt Bf T) (fc jt : Int) (hR0 : RSt σ a T fc jt) (hy0 : 0 ≤ gI σ a 17 ∧ gI σ a 17 ≤ gI σ a 13 ∧ gI σ a 13 ≤ gI σ a 11 ∧ gI σ a 11 ≤ 400) (hy1 : gI σ a 25 = 0) (hy2 : fc = 0 → 0 ≤ gI σ a 27 ∧ gI σ a 27 ≤ 12) (hy3 : fc = 0) : Met l yX11_keyOrAll wsX11_keyOrAll ({ frames := 3, cells := 0, slots := 0, locals := 90 }) (th_P G y b0 σ [.ref a]) (th_Qv G b0 (fun σ1 => ok y E σ1 ∧ fr [13] E σ σ1 ∧ fm [13, 14, 15, 16, 17, 18, 19, 20] E σ σ1 a ∧ (((gI σ a 13 ≤ gI σ1 a 13 ∧ gI σ1 a 13 ≤ gI σ a 11 ∧ 0 ≤ gI σ1 a 17 ∧ gI σ1 a 17 ≤ gI σ1 a 13)) ∧ ∃ c1 j1, RSt σ1 a T c1 j1 ∧ (fc ≠ 0 → c1 = fc ∧ j1 = jt) ∧ (fc = 0 → jt ≤ j1 ∧ GS T [(13, 0)] jt (gI σ a 27) [] c1 j1 (gI σ1 a 27)) ∧ (c1 = 0 → 0 ≤ gI σ1 a 27 ∧ gI σ1 a 27 ≤ 12)))) 0 0 (th_A b0) := by
  refine Met.ofW (cc := cX11_keyOrAll) (maxL := 5) (ret := none) (by decide) rfl ?_
  intro p e s m args below meth c s₁ B hml hv
  obtain ⟨rfl, hH, hK⟩ := hv
  have hx := B.exec
  have hb := B.bytes
  have hr := B.returns
  have hts := atoms_spec (ws := wsX11_keyOrAll) B.pre
  have hown : s.vm.findClass RX11 = some m.cls := findClass_of_methodNamed B.named
  have hlocks := B.notSynchronized
  have h00 : b0 ≤ s.heap.size := hH.1
  have hS : va_S (th_A b0) s.heap s.heap [] := va_S.rf
  have hF : fr [13] E σ σ := fr.rf
  have hM : fm [13, 14, 15, 16, 17, 18, 19, 20] E σ σ a := fm.rf
  have inX11 : ∀ w ∈ wsX110, w ∈ wsX11_keyOrAll := by decide +kernel
  have fl0 := hts (.fieldLink RX11 300 "NestQueryModel" "isGone" "Z") (by decide +kernel)
  have hl := lv_entry ([.ref a]) (n := 5) (Nat.le_of_ble_eq_true rfl)
  rw [lg_entry_eq]
  generalize (lg_sl ([.ref a]) ++ List.replicate (5 - (lg_sl ([.ref a])).length) Slot.unset).toArray = ls at hl ⊢
  have hl : lv_has ls 5 [(0, .ref a)] := hl
  obtain ⟨a110, ea110, ra110, la110, ua110⟩ := hO.gi h_a (by decide) k13_11
  obtain ⟨a130, ea130, ra130, la130, ua130⟩ := hO.gi h_a (by decide) k13_13
  obtain ⟨a140, ea140, ra140, la140, ua140⟩ := hO.gi h_a (by decide) k13_14
  obtain ⟨a170, ea170, ra170, la170, ua170⟩ := hO.gi h_a (by decide) k13_17
  obtain ⟨a190, ea190, ra190, la190, ua190⟩ := hO.gi h_a (by decide) k13_19
  obtain ⟨a270, ea270, ra270, la270, ua270⟩ := hO.gi h_a (by decide) k13_27
  have hV0 := hR0.1
  have h0_1 : fc = 0 := by omega
  subst h0_1
  try simp only [ne_eq, not_true_eq_false, not_false_eq_true, false_implies, true_implies, true_and, and_true, eq_self, false_or, or_false, false_and, and_false] at hV0
  have e_2 : gI σ a 19 = 0 := by omega
  have hG_3 := GS.start (T := T) (e := [(13, 0)]) (j := jt) (t := gI σ a 27)
  have e_4 : gI σ a 25 = 0 := by omega
  refine lv_aload_n hx hb dX11_keyOrAll_0 rfl (lv_at hl 0 rfl) ?_
  refine lv_bipush (v := I 42) hx hb dX11_keyOrAll_1 (by decide) ?_
  obtain ⟨_, hc_5⟩ := hO.cell h_a (by decide) (ci := 11) rfl
  refine th_calli (va_runV (As := [.int (I 42)]) (rest := []) ⟨hx, hb, hml, hown, hts⟩ (n_isMarked l G y b0 σ E hO a h_a 42 (show rng 42 from (show rng 42 from ⟨by decide, by decide⟩)) (by omega) (by omega) Bf hsr T hSt 0 jt hR0 (by omega)) (cwV 1 hts gX11_keyOrAll_X11_isMarked rfl rfl rfl (by decide +kernel) ⟨Nat.le_of_ble_eq_true rfl, Nat.le_of_ble_eq_true rfl⟩) (th_PV hK hH rfl hc_5) rfl rfl hl.1 rfl (lv_room (Nat.le_of_ble_eq_true rfl)) dX11_keyOrAll_3 ⟨Nat.le_of_ble_eq_true rfl, Nat.le_of_ble_eq_true rfl⟩) hS (fun z_8 σ_s_7 H locs rz_8 hw_6 hH hS => ?_)
  obtain ⟨e9, bhw_6, hw_6⟩ := hw_6
  replace e9 := e9.symm
  subst e9
  replace hw_6 : (z_8 = 1 ∧ (0 : Int) = 0 ∧ tK T jt = 42) ∨ (z_8 = 0 ∧ ((0 : Int) ≠ 0 ∨ tK T jt ≠ 42)) := hw_6
  obtain ⟨hw_6, -, hs_9⟩ | ⟨hw_6, hs_9⟩ := hw_6
  · subst hw_6
    refine lv_istore_n (lv' := [(1, .int (I 1)), (0, .ref a)]) hx hb dX11_keyOrAll_6 rfl hl (by decide) rfl (fun ls hl => ?_)
    refine lv_iload_n hx hb dX11_keyOrAll_7 rfl (lv_at hl 0 rfl) ?_
    refine lv_if_eq (tgt := 15) hx hb dX11_keyOrAll_8 (by decide) (fun c_10 => absurd c_10 (by decide)) (fun _ => ?_)
    refine lv_iconst (v := I 0) hx hb dX11_keyOrAll_11 (by decide) ?_
    refine lv_goto (tgt := 19) hx hb dX11_keyOrAll_12 (by decide) ?_
    refine lv_istore_n (lv' := [(2, .int (I 0)), (1, .int (I 1)), (0, .ref a)]) hx hb dX11_keyOrAll_19 rfl hl (by decide) rfl (fun ls hl => ?_)
    refine lv_aload_n hx hb dX11_keyOrAll_20 rfl (lv_at hl 2 rfl) ?_
    obtain ⟨_, hc_11⟩ := hO.cell h_a (by decide) (ci := 11) rfl
    refine th_callv (va_runV (As := []) (rest := []) ⟨hx, hb, hml, hown, hts⟩ (n_pass l G y b0 σ E hO a h_a Bf hsr T hSt 0 jt hR0 (by omega) (by omega)) (cwV 0 hts gX11_keyOrAll_X11_pass rfl rfl rfl (by decide +kernel) ⟨Nat.le_of_ble_eq_true rfl, Nat.le_of_ble_eq_true rfl⟩) (th_PV hK hH rfl hc_11) rfl rfl hl.1 rfl (lv_room (Nat.le_of_ble_eq_true rfl)) dX11_keyOrAll_21 ⟨Nat.le_of_ble_eq_true rfl, Nat.le_of_ble_eq_true rfl⟩) hS (fun σ_s_13 H locs hw_12 hH hS => ?_)
    obtain ⟨hO9, hF9, hM9, hw_12⟩ := hw_12
    replace hM := hM.tu hM9 (by decide)
    replace hF := hF.tu hF9 (by decide)
    have e_14 : aF σ_s_13 (ad E a 1) = f1 := (hM9.a (by decide) (by decide)).trans ef1
    have e_15 : gI σ_s_13 a 11 = a110 := (hM9.i (by decide)).trans ea110
    have e_16 : gI σ_s_13 a 19 = 0 := (hM9.i (by decide)).trans e_2
    have e_17 : gI σ_s_13 a 27 = a270 := (hM9.i (by decide)).trans ea270
    have e_18 : gI σ_s_13 a 25 = 0 := (hM9.i (by decide)).trans e_4
    replace hsr := hsr.mv hM9 (by decide) (by decide) (by decide) (by decide) (by decide)
    replace hO := hO9
    replace hw_12 : ((gI σ a 13 ≤ gI σ_s_13 a 13 ∧ gI σ_s_13 a 13 ≤ gI σ a 11 ∧ 0 ≤ gI σ_s_13 a 17 ∧ gI σ_s_13 a 17 ≤ gI σ_s_13 a 13) ∧ pgo (gI σ_s_13 a 19) (gI σ_s_13 a 14) (gI σ a 13) (gI σ_s_13 a 13) ∧ gI σ_s_13 a 19 = gI σ a 19) ∧ ∃ c1 j1, RSt σ_s_13 a T c1 j1 ∧ (c1 = 0 ∧ ((0 : Int) ≠ 0 → j1 = jt) ∧ ((0 : Int) = 0 → j1 = jt + 1)) := hw_12
    replace hV0 := hid.mk hV0
    have hn_19 := hw_12.2
    replace hw_12 := hw_12.1
    obtain ⟨cc_20, jj_21, hR_22, hn_19⟩ := hn_19
    have hVhR_22 := hR_22.1
    have h0_23 : cc_20 = 0 := by omega
    subst h0_23
    try simp only [ne_eq, not_true_eq_false, not_false_eq_true, false_implies, true_implies, true_and, and_true, eq_self, false_or, or_false, false_and, and_false] at hVhR_22
    have e_24 : gI σ_s_13 a 19 = 0 := by omega
    have hj_25 : jt + 1 = jj_21 := by omega
    subst hj_25
    have hG_26 := hG_3.each hs_9
    refine lv_iconst (v := I 0) hx hb dX11_keyOrAll_24 (by decide) ?_
    refine lv_istore_n (lv' := [(3, .int (I 0)), (2, .int (I 0)), (1, .int (I 1)), (0, .ref a)]) hx hb dX11_keyOrAll_25 rfl hl (by decide) rfl (fun ls hl => ?_)
    refine lv_iload_n hx hb dX11_keyOrAll_26 rfl (lv_at hl 0 rfl) ?_
    refine lv_aload_n hx hb dX11_keyOrAll_27 rfl (lv_at hl 3 rfl) ?_
    obtain ⟨_, hc_27⟩ := hO.cell h_a (by decide) (ci := 11) rfl
    refine th_calli (va_runV (As := []) (rest := [.int (I 0)]) ⟨hx, hb, hml, hown, hts⟩ (m_things l G y b0 σ_s_13 E hO a h_a f1 e_14) (cwV 0 hts gX11_keyOrAll_X11_things rfl rfl rfl (by decide +kernel) ⟨Nat.le_of_ble_eq_true rfl, Nat.le_of_ble_eq_true rfl⟩) (th_PV hK hH rfl hc_27) rfl rfl hl.1 rfl (lv_room (Nat.le_of_ble_eq_true rfl)) dX11_keyOrAll_28 ⟨Nat.le_of_ble_eq_true rfl, Nat.le_of_ble_eq_true rfl⟩) hS (fun z_30 σ_s_29 H locs rz_30 hw_28 hH hS => ?_)
    obtain ⟨e9, hw_28⟩ := hw_28
    replace e9 := e9.symm
    subst e9
    replace hw_28 : z_30 = mS f1 0 := hw_28
    have hb_31 := hw_12.1
    replace hw_12 := hid.mk hw_12
    replace hn_19 := hid.mk hn_19
    refine lv_icmp_ge (tgt := 164) hx hb dX11_keyOrAll_31 (by decide) (fun c_32 => ?_) (fun c_32 => ?_)
    · replace c_32 := (I_le (a := z_30) (b := 0) rz_30 (show rng 0 from ⟨by decide, by decide⟩)).mp c_32
      exact th_vret hx hb hr hlocks hH hS ⟨hO, hF, hM, ⟨by omega, 0, (jt + 1), hR_22, ⟨(fun h9 => absurd rfl h9), fun _ => ⟨by omega, hG_26.ec rfl rfl (fun _ => by omega)⟩, fun _ => by omega⟩⟩⟩ dX11_keyOrAll_164
    · replace c_32 := mt (I_le (a := z_30) (b := 0) rz_30 (show rng 0 from ⟨by decide, by decide⟩)).mpr c_32
      refine lv_aload_n hx hb dX11_keyOrAll_34 rfl (lv_at hl 3 rfl) ?_
      refine ok.getIc hO h_a (by decide) k13_25 e_18 (fun _ _ he hv kk => th_get (ci := 11) (C := RX11) (T := TX11) (N := 66) hx hb hts inX11 hown hK hH he rfl 25 (by decide) fl0 hv dX11_keyOrAll_35 kk) ?_
      refine lv_if_eq (tgt := 164) hx hb dX11_keyOrAll_38 (by decide) (fun _ => ?_) (fun c_33 => absurd (by decide) c_33)
      exact th_vret hx hb hr hlocks hH hS ⟨hO, hF, hM, ⟨by omega, 0, (jt + 1), hR_22, ⟨(fun h9 => absurd rfl h9), fun _ => ⟨by omega, hG_26.ec rfl rfl (fun _ => by omega)⟩, fun _ => by omega⟩⟩⟩ dX11_keyOrAll_164
  · replace hs_9 := hs_9.resolve_left (fun h9 => h9 rfl)
    subst hw_6
    refine lv_istore_n (lv' := [(1, .int (I 0)), (0, .ref a)]) hx hb dX11_keyOrAll_6 rfl hl (by decide) rfl (fun ls hl => ?_)
    refine lv_iload_n hx hb dX11_keyOrAll_7 rfl (lv_at hl 0 rfl) ?_
    refine lv_if_eq (tgt := 15) hx hb dX11_keyOrAll_8 (by decide) (fun _ => ?_) (fun c_34 => absurd (by decide) c_34)
    refine lv_aload_n hx hb dX11_keyOrAll_15 rfl (lv_at hl 1 rfl) ?_
    obtain ⟨_, hc_35⟩ := hO.cell h_a (by decide) (ci := 11) rfl
    refine th_calli (va_runV (As := []) (rest := []) ⟨hx, hb, hml, hown, hts⟩ (n_wordNow l G y b0 σ E hO a h_a Bf hsr T hSt 0 jt hR0 (by omega)) (cwV 0 hts gX11_keyOrAll_X11_wordNow rfl rfl rfl (by decide +kernel) ⟨Nat.le_of_ble_eq_true rfl, Nat.le_of_ble_eq_true rfl⟩) (th_PV hK hH rfl hc_35) rfl rfl hl.1 rfl (lv_room (Nat.le_of_ble_eq_true rfl)) dX11_keyOrAll_16 ⟨Nat.le_of_ble_eq_true rfl, Nat.le_of_ble_eq_true rfl⟩) hS (fun z_38 σ_s_37 H locs rz_38 hw_36 hH hS => ?_)
    obtain ⟨hO9, hF9, hM9, hw_36⟩ := hw_36
    replace hM := hM.tu hM9 (by decide)
    replace hF := hF.tu hF9 (by decide)
    have e_39 : aF σ_s_37 (ad E a 1) = f1 := (hM9.a (by decide) (by decide)).trans ef1
    have e_40 : gI σ_s_37 a 11 = a110 := (hM9.i (by decide)).trans ea110
    have e_41 : gI σ_s_37 a 13 = a130 := (hM9.i (by decide)).trans ea130
    have e_42 : gI σ_s_37 a 14 = a140 := (hM9.i (by decide)).trans ea140
    have e_43 : gI σ_s_37 a 17 = a170 := (hM9.i (by decide)).trans ea170
    have e_44 : gI σ_s_37 a 27 = a270 := (hM9.i (by decide)).trans ea270
    have e_45 : gI σ_s_37 a 25 = 0 := (hM9.i (by decide)).trans e_4
    replace hsr := hsr.mv hM9 (by decide) (by decide) (by decide) (by decide) (by decide)
    replace hO := hO9
    replace hw_36 : (bdo (gI σ a 19) (gI σ_s_37 a 19)) ∧ ∃ c1 j1, RSt σ_s_37 a T c1 j1 ∧ (j1 = jt ∧ ((0 : Int) ≠ 0 → c1 = 0) ∧ ((0 : Int) = 0 → (tK T jt ≠ 256 ∧ c1 = 1) ∨ (tK T jt = 256 ∧ 6 < tL T jt ∧ c1 = 2) ∨ (tK T jt = 256 ∧ tL T jt ≤ 6 ∧ c1 = 0 ∧ z_38 = tV T jt))) := hw_36
    replace hV0 := hid.mk hV0
    have hn_46 := hw_36.2
    replace hw_36 := hw_36.1
    obtain ⟨cc_47, jj_48, hR_49, hn_46⟩ := hn_46
    have hVhR_49 := hR_49.1
    have hj9 := hn_46.1.symm
    subst hj9
    rcases Classical.em (cc_47 = 0) with h0_50 | h0_50
    · subst h0_50
      try simp only [ne_eq, not_true_eq_false, not_false_eq_true, false_implies, true_implies, true_and, and_true, eq_self, false_or, or_false, false_and, and_false] at hVhR_49
      have e_51 : gI σ_s_37 a 19 = 0 := by omega
      try simp only [ne_eq, not_true_eq_false, not_false_eq_true, false_implies, true_implies, true_and, and_true, eq_self, false_or, or_false, false_and, and_false] at hn_46
      have hkw_53 : tK T jt = 256 ∧ tL T jt ≤ 6 := by omega
      refine lv_istore_n (lv' := [(2, .int (I z_38)), (1, .int (I 0)), (0, .ref a)]) hx hb dX11_keyOrAll_19 rfl hl (by decide) rfl (fun ls hl => ?_)
      refine lv_aload_n hx hb dX11_keyOrAll_20 rfl (lv_at hl 2 rfl) ?_
      obtain ⟨_, hc_54⟩ := hO.cell h_a (by decide) (ci := 11) rfl
      refine th_callv (va_runV (As := []) (rest := []) ⟨hx, hb, hml, hown, hts⟩ (n_pass l G y b0 σ_s_37 E hO a h_a Bf hsr T hSt 0 jt hR_49 (by omega) (by omega)) (cwV 0 hts gX11_keyOrAll_X11_pass rfl rfl rfl (by decide +kernel) ⟨Nat.le_of_ble_eq_true rfl, Nat.le_of_ble_eq_true rfl⟩) (th_PV hK hH rfl hc_54) rfl rfl hl.1 rfl (lv_room (Nat.le_of_ble_eq_true rfl)) dX11_keyOrAll_21 ⟨Nat.le_of_ble_eq_true rfl, Nat.le_of_ble_eq_true rfl⟩) hS (fun σ_s_56 H locs hw_55 hH hS => ?_)
      obtain ⟨hO9, hF9, hM9, hw_55⟩ := hw_55
      replace hM := hM.tu hM9 (by decide)
      replace hF := hF.tu hF9 (by decide)
      have e_57 : aF σ_s_56 (ad E a 1) = f1 := (hM9.a (by decide) (by decide)).trans e_39
      have e_58 : gI σ_s_56 a 11 = a110 := (hM9.i (by decide)).trans e_40
      have e_59 : gI σ_s_56 a 27 = a270 := (hM9.i (by decide)).trans e_44
      have e_60 : gI σ_s_56 a 25 = 0 := (hM9.i (by decide)).trans e_45
      have e_61 : gI σ_s_56 a 19 = 0 := (hM9.i (by decide)).trans e_51
      replace hsr := hsr.mv hM9 (by decide) (by decide) (by decide) (by decide) (by decide)
      replace hO := hO9
      replace hw_55 : ((gI σ_s_37 a 13 ≤ gI σ_s_56 a 13 ∧ gI σ_s_56 a 13 ≤ gI σ_s_37 a 11 ∧ 0 ≤ gI σ_s_56 a 17 ∧ gI σ_s_56 a 17 ≤ gI σ_s_56 a 13) ∧ pgo (gI σ_s_56 a 19) (gI σ_s_56 a 14) (gI σ_s_37 a 13) (gI σ_s_56 a 13) ∧ gI σ_s_56 a 19 = gI σ_s_37 a 19) ∧ ∃ c1 j1, RSt σ_s_56 a T c1 j1 ∧ (c1 = 0 ∧ ((0 : Int) ≠ 0 → j1 = jt) ∧ ((0 : Int) = 0 → j1 = jt + 1)) := hw_55
      replace hw_36 := hid.mk hw_36
      replace hn_46 := hid.mk hn_46
      replace hVhR_49 := hid.mk hVhR_49
      have hn_62 := hw_55.2
      replace hw_55 := hw_55.1
      obtain ⟨cc_63, jj_64, hR_65, hn_62⟩ := hn_62
      have hVhR_65 := hR_65.1
      have h0_66 : cc_63 = 0 := by omega
      subst h0_66
      try simp only [ne_eq, not_true_eq_false, not_false_eq_true, false_implies, true_implies, true_and, and_true, eq_self, false_or, or_false, false_and, and_false] at hVhR_65
      have e_67 : gI σ_s_56 a 19 = 0 := by omega
      have hj_68 : jt + 1 = jj_64 := by omega
      subst hj_68
      have hG_69 := (hG_3.name hs_9).word (c2 := 0) (j2 := (jt + 1)) (fun h9 => absurd rfl h9) (fun _ => by omega)
      refine lv_iconst (v := I 0) hx hb dX11_keyOrAll_24 (by decide) ?_
      refine lv_istore_n (lv' := [(3, .int (I 0)), (2, .int (I z_38)), (1, .int (I 0)), (0, .ref a)]) hx hb dX11_keyOrAll_25 rfl hl (by decide) rfl (fun ls hl => ?_)
      refine lv_iload_n hx hb dX11_keyOrAll_26 rfl (lv_at hl 0 rfl) ?_
      refine lv_aload_n hx hb dX11_keyOrAll_27 rfl (lv_at hl 3 rfl) ?_
      obtain ⟨_, hc_70⟩ := hO.cell h_a (by decide) (ci := 11) rfl
      refine th_calli (va_runV (As := []) (rest := [.int (I 0)]) ⟨hx, hb, hml, hown, hts⟩ (m_things l G y b0 σ_s_56 E hO a h_a f1 e_57) (cwV 0 hts gX11_keyOrAll_X11_things rfl rfl rfl (by decide +kernel) ⟨Nat.le_of_ble_eq_true rfl, Nat.le_of_ble_eq_true rfl⟩) (th_PV hK hH rfl hc_70) rfl rfl hl.1 rfl (lv_room (Nat.le_of_ble_eq_true rfl)) dX11_keyOrAll_28 ⟨Nat.le_of_ble_eq_true rfl, Nat.le_of_ble_eq_true rfl⟩) hS (fun z_73 σ_s_72 H locs rz_73 hw_71 hH hS => ?_)
      obtain ⟨e9, hw_71⟩ := hw_71
      replace e9 := e9.symm
      subst e9
      replace hw_71 : z_73 = mS f1 0 := hw_71
      have hb_74 := hw_55.1
      replace hw_55 := hid.mk hw_55
      replace hn_62 := hid.mk hn_62
      refine lv_icmp_ge (tgt := 164) hx hb dX11_keyOrAll_31 (by decide) (fun c_75 => ?_) (fun c_75 => ?_)
      · replace c_75 := (I_le (a := z_73) (b := 0) rz_73 (show rng 0 from ⟨by decide, by decide⟩)).mp c_75
        exact th_vret hx hb hr hlocks hH hS ⟨hO, hF, hM, ⟨by omega, 0, (jt + 1), hR_65, ⟨(fun h9 => absurd rfl h9), fun _ => ⟨by omega, hG_69.ec rfl rfl (fun _ => by omega)⟩, fun _ => by omega⟩⟩⟩ dX11_keyOrAll_164
      · replace c_75 := mt (I_le (a := z_73) (b := 0) rz_73 (show rng 0 from ⟨by decide, by decide⟩)).mpr c_75
        refine lv_aload_n hx hb dX11_keyOrAll_34 rfl (lv_at hl 3 rfl) ?_
        refine ok.getIc hO h_a (by decide) k13_25 e_60 (fun _ _ he hv kk => th_get (ci := 11) (C := RX11) (T := TX11) (N := 66) hx hb hts inX11 hown hK hH he rfl 25 (by decide) fl0 hv dX11_keyOrAll_35 kk) ?_
        refine lv_if_eq (tgt := 164) hx hb dX11_keyOrAll_38 (by decide) (fun _ => ?_) (fun c_76 => absurd (by decide) c_76)
        exact th_vret hx hb hr hlocks hH hS ⟨hO, hF, hM, ⟨by omega, 0, (jt + 1), hR_65, ⟨(fun h9 => absurd rfl h9), fun _ => ⟨by omega, hG_69.ec rfl rfl (fun _ => by omega)⟩, fun _ => by omega⟩⟩⟩ dX11_keyOrAll_164
    · try simp only [h0_50, ne_eq, not_true_eq_false, not_false_eq_true, false_implies, true_implies, true_and, and_true, eq_self, false_or, or_false, false_and, and_false] at hVhR_49
      try simp only [h0_50, ne_eq, not_true_eq_false, not_false_eq_true, false_implies, true_implies, true_and, and_true, eq_self, false_or, or_false, false_and, and_false] at hn_46
      have hG_78 := (hG_3.name hs_9).word (c2 := cc_47) (j2 := jt) (fun h9 => absurd rfl h9) (fun _ => by omega)
      refine lv_istore_n (lv' := [(2, .int (I z_38)), (1, .int (I 0)), (0, .ref a)]) hx hb dX11_keyOrAll_19 rfl hl (by decide) rfl (fun ls hl => ?_)
      refine lv_aload_n hx hb dX11_keyOrAll_20 rfl (lv_at hl 2 rfl) ?_
      obtain ⟨_, hc_79⟩ := hO.cell h_a (by decide) (ci := 11) rfl
      refine th_callv (va_runV (As := []) (rest := []) ⟨hx, hb, hml, hown, hts⟩ (n_pass l G y b0 σ_s_37 E hO a h_a Bf hsr T hSt cc_47 jt hR_49 (by omega) (by omega)) (cwV 0 hts gX11_keyOrAll_X11_pass rfl rfl rfl (by decide +kernel) ⟨Nat.le_of_ble_eq_true rfl, Nat.le_of_ble_eq_true rfl⟩) (th_PV hK hH rfl hc_79) rfl rfl hl.1 rfl (lv_room (Nat.le_of_ble_eq_true rfl)) dX11_keyOrAll_21 ⟨Nat.le_of_ble_eq_true rfl, Nat.le_of_ble_eq_true rfl⟩) hS (fun σ_s_81 H locs hw_80 hH hS => ?_)
      obtain ⟨hO9, hF9, hM9, hw_80⟩ := hw_80
      replace hM := hM.tu hM9 (by decide)
      replace hF := hF.tu hF9 (by decide)
      have e_82 : aF σ_s_81 (ad E a 1) = f1 := (hM9.a (by decide) (by decide)).trans e_39
      have e_83 : gI σ_s_81 a 11 = a110 := (hM9.i (by decide)).trans e_40
      have e_84 : gI σ_s_81 a 27 = a270 := (hM9.i (by decide)).trans e_44
      have e_85 : gI σ_s_81 a 25 = 0 := (hM9.i (by decide)).trans e_45
      replace hsr := hsr.mv hM9 (by decide) (by decide) (by decide) (by decide) (by decide)
      replace hO := hO9
      replace hw_80 : ((gI σ_s_37 a 13 ≤ gI σ_s_81 a 13 ∧ gI σ_s_81 a 13 ≤ gI σ_s_37 a 11 ∧ 0 ≤ gI σ_s_81 a 17 ∧ gI σ_s_81 a 17 ≤ gI σ_s_81 a 13) ∧ pgo (gI σ_s_81 a 19) (gI σ_s_81 a 14) (gI σ_s_37 a 13) (gI σ_s_81 a 13) ∧ gI σ_s_81 a 19 = gI σ_s_37 a 19) ∧ ∃ c1 j1, RSt σ_s_81 a T c1 j1 ∧ (c1 = cc_47 ∧ (cc_47 ≠ 0 → j1 = jt) ∧ (cc_47 = 0 → j1 = jt + 1)) := hw_80
      replace hw_36 := hid.mk hw_36
      replace hn_46 := hid.mk hn_46
      replace hVhR_49 := hid.mk hVhR_49
      have hn_86 := hw_80.2
      replace hw_80 := hw_80.1
      obtain ⟨cc_87, jj_88, hR_89, hn_86⟩ := hn_86
      have hVhR_89 := hR_89.1
      try simp only [h0_50, ne_eq, not_true_eq_false, not_false_eq_true, false_implies, true_implies, true_and, and_true, eq_self, false_or, or_false, false_and, and_false] at hn_86
      have h0_90 : ¬ cc_87 = 0 := by omega
      try simp only [h0_90, ne_eq, not_true_eq_false, not_false_eq_true, false_implies, true_implies, true_and, and_true, eq_self, false_or, or_false, false_and, and_false] at hVhR_89
      try simp only [h0_50, h0_90, ne_eq, not_true_eq_false, not_false_eq_true, false_implies, true_implies, true_and, and_true, eq_self, false_or, or_false, false_and, and_false] at hn_86
      have hc_91 : cc_47 = cc_87 := by omega
      subst hc_91
      have hj_92 : jt = jj_88 := by omega
      subst hj_92
      refine lv_iconst (v := I 0) hx hb dX11_keyOrAll_24 (by decide) ?_
      refine lv_istore_n (lv' := [(3, .int (I 0)), (2, .int (I z_38)), (1, .int (I 0)), (0, .ref a)]) hx hb dX11_keyOrAll_25 rfl hl (by decide) rfl (fun ls hl => ?_)
      refine lv_iload_n hx hb dX11_keyOrAll_26 rfl (lv_at hl 0 rfl) ?_
      refine lv_aload_n hx hb dX11_keyOrAll_27 rfl (lv_at hl 3 rfl) ?_
      obtain ⟨_, hc_93⟩ := hO.cell h_a (by decide) (ci := 11) rfl
      refine th_calli (va_runV (As := []) (rest := [.int (I 0)]) ⟨hx, hb, hml, hown, hts⟩ (m_things l G y b0 σ_s_81 E hO a h_a f1 e_82) (cwV 0 hts gX11_keyOrAll_X11_things rfl rfl rfl (by decide +kernel) ⟨Nat.le_of_ble_eq_true rfl, Nat.le_of_ble_eq_true rfl⟩) (th_PV hK hH rfl hc_93) rfl rfl hl.1 rfl (lv_room (Nat.le_of_ble_eq_true rfl)) dX11_keyOrAll_28 ⟨Nat.le_of_ble_eq_true rfl, Nat.le_of_ble_eq_true rfl⟩) hS (fun z_96 σ_s_95 H locs rz_96 hw_94 hH hS => ?_)
      obtain ⟨e9, hw_94⟩ := hw_94
      replace e9 := e9.symm
      subst e9
      replace hw_94 : z_96 = mS f1 0 := hw_94
      have hb_97 := hw_80.1
      replace hw_80 := hid.mk hw_80
      replace hn_86 := hid.mk hn_86
      refine lv_icmp_ge (tgt := 164) hx hb dX11_keyOrAll_31 (by decide) (fun c_98 => ?_) (fun c_98 => ?_)
      · replace c_98 := (I_le (a := z_96) (b := 0) rz_96 (show rng 0 from ⟨by decide, by decide⟩)).mp c_98
        exact th_vret hx hb hr hlocks hH hS ⟨hO, hF, hM, ⟨by omega, cc_47, jt, hR_89, ⟨(fun h9 => absurd rfl h9), fun _ => ⟨by omega, hG_78.was h0_90⟩, fun h9 => absurd h9 h0_90⟩⟩⟩ dX11_keyOrAll_164
      · replace c_98 := mt (I_le (a := z_96) (b := 0) rz_96 (show rng 0 from ⟨by decide, by decide⟩)).mpr c_98
        refine lv_aload_n hx hb dX11_keyOrAll_34 rfl (lv_at hl 3 rfl) ?_
        refine ok.getIc hO h_a (by decide) k13_25 e_85 (fun _ _ he hv kk => th_get (ci := 11) (C := RX11) (T := TX11) (N := 66) hx hb hts inX11 hown hK hH he rfl 25 (by decide) fl0 hv dX11_keyOrAll_35 kk) ?_
        refine lv_if_eq (tgt := 164) hx hb dX11_keyOrAll_38 (by decide) (fun _ => ?_) (fun c_99 => absurd (by decide) c_99)
        exact th_vret hx hb hr hlocks hH hS ⟨hO, hF, hM, ⟨by omega, cc_47, jt, hR_89, ⟨(fun h9 => absurd rfl h9), fun _ => ⟨by omega, hG_78.was h0_90⟩, fun h9 => absurd h9 h0_90⟩⟩⟩ dX11_keyOrAll_164

set_option maxHeartbeats 20000000 in
set_option maxRecDepth 100000 in
theorem n_allWithin (l : Launch) (G : va_G) (y : Nat → ClassId) (b0 : Nat) (σ : th_M) (E : th_E) (hO : ok y E σ) (a : Nat) (h_a : kd E a = 13) (f1 : Nat → Int32) (ef1 : aF σ (ad E a 1) = f1) (hy0 : gI σ a 25 = 0) : Met l yX11_allWithin wsX11_allWithin ({ frames := 1, cells := 0, slots := 0, locals := 24 }) (th_P G y b0 σ [.ref a]) (th_Qv G b0 (fun σ1 => σ1 = σ ∧ (True))) 0 0 (th_A b0) := by
  refine Met.ofW (cc := cX11_allWithin) (maxL := 3) (ret := none) (by decide) rfl ?_
  intro p e s m args below meth c s₁ B hml hv
  obtain ⟨rfl, hH, hK⟩ := hv
  have hx := B.exec
  have hb := B.bytes
  have hr := B.returns
  have hts := atoms_spec (ws := wsX11_allWithin) B.pre
  have hown : s.vm.findClass RX11 = some m.cls := findClass_of_methodNamed B.named
  have hlocks := B.notSynchronized
  have h00 : b0 ≤ s.heap.size := hH.1
  have hS : va_S (th_A b0) s.heap s.heap [] := va_S.rf
  have inX11 : ∀ w ∈ wsX110, w ∈ wsX11_allWithin := by decide +kernel
  have fl0 := hts (.fieldLink RX11 300 "NestQueryModel" "isGone" "Z") (by decide +kernel)
  have hl := lv_entry ([.ref a]) (n := 3) (Nat.le_of_ble_eq_true rfl)
  rw [lg_entry_eq]
  generalize (lg_sl ([.ref a]) ++ List.replicate (3 - (lg_sl ([.ref a])).length) Slot.unset).toArray = ls at hl ⊢
  have hl : lv_has ls 3 [(0, .ref a)] := hl
  obtain ⟨a250, ea250, ra250, la250, ua250⟩ := hO.gi h_a (by decide) k13_25
  have e_1 : gI σ a 25 = 0 := by omega
  refine lv_iconst (v := I 0) hx hb dX11_allWithin_0 (by decide) ?_
  refine lv_istore_n (lv' := [(1, .int (I 0)), (0, .ref a)]) hx hb dX11_allWithin_1 rfl hl (by decide) rfl (fun ls hl => ?_)
  refine lv_iload_n hx hb dX11_allWithin_2 rfl (lv_at hl 0 rfl) ?_
  refine lv_aload_n hx hb dX11_allWithin_3 rfl (lv_at hl 1 rfl) ?_
  obtain ⟨_, hc_2⟩ := hO.cell h_a (by decide) (ci := 11) rfl
  refine th_calli (va_runV (As := []) (rest := [.int (I 0)]) ⟨hx, hb, hml, hown, hts⟩ (m_things l G y b0 σ E hO a h_a f1 ef1) (cwV 0 hts gX11_allWithin_X11_things rfl rfl rfl (by decide +kernel) ⟨Nat.le_of_ble_eq_true rfl, Nat.le_of_ble_eq_true rfl⟩) (th_PV hK hH rfl hc_2) rfl rfl hl.1 rfl (lv_room (Nat.le_of_ble_eq_true rfl)) dX11_allWithin_4 ⟨Nat.le_of_ble_eq_true rfl, Nat.le_of_ble_eq_true rfl⟩) hS (fun z_5 σ_s_4 H locs rz_5 hw_3 hH hS => ?_)
  obtain ⟨e9, hw_3⟩ := hw_3
  replace e9 := e9.symm
  subst e9
  replace hw_3 : z_5 = mS f1 0 := hw_3
  refine lv_icmp_ge (tgt := 64) hx hb dX11_allWithin_7 (by decide) (fun c_6 => ?_) (fun c_6 => ?_)
  · replace c_6 := (I_le (a := z_5) (b := 0) rz_5 (show rng 0 from ⟨by decide, by decide⟩)).mp c_6
    exact th_vret hx hb hr hlocks hH hS ⟨rfl, trivial⟩ dX11_allWithin_64
  · replace c_6 := mt (I_le (a := z_5) (b := 0) rz_5 (show rng 0 from ⟨by decide, by decide⟩)).mpr c_6
    refine lv_aload_n hx hb dX11_allWithin_10 rfl (lv_at hl 1 rfl) ?_
    refine ok.getIc hO h_a (by decide) k13_25 e_1 (fun _ _ he hv kk => th_get (ci := 11) (C := RX11) (T := TX11) (N := 66) hx hb hts inX11 hown hK hH he rfl 25 (by decide) fl0 hv dX11_allWithin_11 kk) ?_
    refine lv_if_eq (tgt := 64) hx hb dX11_allWithin_14 (by decide) (fun _ => ?_) (fun c_7 => absurd (by decide) c_7)
    exact th_vret hx hb hr hlocks hH hS ⟨rfl, trivial⟩ dX11_allWithin_64
