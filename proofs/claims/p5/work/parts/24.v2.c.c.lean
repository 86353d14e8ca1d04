set_option maxHeartbeats 20000000 in
set_option maxRecDepth 100000 in
theorem n_allOf (n : Nat) (ih : ∀ (l : Launch) (G : va_G) (y : Nat → ClassId) (b0 : Nat) (σ : th_M) (E : th_E) (hO : ok y E σ) (a : Nat) (h_a : kd E a = 13) (f1 : Nat → Int32) (ef1 : aF σ (ad E a 1) = f1) (Bf : Int → Int) (hsr : sr E σ a Bf) (T : tkT) (hSt : tkSt Bf T) (fc jt : Int) (hR0 : RSt σ a T fc jt) (hy0 : 0 ≤ gI σ a 17 ∧ gI σ a 17 ≤ gI σ a 13 ∧ gI σ a 13 ≤ gI σ a 11 ∧ gI σ a 11 ≤ 400) (hy1 : gI σ a 25 = 0) (hy2 : gI σ a 30 = -1) (hy3 : fc = 0 → 0 ≤ gI σ a 27 ∧ gI σ a 27 ≤ 12) (hy4 : 0 ≤ gI σ a 28 ∧ gI σ a 28 ≤ 5) (hn : (5 - gI σ a 28).toNat < n), Met l yX11_atom wsX11_atom ({ frames := 5*n+12, cells := 0, slots := 0, locals := (180*n+400) }) (th_P G y b0 σ [.ref a]) (th_Qi G b0 (fun r σ1 => ok y E σ1 ∧ fr [13] E σ σ1 ∧ fm [13, 14, 15, 16, 17, 18, 19, 20, 27, 28] E σ σ1 a ∧ (0 ≤ r ∧ r ≤ 1) ∧ (((gI σ a 13 ≤ gI σ1 a 13 ∧ gI σ1 a 13 ≤ gI σ a 11 ∧ 0 ≤ gI σ1 a 17 ∧ gI σ1 a 17 ≤ gI σ1 a 13) ∧ gI σ1 a 28 = gI σ a 28) ∧ ∃ c1 j1, RSt σ1 a T c1 j1 ∧ (fc ≠ 0 → c1 = fc ∧ j1 = jt) ∧ (fc = 0 → jt ≤ j1 ∧ GS T [(1, gI σ a 28)] jt (gI σ a 27) [] c1 j1 (gI σ1 a 27)) ∧ (c1 = 0 → 0 ≤ gI σ1 a 27 ∧ gI σ1 a 27 ≤ 12)))) 0 0 (th_A b0)) (l : Launch) (G : va_G) (y : Nat → ClassId) (b0 : Nat) (σ : th_M) (E : th_E) (hO : ok y E σ) (a : Nat) (h_a : kd E a = 13) (f1 : Nat → Int32) (ef1 : aF σ (ad E a 1) = f1) (Bf : Int → Int) (hsr : sr E σ a Bf) (T : tkT) (hSt : tkSt Bf T) (fc jt : Int) (hR0 : RSt σ a T fc jt) (hy0 : 0 ≤ gI σ a 17 ∧ gI σ a 17 ≤ gI σ a 13 ∧ gI σ a 13 ≤ gI σ a 11 ∧ gI σ a 11 ≤ 400) (hy1 : gI σ a 25 = 0) (hy2 : gI σ a 30 = -1) (hy3 : fc = 0 → 0 ≤ gI σ a 27 ∧ gI σ a 27 ≤ 12) (hy4 : 0 ≤ gI σ a 28 ∧ gI σ a 28 ≤ 5) (hy5 : (5 - gI σ a 28).toNat < n) : Met l yX11_allOf wsX11_allOf ({ frames := 5*n+14, cells := 0, slots := 0, locals := (180*n+450) }) (th_P G y b0 σ [.ref a]) (th_Qi G b0 (fun r σ1 => ok y E σ1 ∧ fr [13] E σ σ1 ∧ fm [13, 14, 15, 16, 17, 18, 19, 20, 27, 28] E σ σ1 a ∧ (0 ≤ r ∧ r ≤ 1) ∧ (((gI σ a 13 ≤ gI σ1 a 13 ∧ gI σ1 a 13 ≤ gI σ a 11 ∧ 0 ≤ gI σ1 a 17 ∧ gI σ1 a 17 ≤ gI σ1 a 13) ∧ gI σ1 a 28 = gI σ a 28) ∧ ∃ c1 j1, RSt σ1 a T c1 j1 ∧ (fc ≠ 0 → c1 = fc ∧ j1 = jt) ∧ (fc = 0 → jt ≤ j1 ∧ GS T [(3, gI σ a 28)] jt (gI σ a 27) [] c1 j1 (gI σ1 a 27)) ∧ (c1 = 0 → 0 ≤ gI σ1 a 27 ∧ gI σ1 a 27 ≤ 12)))) 0 0 (th_A b0) := by
  refine Met.ofW (cc := cX11_allOf) (maxL := 3) (ret := (some .boolean)) (by decide) rfl ?_
  intro p e s m args below meth c s₁ B hml hv
  obtain ⟨rfl, hH, hK⟩ := hv
  have hx := B.exec
  have hb := B.bytes
  have hr := B.returns
  have hts := atoms_spec (ws := wsX11_allOf) B.pre
  have hown : s.vm.findClass RX11 = some m.cls := findClass_of_methodNamed B.named
  have hlocks := B.notSynchronized
  have h00 : b0 ≤ s.heap.size := hH.1
  have hS : va_S (th_A b0) s.heap s.heap [] := va_S.rf
  have hF : fr [13] E σ σ := fr.rf
  have hM : fm [13, 14, 15, 16, 17, 18, 19, 20, 27, 28] E σ σ a := fm.rf
  have hl := lv_entry ([.ref a]) (n := 3) (Nat.le_of_ble_eq_true rfl)
  rw [lg_entry_eq]
  generalize (lg_sl ([.ref a]) ++ List.replicate (3 - (lg_sl ([.ref a])).length) Slot.unset).toArray = ls at hl ⊢
  have hl : lv_has ls 3 [(0, .ref a)] := hl
  obtain ⟨a110, ea110, ra110, la110, ua110⟩ := hO.gi h_a (by decide) k13_11
  obtain ⟨a130, ea130, ra130, la130, ua130⟩ := hO.gi h_a (by decide) k13_13
  obtain ⟨a140, ea140, ra140, la140, ua140⟩ := hO.gi h_a (by decide) k13_14
  obtain ⟨a170, ea170, ra170, la170, ua170⟩ := hO.gi h_a (by decide) k13_17
  obtain ⟨a190, ea190, ra190, la190, ua190⟩ := hO.gi h_a (by decide) k13_19
  obtain ⟨a270, ea270, ra270, la270, ua270⟩ := hO.gi h_a (by decide) k13_27
  obtain ⟨a280, ea280, ra280, la280, ua280⟩ := hO.gi h_a (by decide) k13_28
  obtain ⟨a300, ea300, ra300, la300, ua300⟩ := hO.gi h_a (by decide) k13_30
  have hV0 := hR0.1
  rcases Classical.em (fc = 0) with h0_1 | h0_1
  · subst h0_1
    try simp only [ne_eq, not_true_eq_false, not_false_eq_true, false_implies, true_implies, true_and, and_true, eq_self, false_or, or_false, false_and, and_false] at hV0
    have e_2 : gI σ a 19 = 0 := by omega
    have hG_3 := GS.start (T := T) (e := [(3, gI σ a 28)]) (j := jt) (t := gI σ a 27)
    have hG_4 := hG_3.all
    have e_5 : gI σ a 25 = 0 := by omega
    have e_6 : gI σ a 30 = -1 := by omega
    refine lv_aload_n hx hb dX11_allOf_0 rfl (lv_at hl 0 rfl) ?_
    obtain ⟨_, hc_7⟩ := hO.cell h_a (by decide) (ci := 11) rfl
    refine th_calli (va_runV (As := []) (rest := []) ⟨hx, hb, hml, hown, hts⟩ (ih l G y b0 σ E hO a h_a f1 ef1 Bf hsr T hSt 0 jt hR0 (by omega) (by omega) (by omega) (by omega) (by omega) (by omega)) (cwV 0 hts gX11_allOf_X11_atom rfl rfl rfl (by decide +kernel) ⟨(by first | exact fr_q (by decide) | exact fr_r (by decide) | exact fr_s (by decide) | (simp only [headSpec]; omega) | omega | (dsimp only; omega)), (by first | exact fr_q (by decide) | exact fr_r (by decide) | exact fr_s (by decide) | (simp only [headSpec]; omega) | omega | (dsimp only; omega))⟩) (th_PV hK hH rfl hc_7) rfl rfl hl.1 rfl (lv_room (Nat.le_of_ble_eq_true rfl)) dX11_allOf_1 ⟨(by first | exact fr_q (by decide) | exact fr_r (by decide) | exact fr_s (by decide) | (simp only [headSpec]; omega) | omega | (dsimp only; omega)), (by first | exact fr_q (by decide) | exact fr_r (by decide) | exact fr_s (by decide) | (simp only [headSpec]; omega) | omega | (dsimp only; omega))⟩) hS (fun z_10 σ_s_9 H locs rz_10 hw_8 hH hS => ?_)
    obtain ⟨hO9, hF9, hM9, bhw_8, hw_8⟩ := hw_8
    replace hM := hM.tu hM9 (by decide)
    replace hF := hF.tu hF9 (by decide)
    have e_11 : aF σ_s_9 (ad E a 1) = f1 := (hM9.a (by decide) (by decide)).trans ef1
    have e_12 : gI σ_s_9 a 11 = a110 := (hM9.i (by decide)).trans ea110
    have e_13 : gI σ_s_9 a 30 = (-1) := (hM9.i (by decide)).trans e_6
    have e_14 : gI σ_s_9 a 25 = 0 := (hM9.i (by decide)).trans e_5
    replace hsr := hsr.mv hM9 (by decide) (by decide) (by decide) (by decide) (by decide)
    replace hO := hO9
    replace hw_8 : ((gI σ a 13 ≤ gI σ_s_9 a 13 ∧ gI σ_s_9 a 13 ≤ gI σ a 11 ∧ 0 ≤ gI σ_s_9 a 17 ∧ gI σ_s_9 a 17 ≤ gI σ_s_9 a 13) ∧ gI σ_s_9 a 28 = gI σ a 28) ∧ ∃ c1 j1, RSt σ_s_9 a T c1 j1 ∧ ((0 : Int) ≠ 0 → c1 = 0 ∧ j1 = jt) ∧ ((0 : Int) = 0 → jt ≤ j1 ∧ GS T [(1, gI σ a 28)] jt (gI σ a 27) [] c1 j1 (gI σ_s_9 a 27)) ∧ (c1 = 0 → 0 ≤ gI σ_s_9 a 27 ∧ gI σ_s_9 a 27 ≤ 12) := hw_8
    replace hV0 := hid.mk hV0
    have hn_15 := hw_8.2
    replace hw_8 := hw_8.1
    obtain ⟨cc_16, jj_17, hR_18, hn_15⟩ := hn_15
    have hVhR_18 := hR_18.1
    rcases Classical.em (cc_16 = 0) with h0_19 | h0_19
    · subst h0_19
      try simp only [ne_eq, not_true_eq_false, not_false_eq_true, false_implies, true_implies, true_and, and_true, eq_self, false_or, or_false, false_and, and_false] at hVhR_18
      have e_20 : gI σ_s_9 a 19 = 0 := by omega
      have hG_21 := hG_4.call (c2 := 0) (j2 := jj_17) (t2 := gI σ_s_9 a 27) (fun _ => GS.cg1 (hn_15.2.1 rfl).2 (by omega) rfl (by omega)) (fun h9 => absurd rfl h9)
      have hq_22 := (hn_15.2.1 rfl).1
      have hq_23 := hn_15.2.2
      replace hn_15 := hid.mk hn_15
      refine lv_istore_n (lv' := [(1, .int (I z_10)), (0, .ref a)]) hx hb dX11_allOf_4 rfl hl (by decide) rfl (fun ls hl => ?_)
      refine th_loop (α := Int × Int) (pc := 5) (fun x9 => (tm T - x9.2).toNat) (fun x9 σ9 H9 l9 ls9 => ok y E σ9 ∧ fr [13] E σ σ9 ∧ fm [13, 14, 15, 16, 17, 18, 19, 20, 27, 28] E σ σ9 a ∧ sr E σ9 a Bf ∧ th_H G b0 σ9 H9 ∧ va_S (th_A b0) s.heap H9 l9 ∧ lv_has ls9 3 [(0, .ref a), (1, .int (I x9.1))] ∧ rng x9.1 ∧ (gI σ a 13 ≤ gI σ9 a 13) ∧ (gI σ9 a 13 ≤ gI σ a 11) ∧ (0 ≤ gI σ9 a 17) ∧ (gI σ9 a 17 ≤ gI σ9 a 13) ∧ (jt ≤ x9.2) ∧ (0 ≤ gI σ9 a 27) ∧ (gI σ9 a 27 ≤ 12) ∧ (gI σ9 a 28 = gI σ a 28) ∧ (0 ≤ x9.1) ∧ (x9.1 ≤ 1) ∧ (RSt σ9 a T 0 x9.2) ∧ (GS T [(3, gI σ a 28)] jt (gI σ a 27) [(7, gI σ a 28)] 0 x9.2 (gI σ9 a 27)) ∧ (gI σ9 a 11 = a110) ∧ (gI σ9 a 30 = (-1)) ∧ (gI σ9 a 25 = 0) ∧ (aF σ9 (ad E a 1) = f1)) ?_ (z_10, jj_17) σ_s_9 _ _ _ ⟨hO, hF, hM, hsr, hH, hS, lv_sub hl [1, 0] rfl, rz_10, by first | (dsimp only; omega) | omega, by first | (dsimp only; omega) | omega, by first | (dsimp only; omega) | omega, by first | (dsimp only; omega) | omega, by first | (dsimp only; omega) | omega, by first | (dsimp only; omega) | omega, by first | (dsimp only; omega) | omega, by first | (dsimp only; omega) | omega, by first | (dsimp only; omega) | omega, by first | (dsimp only; omega) | omega, hR_18, (hG_21.ec rfl rfl (fun _ => by omega)), e_12, e_13, e_14, e_11⟩
      intro x9 σ_J_135 H locs ls hI9 ihJ_135
      obtain ⟨v1q134, jqq133⟩ := x9
      obtain ⟨hO, hF, hM, hsr, hH, hS, hl, rv1q134, J_135_0, J_135_1, J_135_2, J_135_3, J_135_4, J_135_5, J_135_6, J_135_7, J_135_8, J_135_9, J_135_10, J_135_11, J_135_12, J_135_13, J_135_14, J_135_15⟩ := hI9
      replace hl : lv_has ls 3 [(0, .ref a), (1, .int (I v1q134))] := hl
      replace rv1q134 : rng v1q134 := rv1q134
      replace J_135_0 : gI σ a 13 ≤ gI σ_J_135 a 13 := J_135_0
      replace J_135_1 : gI σ_J_135 a 13 ≤ gI σ a 11 := J_135_1
      replace J_135_2 : 0 ≤ gI σ_J_135 a 17 := J_135_2
      replace J_135_3 : gI σ_J_135 a 17 ≤ gI σ_J_135 a 13 := J_135_3
      replace J_135_4 : jt ≤ jqq133 := J_135_4
      replace J_135_5 : 0 ≤ gI σ_J_135 a 27 := J_135_5
      replace J_135_6 : gI σ_J_135 a 27 ≤ 12 := J_135_6
      replace J_135_7 : gI σ_J_135 a 28 = gI σ a 28 := J_135_7
      replace J_135_8 : 0 ≤ v1q134 := J_135_8
      replace J_135_9 : v1q134 ≤ 1 := J_135_9
      replace J_135_10 : RSt σ_J_135 a T 0 jqq133 := J_135_10
      replace J_135_11 : GS T [(3, gI σ a 28)] jt (gI σ a 27) [(7, gI σ a 28)] 0 jqq133 (gI σ_J_135 a 27) := J_135_11
      replace J_135_12 : gI σ_J_135 a 11 = a110 := J_135_12
      replace J_135_13 : gI σ_J_135 a 30 = (-1) := J_135_13
      replace J_135_14 : gI σ_J_135 a 25 = 0 := J_135_14
      replace J_135_15 : aF σ_J_135 (ad E a 1) = f1 := J_135_15
      replace hw_8 := hid.mk hw_8
      replace hVhR_18 := hid.mk hVhR_18
      have hVJ_135_10 := J_135_10.1
      try simp only [ne_eq, not_true_eq_false, not_false_eq_true, false_implies, true_implies, true_and, and_true, eq_self, false_or, or_false, false_and, and_false] at hVJ_135_10
      have e_136 : gI σ_J_135 a 19 = 0 := by omega
      refine lv_aload_n hx hb dX11_allOf_5 rfl (lv_at hl 0 rfl) ?_
      refine lv_bipush (v := I 38) hx hb dX11_allOf_6 (by decide) ?_
      obtain ⟨_, hc_137⟩ := hO.cell h_a (by decide) (ci := 11) rfl
      refine th_calli (va_runV (As := [.int (I 38)]) (rest := []) ⟨hx, hb, hml, hown, hts⟩ (n_isMarked l G y b0 σ_J_135 E hO a h_a 38 (show rng 38 from (show rng 38 from ⟨by decide, by decide⟩)) (by omega) (by omega) Bf hsr T hSt 0 jqq133 J_135_10 (by omega)) (cwV 1 hts gX11_allOf_X11_isMarked rfl rfl rfl (by decide +kernel) ⟨(by first | exact fr_q (by decide) | exact fr_r (by decide) | exact fr_s (by decide) | (simp only [headSpec]; omega) | omega | (dsimp only; omega)), (by first | exact fr_q (by decide) | exact fr_r (by decide) | exact fr_s (by decide) | (simp only [headSpec]; omega) | omega | (dsimp only; omega))⟩) (th_PV hK hH rfl hc_137) rfl rfl hl.1 rfl (lv_room (Nat.le_of_ble_eq_true rfl)) dX11_allOf_8 ⟨(by first | exact fr_q (by decide) | exact fr_r (by decide) | exact fr_s (by decide) | (simp only [headSpec]; omega) | omega | (dsimp only; omega)), (by first | exact fr_q (by decide) | exact fr_r (by decide) | exact fr_s (by decide) | (simp only [headSpec]; omega) | omega | (dsimp only; omega))⟩) hS (fun z_140 σ_s_139 H locs rz_140 hw_138 hH hS => ?_)
      obtain ⟨e9, bhw_138, hw_138⟩ := hw_138
      replace e9 := e9.symm
      subst e9
      replace hw_138 : (z_140 = 1 ∧ (0 : Int) = 0 ∧ tK T jqq133 = 38) ∨ (z_140 = 0 ∧ ((0 : Int) ≠ 0 ∨ tK T jqq133 ≠ 38)) := hw_138
      obtain ⟨hw_138, -, hs_141⟩ | ⟨hw_138, hs_141⟩ := hw_138
      · subst hw_138
        refine lv_if_eq (tgt := 40) hx hb dX11_allOf_11 (by decide) (fun c_142 => absurd c_142 (by decide)) (fun _ => ?_)
        refine lv_aload_n hx hb dX11_allOf_14 rfl (lv_at hl 0 rfl) ?_
        obtain ⟨z_143, e_144, rz_143, lz_143, uz_143⟩ := hO.gi h_a (by decide) k13_28
        obtain ⟨z_145, e_146, rz_145, lz_145, uz_145⟩ := hO.gi h_a (by decide) k13_27
        obtain ⟨_, hc_147⟩ := hO.cell h_a (by decide) (ci := 11) rfl
        refine th_callv (va_runV (As := []) (rest := []) ⟨hx, hb, hml, hown, hts⟩ (n_pass l G y b0 σ_J_135 E hO a h_a Bf hsr T hSt 0 jqq133 J_135_10 (by omega) (by omega)) (cwV 0 hts gX11_allOf_X11_pass rfl rfl rfl (by decide +kernel) ⟨(by first | exact fr_q (by decide) | exact fr_r (by decide) | exact fr_s (by decide) | (simp only [headSpec]; omega) | omega | (dsimp only; omega)), (by first | exact fr_q (by decide) | exact fr_r (by decide) | exact fr_s (by decide) | (simp only [headSpec]; omega) | omega | (dsimp only; omega))⟩) (th_PV hK hH rfl hc_147) rfl rfl hl.1 rfl (lv_room (Nat.le_of_ble_eq_true rfl)) dX11_allOf_15 ⟨(by first | exact fr_q (by decide) | exact fr_r (by decide) | exact fr_s (by decide) | (simp only [headSpec]; omega) | omega | (dsimp only; omega)), (by first | exact fr_q (by decide) | exact fr_r (by decide) | exact fr_s (by decide) | (simp only [headSpec]; omega) | omega | (dsimp only; omega))⟩) hS (fun σ_s_149 H locs hw_148 hH hS => ?_)
        obtain ⟨hO9, hF9, hM9, hw_148⟩ := hw_148
        replace hM := hM.tu hM9 (by decide)
        replace hF := hF.tu hF9 (by decide)
        have e_150 : gI σ_s_149 a 11 = a110 := (hM9.i (by decide)).trans J_135_12
        have e_151 : gI σ_s_149 a 30 = (-1) := (hM9.i (by decide)).trans J_135_13
        have e_152 : gI σ_s_149 a 25 = 0 := (hM9.i (by decide)).trans J_135_14
        have e_153 : aF σ_s_149 (ad E a 1) = f1 := (hM9.a (by decide) (by decide)).trans J_135_15
        have e_154 : gI σ_s_149 a 19 = 0 := (hM9.i (by decide)).trans e_136
        have e_155 : gI σ_s_149 a 28 = z_143 := (hM9.i (by decide)).trans e_144
        have e_156 : gI σ_s_149 a 27 = z_145 := (hM9.i (by decide)).trans e_146
        replace hsr := hsr.mv hM9 (by decide) (by decide) (by decide) (by decide) (by decide)
        replace hO := hO9
        replace hw_148 : ((gI σ_J_135 a 13 ≤ gI σ_s_149 a 13 ∧ gI σ_s_149 a 13 ≤ gI σ_J_135 a 11 ∧ 0 ≤ gI σ_s_149 a 17 ∧ gI σ_s_149 a 17 ≤ gI σ_s_149 a 13) ∧ pgo (gI σ_s_149 a 19) (gI σ_s_149 a 14) (gI σ_J_135 a 13) (gI σ_s_149 a 13) ∧ gI σ_s_149 a 19 = gI σ_J_135 a 19) ∧ ∃ c1 j1, RSt σ_s_149 a T c1 j1 ∧ (c1 = 0 ∧ ((0 : Int) ≠ 0 → j1 = jqq133) ∧ ((0 : Int) = 0 → j1 = jqq133 + 1)) := hw_148
        replace hVJ_135_10 := hid.mk hVJ_135_10
        have hn_157 := hw_148.2
        replace hw_148 := hw_148.1
        obtain ⟨cc_158, jj_159, hR_160, hn_157⟩ := hn_157
        have hVhR_160 := hR_160.1
        have h0_161 : cc_158 = 0 := by omega
        subst h0_161
        try simp only [ne_eq, not_true_eq_false, not_false_eq_true, false_implies, true_implies, true_and, and_true, eq_self, false_or, or_false, false_and, and_false] at hVhR_160
        have e_162 : gI σ_s_149 a 19 = 0 := by omega
        have hj_163 : jqq133 + 1 = jj_159 := by omega
        subst hj_163
        have hG_164 := J_135_11.and hs_141
        refine lv_aload_n hx hb dX11_allOf_18 rfl (lv_at hl 0 rfl) ?_
        obtain ⟨_, hc_165⟩ := hO.cell h_a (by decide) (ci := 11) rfl
        refine th_calli (va_runV (As := []) (rest := []) ⟨hx, hb, hml, hown, hts⟩ (ih l G y b0 σ_s_149 E hO a h_a f1 e_153 Bf hsr T hSt 0 (jqq133 + 1) hR_160 (by omega) (by omega) (by omega) (by omega) (by omega) (by omega)) (cwV 0 hts gX11_allOf_X11_atom rfl rfl rfl (by decide +kernel) ⟨(by first | exact fr_q (by decide) | exact fr_r (by decide) | exact fr_s (by decide) | (simp only [headSpec]; omega) | omega | (dsimp only; omega)), (by first | exact fr_q (by decide) | exact fr_r (by decide) | exact fr_s (by decide) | (simp only [headSpec]; omega) | omega | (dsimp only; omega))⟩) (th_PV hK hH rfl hc_165) rfl rfl hl.1 rfl (lv_room (Nat.le_of_ble_eq_true rfl)) dX11_allOf_19 ⟨(by first | exact fr_q (by decide) | exact fr_r (by decide) | exact fr_s (by decide) | (simp only [headSpec]; omega) | omega | (dsimp only; omega)), (by first | exact fr_q (by decide) | exact fr_r (by decide) | exact fr_s (by decide) | (simp only [headSpec]; omega) | omega | (dsimp only; omega))⟩) hS (fun z_168 σ_s_167 H locs rz_168 hw_166 hH hS => ?_)
        obtain ⟨hO9, hF9, hM9, bhw_166, hw_166⟩ := hw_166
        replace hM := hM.tu hM9 (by decide)
        replace hF := hF.tu hF9 (by decide)
        have e_169 : gI σ_s_167 a 11 = a110 := (hM9.i (by decide)).trans e_150
        have e_170 : gI σ_s_167 a 30 = (-1) := (hM9.i (by decide)).trans e_151
        have e_171 : gI σ_s_167 a 25 = 0 := (hM9.i (by decide)).trans e_152
        have e_172 : aF σ_s_167 (ad E a 1) = f1 := (hM9.a (by decide) (by decide)).trans e_153
        replace hsr := hsr.mv hM9 (by decide) (by decide) (by decide) (by decide) (by decide)
        replace hO := hO9
        replace hw_166 : ((gI σ_s_149 a 13 ≤ gI σ_s_167 a 13 ∧ gI σ_s_167 a 13 ≤ gI σ_s_149 a 11 ∧ 0 ≤ gI σ_s_167 a 17 ∧ gI σ_s_167 a 17 ≤ gI σ_s_167 a 13) ∧ gI σ_s_167 a 28 = gI σ_s_149 a 28) ∧ ∃ c1 j1, RSt σ_s_167 a T c1 j1 ∧ ((0 : Int) ≠ 0 → c1 = 0 ∧ j1 = (jqq133 + 1)) ∧ ((0 : Int) = 0 → (jqq133 + 1) ≤ j1 ∧ GS T [(1, gI σ_s_149 a 28)] (jqq133 + 1) (gI σ_s_149 a 27) [] c1 j1 (gI σ_s_167 a 27)) ∧ (c1 = 0 → 0 ≤ gI σ_s_167 a 27 ∧ gI σ_s_167 a 27 ≤ 12) := hw_166
        have hb_173 := hw_148.1
        replace hw_148 := hid.mk hw_148
        replace hn_157 := hid.mk hn_157
        replace hVhR_160 := hid.mk hVhR_160
        have hn_174 := hw_166.2
        replace hw_166 := hw_166.1
        obtain ⟨cc_175, jj_176, hR_177, hn_174⟩ := hn_174
        have hVhR_177 := hR_177.1
        rcases Classical.em (cc_175 = 0) with h0_178 | h0_178
        · subst h0_178
          try simp only [ne_eq, not_true_eq_false, not_false_eq_true, false_implies, true_implies, true_and, and_true, eq_self, false_or, or_false, false_and, and_false] at hVhR_177
          have e_179 : gI σ_s_167 a 19 = 0 := by omega
          have hG_180 := hG_164.call (c2 := 0) (j2 := jj_176) (t2 := gI σ_s_167 a 27) (fun _ => GS.cg1 (hn_174.2.1 rfl).2 (by omega) rfl (by omega)) (fun h9 => absurd rfl h9)
          have hq_181 := (hn_174.2.1 rfl).1
          have hq_182 := hn_174.2.2
          replace hn_174 := hid.mk hn_174
          refine lv_istore_n (lv' := [(2, .int (I z_168)), (0, .ref a), (1, .int (I v1q134))]) hx hb dX11_allOf_22 rfl hl (by decide) rfl (fun ls hl => ?_)
          refine lv_iload_n hx hb dX11_allOf_23 rfl (lv_at hl 2 rfl) ?_
          refine lv_if_eq (tgt := 35) hx hb dX11_allOf_24 (by decide) (fun c_183 => ?_) (fun c_183 => ?_)
          · replace c_183 := (I_eq (a := v1q134) (b := 0) rv1q134 (show rng 0 from ⟨by decide, by decide⟩)).mp c_183
            refine lv_iconst (v := I 0) hx hb dX11_allOf_35 (by decide) ?_
            refine lv_istore_n (lv' := [(1, .int (I 0)), (2, .int (I z_168)), (0, .ref a)]) hx hb dX11_allOf_36 rfl hl (by decide) rfl (fun ls hl => ?_)
            refine lv_goto (tgt := 5) hx hb dX11_allOf_37 (by decide) ?_
            replace hl : lv_has ls 3 [(1, .int (I 0)), (0, .ref a)] := lv_sub hl [0, 2] rfl
            exact ihJ_135 (0, jj_176) σ_s_167 _ _ _ (by first | (dsimp only; omega) | omega) ⟨hO, hF, hM, hsr, hH, hS, lv_sub hl [1, 0] rfl, (show rng 0 from ⟨by decide, by decide⟩), by first | (dsimp only; omega) | omega, by first | (dsimp only; omega) | omega, by first | (dsimp only; omega) | omega, by first | (dsimp only; omega) | omega, by first | (dsimp only; omega) | omega, by first | (dsimp only; omega) | omega, by first | (dsimp only; omega) | omega, by first | (dsimp only; omega) | omega, by first | (dsimp only; omega) | omega, by first | (dsimp only; omega) | omega, hR_177, (hG_180.ec rfl rfl (fun _ => by omega)), e_169, e_170, e_171, e_172⟩
          · replace c_183 := mt (I_eq (a := v1q134) (b := 0) rv1q134 (show rng 0 from ⟨by decide, by decide⟩)).mpr c_183
            refine lv_iload_n hx hb dX11_allOf_27 rfl (lv_at hl 0 rfl) ?_
            refine lv_if_eq (tgt := 35) hx hb dX11_allOf_28 (by decide) (fun c_184 => ?_) (fun c_184 => ?_)
            · replace c_184 := (I_eq (a := z_168) (b := 0) rz_168 (show rng 0 from ⟨by decide, by decide⟩)).mp c_184
              refine lv_iconst (v := I 0) hx hb dX11_allOf_35 (by decide) ?_
              refine lv_istore_n (lv' := [(1, .int (I 0)), (2, .int (I z_168)), (0, .ref a)]) hx hb dX11_allOf_36 rfl hl (by decide) rfl (fun ls hl => ?_)
              refine lv_goto (tgt := 5) hx hb dX11_allOf_37 (by decide) ?_
              replace hl : lv_has ls 3 [(1, .int (I 0)), (0, .ref a)] := lv_sub hl [0, 2] rfl
              exact ihJ_135 (0, jj_176) σ_s_167 _ _ _ (by first | (dsimp only; omega) | omega) ⟨hO, hF, hM, hsr, hH, hS, lv_sub hl [1, 0] rfl, (show rng 0 from ⟨by decide, by decide⟩), by first | (dsimp only; omega) | omega, by first | (dsimp only; omega) | omega, by first | (dsimp only; omega) | omega, by first | (dsimp only; omega) | omega, by first | (dsimp only; omega) | omega, by first | (dsimp only; omega) | omega, by first | (dsimp only; omega) | omega, by first | (dsimp only; omega) | omega, by first | (dsimp only; omega) | omega, by first | (dsimp only; omega) | omega, hR_177, (hG_180.ec rfl rfl (fun _ => by omega)), e_169, e_170, e_171, e_172⟩
            · replace c_184 := mt (I_eq (a := z_168) (b := 0) rz_168 (show rng 0 from ⟨by decide, by decide⟩)).mpr c_184
              refine lv_iconst (v := I 1) hx hb dX11_allOf_31 (by decide) ?_
              refine lv_goto (tgt := 36) hx hb dX11_allOf_32 (by decide) ?_
              refine lv_istore_n (lv' := [(1, .int (I 1)), (2, .int (I z_168)), (0, .ref a)]) hx hb dX11_allOf_36 rfl hl (by decide) rfl (fun ls hl => ?_)
              refine lv_goto (tgt := 5) hx hb dX11_allOf_37 (by decide) ?_
              replace hl : lv_has ls 3 [(1, .int (I 1)), (0, .ref a)] := lv_sub hl [0, 2] rfl
              exact ihJ_135 (1, jj_176) σ_s_167 _ _ _ (by first | (dsimp only; omega) | omega) ⟨hO, hF, hM, hsr, hH, hS, lv_sub hl [1, 0] rfl, (show rng 1 from ⟨by decide, by decide⟩), by first | (dsimp only; omega) | omega, by first | (dsimp only; omega) | omega, by first | (dsimp only; omega) | omega, by first | (dsimp only; omega) | omega, by first | (dsimp only; omega) | omega, by first | (dsimp only; omega) | omega, by first | (dsimp only; omega) | omega, by first | (dsimp only; omega) | omega, by first | (dsimp only; omega) | omega, by first | (dsimp only; omega) | omega, hR_177, (hG_180.ec rfl rfl (fun _ => by omega)), e_169, e_170, e_171, e_172⟩
        · try simp only [h0_178, ne_eq, not_true_eq_false, not_false_eq_true, false_implies, true_implies, true_and, and_true, eq_self, false_or, or_false, false_and, and_false] at hVhR_177
          have hG_185 := hG_164.call (c2 := cc_175) (j2 := jj_176) (t2 := gI σ_s_167 a 27) (fun _ => GS.cg1 (hn_174.2.1 rfl).2 (by omega) rfl (by omega)) (fun h9 => absurd rfl h9)
          have hq_186 := (hn_174.2.1 rfl).1
          have hq_187 := hn_174.2.2
          replace hn_174 := hid.mk hn_174
          refine lv_istore_n (lv' := [(2, .int (I z_168)), (0, .ref a), (1, .int (I v1q134))]) hx hb dX11_allOf_22 rfl hl (by decide) rfl (fun ls hl => ?_)
          refine lv_iload_n hx hb dX11_allOf_23 rfl (lv_at hl 2 rfl) ?_
          refine lv_if_eq (tgt := 35) hx hb dX11_allOf_24 (by decide) (fun c_188 => ?_) (fun c_188 => ?_)
          · replace c_188 := (I_eq (a := v1q134) (b := 0) rv1q134 (show rng 0 from ⟨by decide, by decide⟩)).mp c_188
            refine lv_iconst (v := I 0) hx hb dX11_allOf_35 (by decide) ?_
            refine lv_istore_n (lv' := [(1, .int (I 0)), (2, .int (I z_168)), (0, .ref a)]) hx hb dX11_allOf_36 rfl hl (by decide) rfl (fun ls hl => ?_)
            refine lv_goto (tgt := 5) hx hb dX11_allOf_37 (by decide) ?_
            refine lv_aload_n hx hb dX11_allOf_5 rfl (lv_at hl 2 rfl) ?_
            refine lv_bipush (v := I 38) hx hb dX11_allOf_6 (by decide) ?_
            obtain ⟨_, hc_189⟩ := hO.cell h_a (by decide) (ci := 11) rfl
            refine th_calli (va_runV (As := [.int (I 38)]) (rest := []) ⟨hx, hb, hml, hown, hts⟩ (n_isMarked l G y b0 σ_s_167 E hO a h_a 38 (show rng 38 from (show rng 38 from ⟨by decide, by decide⟩)) (by omega) (by omega) Bf hsr T hSt cc_175 jj_176 hR_177 (by omega)) (cwV 1 hts gX11_allOf_X11_isMarked rfl rfl rfl (by decide +kernel) ⟨(by first | exact fr_q (by decide) | exact fr_r (by decide) | exact fr_s (by decide) | (simp only [headSpec]; omega) | omega | (dsimp only; omega)), (by first | exact fr_q (by decide) | exact fr_r (by decide) | exact fr_s (by decide) | (simp only [headSpec]; omega) | omega | (dsimp only; omega))⟩) (th_PV hK hH rfl hc_189) rfl rfl hl.1 rfl (lv_room (Nat.le_of_ble_eq_true rfl)) dX11_allOf_8 ⟨(by first | exact fr_q (by decide) | exact fr_r (by decide) | exact fr_s (by decide) | (simp only [headSpec]; omega) | omega | (dsimp only; omega)), (by first | exact fr_q (by decide) | exact fr_r (by decide) | exact fr_s (by decide) | (simp only [headSpec]; omega) | omega | (dsimp only; omega))⟩) hS (fun z_192 σ_s_191 H locs rz_192 hw_190 hH hS => ?_)
            obtain ⟨e9, bhw_190, hw_190⟩ := hw_190
            replace e9 := e9.symm
            subst e9
            replace hw_190 : (z_192 = 1 ∧ cc_175 = 0 ∧ tK T jj_176 = 38) ∨ (z_192 = 0 ∧ (cc_175 ≠ 0 ∨ tK T jj_176 ≠ 38)) := hw_190
            have hb_193 := hw_166.1
            have hb_194 := hw_166.2
            replace hw_166 := hid.mk hw_166
            try simp only [h0_178, ne_eq, not_true_eq_false, not_false_eq_true, false_implies, true_implies, true_and, and_true, eq_self, false_or, or_false, false_and, and_false] at hw_190
            replace hw_190 : z_192 = 0 := by omega
            subst hw_190
            refine lv_if_eq (tgt := 40) hx hb dX11_allOf_11 (by decide) (fun _ => ?_) (fun c_195 => absurd (by decide) c_195)
            refine lv_iload_n hx hb dX11_allOf_40 rfl (lv_at hl 0 rfl) ?_
            exact th_zret hx hb hr hlocks hH hS (z := 0) (by omega) ⟨hO, hF, hM, ⟨by omega, by omega⟩, ⟨⟨by omega, by omega⟩, cc_175, jj_176, hR_177, ⟨(fun h9 => absurd rfl h9), fun _ => ⟨by omega, hG_185.was h0_178⟩, fun h9 => absurd h9 h0_178⟩⟩⟩ dX11_allOf_41
          · replace c_188 := mt (I_eq (a := v1q134) (b := 0) rv1q134 (show rng 0 from ⟨by decide, by decide⟩)).mpr c_188
            refine lv_iload_n hx hb dX11_allOf_27 rfl (lv_at hl 0 rfl) ?_
            refine lv_if_eq (tgt := 35) hx hb dX11_allOf_28 (by decide) (fun c_196 => ?_) (fun c_196 => ?_)
            · replace c_196 := (I_eq (a := z_168) (b := 0) rz_168 (show rng 0 from ⟨by decide, by decide⟩)).mp c_196
              refine lv_iconst (v := I 0) hx hb dX11_allOf_35 (by decide) ?_
              refine lv_istore_n (lv' := [(1, .int (I 0)), (2, .int (I z_168)), (0, .ref a)]) hx hb dX11_allOf_36 rfl hl (by decide) rfl (fun ls hl => ?_)
              refine lv_goto (tgt := 5) hx hb dX11_allOf_37 (by decide) ?_
              refine lv_aload_n hx hb dX11_allOf_5 rfl (lv_at hl 2 rfl) ?_
              refine lv_bipush (v := I 38) hx hb dX11_allOf_6 (by decide) ?_
              obtain ⟨_, hc_197⟩ := hO.cell h_a (by decide) (ci := 11) rfl
              refine th_calli (va_runV (As := [.int (I 38)]) (rest := []) ⟨hx, hb, hml, hown, hts⟩ (n_isMarked l G y b0 σ_s_167 E hO a h_a 38 (show rng 38 from (show rng 38 from ⟨by decide, by decide⟩)) (by omega) (by omega) Bf hsr T hSt cc_175 jj_176 hR_177 (by omega)) (cwV 1 hts gX11_allOf_X11_isMarked rfl rfl rfl (by decide +kernel) ⟨(by first | exact fr_q (by decide) | exact fr_r (by decide) | exact fr_s (by decide) | (simp only [headSpec]; omega) | omega | (dsimp only; omega)), (by first | exact fr_q (by decide) | exact fr_r (by decide) | exact fr_s (by decide) | (simp only [headSpec]; omega) | omega | (dsimp only; omega))⟩) (th_PV hK hH rfl hc_197) rfl rfl hl.1 rfl (lv_room (Nat.le_of_ble_eq_true rfl)) dX11_allOf_8 ⟨(by first | exact fr_q (by decide) | exact fr_r (by decide) | exact fr_s (by decide) | (simp only [headSpec]; omega) | omega | (dsimp only; omega)), (by first | exact fr_q (by decide) | exact fr_r (by decide) | exact fr_s (by decide) | (simp only [headSpec]; omega) | omega | (dsimp only; omega))⟩) hS (fun z_200 σ_s_199 H locs rz_200 hw_198 hH hS => ?_)
              obtain ⟨e9, bhw_198, hw_198⟩ := hw_198
              replace e9 := e9.symm
              subst e9
              replace hw_198 : (z_200 = 1 ∧ cc_175 = 0 ∧ tK T jj_176 = 38) ∨ (z_200 = 0 ∧ (cc_175 ≠ 0 ∨ tK T jj_176 ≠ 38)) := hw_198
              have hb_201 := hw_166.1
              have hb_202 := hw_166.2
              replace hw_166 := hid.mk hw_166
              try simp only [h0_178, ne_eq, not_true_eq_false, not_false_eq_true, false_implies, true_implies, true_and, and_true, eq_self, false_or, or_false, false_and, and_false] at hw_198
              replace hw_198 : z_200 = 0 := by omega
              subst hw_198
              refine lv_if_eq (tgt := 40) hx hb dX11_allOf_11 (by decide) (fun _ => ?_) (fun c_203 => absurd (by decide) c_203)
              refine lv_iload_n hx hb dX11_allOf_40 rfl (lv_at hl 0 rfl) ?_
              exact th_zret hx hb hr hlocks hH hS (z := 0) (by omega) ⟨hO, hF, hM, ⟨by omega, by omega⟩, ⟨⟨by omega, by omega⟩, cc_175, jj_176, hR_177, ⟨(fun h9 => absurd rfl h9), fun _ => ⟨by omega, hG_185.was h0_178⟩, fun h9 => absurd h9 h0_178⟩⟩⟩ dX11_allOf_41
            · replace c_196 := mt (I_eq (a := z_168) (b := 0) rz_168 (show rng 0 from ⟨by decide, by decide⟩)).mpr c_196
              refine lv_iconst (v := I 1) hx hb dX11_allOf_31 (by decide) ?_
              refine lv_goto (tgt := 36) hx hb dX11_allOf_32 (by decide) ?_
              refine lv_istore_n (lv' := [(1, .int (I 1)), (2, .int (I z_168)), (0, .ref a)]) hx hb dX11_allOf_36 rfl hl (by decide) rfl (fun ls hl => ?_)
              refine lv_goto (tgt := 5) hx hb dX11_allOf_37 (by decide) ?_
              refine lv_aload_n hx hb dX11_allOf_5 rfl (lv_at hl 2 rfl) ?_
              refine lv_bipush (v := I 38) hx hb dX11_allOf_6 (by decide) ?_
              obtain ⟨_, hc_204⟩ := hO.cell h_a (by decide) (ci := 11) rfl
              refine th_calli (va_runV (As := [.int (I 38)]) (rest := []) ⟨hx, hb, hml, hown, hts⟩ (n_isMarked l G y b0 σ_s_167 E hO a h_a 38 (show rng 38 from (show rng 38 from ⟨by decide, by decide⟩)) (by omega) (by omega) Bf hsr T hSt cc_175 jj_176 hR_177 (by omega)) (cwV 1 hts gX11_allOf_X11_isMarked rfl rfl rfl (by decide +kernel) ⟨(by first | exact fr_q (by decide) | exact fr_r (by decide) | exact fr_s (by decide) | (simp only [headSpec]; omega) | omega | (dsimp only; omega)), (by first | exact fr_q (by decide) | exact fr_r (by decide) | exact fr_s (by decide) | (simp only [headSpec]; omega) | omega | (dsimp only; omega))⟩) (th_PV hK hH rfl hc_204) rfl rfl hl.1 rfl (lv_room (Nat.le_of_ble_eq_true rfl)) dX11_allOf_8 ⟨(by first | exact fr_q (by decide) | exact fr_r (by decide) | exact fr_s (by decide) | (simp only [headSpec]; omega) | omega | (dsimp only; omega)), (by first | exact fr_q (by decide) | exact fr_r (by decide) | exact fr_s (by decide) | (simp only [headSpec]; omega) | omega | (dsimp only; omega))⟩) hS (fun z_207 σ_s_206 H locs rz_207 hw_205 hH hS => ?_)
              obtain ⟨e9, bhw_205, hw_205⟩ := hw_205
              replace e9 := e9.symm
              subst e9
              replace hw_205 : (z_207 = 1 ∧ cc_175 = 0 ∧ tK T jj_176 = 38) ∨ (z_207 = 0 ∧ (cc_175 ≠ 0 ∨ tK T jj_176 ≠ 38)) := hw_205
              have hb_208 := hw_166.1
              have hb_209 := hw_166.2
              replace hw_166 := hid.mk hw_166
              try simp only [h0_178, ne_eq, not_true_eq_false, not_false_eq_true, false_implies, true_implies, true_and, and_true, eq_self, false_or, or_false, false_and, and_false] at hw_205
              replace hw_205 : z_207 = 0 := by omega
              subst hw_205
              refine lv_if_eq (tgt := 40) hx hb dX11_allOf_11 (by decide) (fun _ => ?_) (fun c_210 => absurd (by decide) c_210)
              refine lv_iload_n hx hb dX11_allOf_40 rfl (lv_at hl 0 rfl) ?_
              exact th_zret hx hb hr hlocks hH hS (z := 1) (by omega) ⟨hO, hF, hM, ⟨by omega, by omega⟩, ⟨⟨by omega, by omega⟩, cc_175, jj_176, hR_177, ⟨(fun h9 => absurd rfl h9), fun _ => ⟨by omega, hG_185.was h0_178⟩, fun h9 => absurd h9 h0_178⟩⟩⟩ dX11_allOf_41
      · replace hs_141 := hs_141.resolve_left (fun h9 => h9 rfl)
        subst hw_138
        refine lv_if_eq (tgt := 40) hx hb dX11_allOf_11 (by decide) (fun _ => ?_) (fun c_211 => absurd (by decide) c_211)
        refine lv_iload_n hx hb dX11_allOf_40 rfl (lv_at hl 1 rfl) ?_
        have hG_212 := J_135_11.andE (fun _ => hs_141)
        exact th_zret hx hb hr hlocks hH hS (z := v1q134) (by omega) ⟨hO, hF, hM, ⟨by omega, by omega⟩, ⟨⟨by omega, by omega⟩, 0, jqq133, J_135_10, ⟨(fun h9 => absurd rfl h9), fun _ => ⟨by omega, hG_212.ec rfl rfl (fun _ => by omega)⟩, fun _ => by omega⟩⟩⟩ dX11_allOf_41
    · try simp only [h0_19, ne_eq, not_true_eq_false, not_false_eq_true, false_implies, true_implies, true_and, and_true, eq_self, false_or, or_false, false_and, and_false] at hVhR_18
      have hG_213 := hG_4.call (c2 := cc_16) (j2 := jj_17) (t2 := gI σ_s_9 a 27) (fun _ => GS.cg1 (hn_15.2.1 rfl).2 (by omega) rfl (by omega)) (fun h9 => absurd rfl h9)
      have hq_214 := (hn_15.2.1 rfl).1
      have hq_215 := hn_15.2.2
      replace hn_15 := hid.mk hn_15
      refine lv_istore_n (lv' := [(1, .int (I z_10)), (0, .ref a)]) hx hb dX11_allOf_4 rfl hl (by decide) rfl (fun ls hl => ?_)
      refine lv_aload_n hx hb dX11_allOf_5 rfl (lv_at hl 1 rfl) ?_
      refine lv_bipush (v := I 38) hx hb dX11_allOf_6 (by decide) ?_
      obtain ⟨_, hc_216⟩ := hO.cell h_a (by decide) (ci := 11) rfl
      refine th_calli (va_runV (As := [.int (I 38)]) (rest := []) ⟨hx, hb, hml, hown, hts⟩ (n_isMarked l G y b0 σ_s_9 E hO a h_a 38 (show rng 38 from (show rng 38 from ⟨by decide, by decide⟩)) (by omega) (by omega) Bf hsr T hSt cc_16 jj_17 hR_18 (by omega)) (cwV 1 hts gX11_allOf_X11_isMarked rfl rfl rfl (by decide +kernel) ⟨(by first | exact fr_q (by decide) | exact fr_r (by decide) | exact fr_s (by decide) | (simp only [headSpec]; omega) | omega | (dsimp only; omega)), (by first | exact fr_q (by decide) | exact fr_r (by decide) | exact fr_s (by decide) | (simp only [headSpec]; omega) | omega | (dsimp only; omega))⟩) (th_PV hK hH rfl hc_216) rfl rfl hl.1 rfl (lv_room (Nat.le_of_ble_eq_true rfl)) dX11_allOf_8 ⟨(by first | exact fr_q (by decide) | exact fr_r (by decide) | exact fr_s (by decide) | (simp only [headSpec]; omega) | omega | (dsimp only; omega)), (by first | exact fr_q (by decide) | exact fr_r (by decide) | exact fr_s (by decide) | (simp only [headSpec]; omega) | omega | (dsimp only; omega))⟩) hS (fun z_219 σ_s_218 H locs rz_219 hw_217 hH hS => ?_)
      obtain ⟨e9, bhw_217, hw_217⟩ := hw_217
      replace e9 := e9.symm
      subst e9
      replace hw_217 : (z_219 = 1 ∧ cc_16 = 0 ∧ tK T jj_17 = 38) ∨ (z_219 = 0 ∧ (cc_16 ≠ 0 ∨ tK T jj_17 ≠ 38)) := hw_217
      have hb_220 := hw_8.1
      have hb_221 := hw_8.2
      replace hw_8 := hid.mk hw_8
      try simp only [h0_19, ne_eq, not_true_eq_false, not_false_eq_true, false_implies, true_implies, true_and, and_true, eq_self, false_or, or_false, false_and, and_false] at hw_217
      replace hw_217 : z_219 = 0 := by omega
      subst hw_217
      refine lv_if_eq (tgt := 40) hx hb dX11_allOf_11 (by decide) (fun _ => ?_) (fun c_222 => absurd (by decide) c_222)
      refine lv_iload_n hx hb dX11_allOf_40 rfl (lv_at hl 0 rfl) ?_
      exact th_zret hx hb hr hlocks hH hS (z := z_10) (by omega) ⟨hO, hF, hM, ⟨by omega, by omega⟩, ⟨⟨by omega, by omega⟩, cc_16, jj_17, hR_18, ⟨(fun h9 => absurd rfl h9), fun _ => ⟨by omega, hG_213.was h0_19⟩, fun h9 => absurd h9 h0_19⟩⟩⟩ dX11_allOf_41
  · try simp only [h0_1, ne_eq, not_true_eq_false, not_false_eq_true, false_implies, true_implies, true_and, and_true, eq_self, false_or, or_false, false_and, and_false] at hV0
    have e_223 : gI σ a 25 = 0 := by omega
    have e_224 : gI σ a 30 = -1 := by omega
    refine lv_aload_n hx hb dX11_allOf_0 rfl (lv_at hl 0 rfl) ?_
    obtain ⟨_, hc_225⟩ := hO.cell h_a (by decide) (ci := 11) rfl
    refine th_calli (va_runV (As := []) (rest := []) ⟨hx, hb, hml, hown, hts⟩ (ih l G y b0 σ E hO a h_a f1 ef1 Bf hsr T hSt fc jt hR0 (by omega) (by omega) (by omega) (by omega) (by omega) (by omega)) (cwV 0 hts gX11_allOf_X11_atom rfl rfl rfl (by decide +kernel) ⟨(by first | exact fr_q (by decide) | exact fr_r (by decide) | exact fr_s (by decide) | (simp only [headSpec]; omega) | omega | (dsimp only; omega)), (by first | exact fr_q (by decide) | exact fr_r (by decide) | exact fr_s (by decide) | (simp only [headSpec]; omega) | omega | (dsimp only; omega))⟩) (th_PV hK hH rfl hc_225) rfl rfl hl.1 rfl (lv_room (Nat.le_of_ble_eq_true rfl)) dX11_allOf_1 ⟨(by first | exact fr_q (by decide) | exact fr_r (by decide) | exact fr_s (by decide) | (simp only [headSpec]; omega) | omega | (dsimp only; omega)), (by first | exact fr_q (by decide) | exact fr_r (by decide) | exact fr_s (by decide) | (simp only [headSpec]; omega) | omega | (dsimp only; omega))⟩) hS (fun z_228 σ_s_227 H locs rz_228 hw_226 hH hS => ?_)
    obtain ⟨hO9, hF9, hM9, bhw_226, hw_226⟩ := hw_226
    replace hM := hM.tu hM9 (by decide)
    replace hF := hF.tu hF9 (by decide)
    have e_229 : aF σ_s_227 (ad E a 1) = f1 := (hM9.a (by decide) (by decide)).trans ef1
    have e_230 : gI σ_s_227 a 11 = a110 := (hM9.i (by decide)).trans ea110
    have e_231 : gI σ_s_227 a 30 = (-1) := (hM9.i (by decide)).trans e_224
    have e_232 : gI σ_s_227 a 25 = 0 := (hM9.i (by decide)).trans e_223
    replace hsr := hsr.mv hM9 (by decide) (by decide) (by decide) (by decide) (by decide)
    replace hO := hO9
    replace hw_226 : ((gI σ a 13 ≤ gI σ_s_227 a 13 ∧ gI σ_s_227 a 13 ≤ gI σ a 11 ∧ 0 ≤ gI σ_s_227 a 17 ∧ gI σ_s_227 a 17 ≤ gI σ_s_227 a 13) ∧ gI σ_s_227 a 28 = gI σ a 28) ∧ ∃ c1 j1, RSt σ_s_227 a T c1 j1 ∧ (fc ≠ 0 → c1 = fc ∧ j1 = jt) ∧ (fc = 0 → jt ≤ j1 ∧ GS T [(1, gI σ a 28)] jt (gI σ a 27) [] c1 j1 (gI σ_s_227 a 27)) ∧ (c1 = 0 → 0 ≤ gI σ_s_227 a 27 ∧ gI σ_s_227 a 27 ≤ 12) := hw_226
    replace hV0 := hid.mk hV0
    have hn_233 := hw_226.2
    replace hw_226 := hw_226.1
    obtain ⟨cc_234, jj_235, hR_236, hn_233⟩ := hn_233
    have hVhR_236 := hR_236.1
    try simp only [h0_1, ne_eq, not_true_eq_false, not_false_eq_true, false_implies, true_implies, true_and, and_true, eq_self, false_or, or_false, false_and, and_false] at hn_233
    have h0_237 : ¬ cc_234 = 0 := by omega
    try simp only [h0_237, ne_eq, not_true_eq_false, not_false_eq_true, false_implies, true_implies, true_and, and_true, eq_self, false_or, or_false, false_and, and_false] at hVhR_236
    have hc_238 : fc = cc_234 := by omega
    subst hc_238
    have hj_239 : jt = jj_235 := by omega
    subst hj_239
    refine lv_istore_n (lv' := [(1, .int (I z_228)), (0, .ref a)]) hx hb dX11_allOf_4 rfl hl (by decide) rfl (fun ls hl => ?_)
    refine lv_aload_n hx hb dX11_allOf_5 rfl (lv_at hl 1 rfl) ?_
    refine lv_bipush (v := I 38) hx hb dX11_allOf_6 (by decide) ?_
    obtain ⟨_, hc_240⟩ := hO.cell h_a (by decide) (ci := 11) rfl
    refine th_calli (va_runV (As := [.int (I 38)]) (rest := []) ⟨hx, hb, hml, hown, hts⟩ (n_isMarked l G y b0 σ_s_227 E hO a h_a 38 (show rng 38 from (show rng 38 from ⟨by decide, by decide⟩)) (by omega) (by omega) Bf hsr T hSt fc jt hR_236 (by omega)) (cwV 1 hts gX11_allOf_X11_isMarked rfl rfl rfl (by decide +kernel) ⟨(by first | exact fr_q (by decide) | exact fr_r (by decide) | exact fr_s (by decide) | (simp only [headSpec]; omega) | omega | (dsimp only; omega)), (by first | exact fr_q (by decide) | exact fr_r (by decide) | exact fr_s (by decide) | (simp only [headSpec]; omega) | omega | (dsimp only; omega))⟩) (th_PV hK hH rfl hc_240) rfl rfl hl.1 rfl (lv_room (Nat.le_of_ble_eq_true rfl)) dX11_allOf_8 ⟨(by first | exact fr_q (by decide) | exact fr_r (by decide) | exact fr_s (by decide) | (simp only [headSpec]; omega) | omega | (dsimp only; omega)), (by first | exact fr_q (by decide) | exact fr_r (by decide) | exact fr_s (by decide) | (simp only [headSpec]; omega) | omega | (dsimp only; omega))⟩) hS (fun z_243 σ_s_242 H locs rz_243 hw_241 hH hS => ?_)
    obtain ⟨e9, bhw_241, hw_241⟩ := hw_241
    replace e9 := e9.symm
    subst e9
    replace hw_241 : (z_243 = 1 ∧ fc = 0 ∧ tK T jt = 38) ∨ (z_243 = 0 ∧ (fc ≠ 0 ∨ tK T jt ≠ 38)) := hw_241
    have hb_244 := hw_226.1
    have hb_245 := hw_226.2
    replace hw_226 := hid.mk hw_226
    replace hn_233 := hid.mk hn_233
    try simp only [h0_237, ne_eq, not_true_eq_false, not_false_eq_true, false_implies, true_implies, true_and, and_true, eq_self, false_or, or_false, false_and, and_false] at hw_241
    replace hw_241 : z_243 = 0 := by omega
    subst hw_241
    refine lv_if_eq (tgt := 40) hx hb dX11_allOf_11 (by decide) (fun _ => ?_) (fun c_246 => absurd (by decide) c_246)
    refine lv_iload_n hx hb dX11_allOf_40 rfl (lv_at hl 0 rfl) ?_
    exact th_zret hx hb hr hlocks hH hS (z := z_228) (by omega) ⟨hO, hF, hM, ⟨by omega, by omega⟩, ⟨⟨by omega, by omega⟩, fc, jt, hR_236, ⟨fun _ => ⟨rfl, rfl⟩, fun h9 => absurd h9 h0_237, fun h9 => absurd h9 h0_237⟩⟩⟩ dX11_allOf_41

set_option maxHeartbeats 20000000 in
set_option maxRecDepth 100000 in
theorem n_cond (n : Nat) (ih : ∀ (l : Launch) (G : va_G) (y : Nat → ClassId) (b0 : Nat) (σ : th_M) (E : th_E) (hO : ok y E σ) (a : Nat) (h_a : kd E a = 13) (f1 : Nat → Int32) (ef1 : aF σ (ad E a 1) = f1) (Bf : Int → Int) (hsr : sr E σ a Bf) (T : tkT) (hSt : tkSt Bf T) (fc jt : Int) (hR0 : RSt σ a T fc jt) (hy0 : 0 ≤ gI σ a 17 ∧ gI σ a 17 ≤ gI σ a 13 ∧ gI σ a 13 ≤ gI σ a 11 ∧ gI σ a 11 ≤ 400) (hy1 : gI σ a 25 = 0) (hy2 : gI σ a 30 = -1) (hy3 : fc = 0 → 0 ≤ gI σ a 27 ∧ gI σ a 27 ≤ 12) (hy4 : 0 ≤ gI σ a 28 ∧ gI σ a 28 ≤ 5) (hn : (5 - gI σ a 28).toNat < n), Met l yX11_atom wsX11_atom ({ frames := 5*n+12, cells := 0, slots := 0, locals := (180*n+400) }) (th_P G y b0 σ [.ref a]) (th_Qi G b0 (fun r σ1 => ok y E σ1 ∧ fr [13] E σ σ1 ∧ fm [13, 14, 15, 16, 17, 18, 19, 20, 27, 28] E σ σ1 a ∧ (0 ≤ r ∧ r ≤ 1) ∧ (((gI σ a 13 ≤ gI σ1 a 13 ∧ gI σ1 a 13 ≤ gI σ a 11 ∧ 0 ≤ gI σ1 a 17 ∧ gI σ1 a 17 ≤ gI σ1 a 13) ∧ gI σ1 a 28 = gI σ a 28) ∧ ∃ c1 j1, RSt σ1 a T c1 j1 ∧ (fc ≠ 0 → c1 = fc ∧ j1 = jt) ∧ (fc = 0 → jt ≤ j1 ∧ GS T [(1, gI σ a 28)] jt (gI σ a 27) [] c1 j1 (gI σ1 a 27)) ∧ (c1 = 0 → 0 ≤ gI σ1 a 27 ∧ gI σ1 a 27 ≤ 12)))) 0 0 (th_A b0)) (l : Launch) (G : va_G) (y : Nat → ClassId) (b0 : Nat) (σ : th_M) (E : th_E) (hO : ok y E σ) (a : Nat) (h_a : kd E a = 13) (f1 : Nat → Int32) (ef1 : aF σ (ad E a 1) = f1) (Bf : Int → Int) (hsr : sr E σ a Bf) (T : tkT) (hSt : tkSt Bf T) (fc jt : Int) (hR0 : RSt σ a T fc jt) (hy0 : 0 ≤ gI σ a 17 ∧ gI σ a 17 ≤ gI σ a 13 ∧ gI σ a 13 ≤ gI σ a 11 ∧ gI σ a 11 ≤ 400) (hy1 : gI σ a 25 = 0) (hy2 : gI σ a 30 = -1) (hy3 : fc = 0 → 0 ≤ gI σ a 27 ∧ gI σ a 27 ≤ 12) (hy4 : 0 ≤ gI σ a 28 ∧ gI σ a 28 ≤ 5) (hy5 : (5 - gI σ a 28).toNat < n) : Met l yX11_cond wsX11_cond ({ frames := 5*n+16, cells := 0, slots := 0, locals := (180*n+500) }) (th_P G y b0 σ [.ref a]) (th_Qi G b0 (fun r σ1 => ok y E σ1 ∧ fr [13] E σ σ1 ∧ fm [13, 14, 15, 16, 17, 18, 19, 20, 27, 28] E σ σ1 a ∧ (0 ≤ r ∧ r ≤ 1) ∧ (((gI σ a 13 ≤ gI σ1 a 13 ∧ gI σ1 a 13 ≤ gI σ a 11 ∧ 0 ≤ gI σ1 a 17 ∧ gI σ1 a 17 ≤ gI σ1 a 13) ∧ gI σ1 a 28 = gI σ a 28) ∧ ∃ c1 j1, RSt σ1 a T c1 j1 ∧ (fc ≠ 0 → c1 = fc ∧ j1 = jt) ∧ (fc = 0 → jt ≤ j1 ∧ GS T [(2, gI σ a 28)] jt (gI σ a 27) [] c1 j1 (gI σ1 a 27)) ∧ (c1 = 0 → 0 ≤ gI σ1 a 27 ∧ gI σ1 a 27 ≤ 12)))) 0 0 (th_A b0) := by
  refine Met.ofW (cc := cX11_cond) (maxL := 3) (ret := (some .boolean)) (by decide) rfl ?_
  intro p e s m args below meth c s₁ B hml hv
  obtain ⟨rfl, hH, hK⟩ := hv
  have hx := B.exec
  have hb := B.bytes
  have hr := B.returns
  have hts := atoms_spec (ws := wsX11_cond) B.pre
  have hown : s.vm.findClass RX11 = some m.cls := findClass_of_methodNamed B.named
  have hlocks := B.notSynchronized
  have h00 : b0 ≤ s.heap.size := hH.1
  have hS : va_S (th_A b0) s.heap s.heap [] := va_S.rf
  have hF : fr [13] E σ σ := fr.rf
  have hM : fm [13, 14, 15, 16, 17, 18, 19, 20, 27, 28] E σ σ a := fm.rf
  have hl := lv_entry ([.ref a]) (n := 3) (Nat.le_of_ble_eq_true rfl)
  rw [lg_entry_eq]
  generalize (lg_sl ([.ref a]) ++ List.replicate (3 - (lg_sl ([.ref a])).length) Slot.unset).toArray = ls at hl ⊢
  have hl : lv_has ls 3 [(0, .ref a)] := hl
  obtain ⟨a110, ea110, ra110, la110, ua110⟩ := hO.gi h_a (by decide) k13_11
  obtain ⟨a130, ea130, ra130, la130, ua130⟩ := hO.gi h_a (by decide) k13_13
  obtain ⟨a140, ea140, ra140, la140, ua140⟩ := hO.gi h_a (by decide) k13_14
  obtain ⟨a170, ea170, ra170, la170, ua170⟩ := hO.gi h_a (by decide) k13_17
  obtain ⟨a190, ea190, ra190, la190, ua190⟩ := hO.gi h_a (by decide) k13_19
  obtain ⟨a270, ea270, ra270, la270, ua270⟩ := hO.gi h_a (by decide) k13_27
  obtain ⟨a280, ea280, ra280, la280, ua280⟩ := hO.gi h_a (by decide) k13_28
  obtain ⟨a300, ea300, ra300, la300, ua300⟩ := hO.gi h_a (by decide) k13_30
  have hV0 := hR0.1
  rcases Classical.em (fc = 0) with h0_1 | h0_1
  · subst h0_1
    try simp only [ne_eq, not_true_eq_false, not_false_eq_true, false_implies, true_implies, true_and, and_true, eq_self, false_or, or_false, false_and, and_false] at hV0
    have e_2 : gI σ a 19 = 0 := by omega
    have hG_3 := GS.start (T := T) (e := [(2, gI σ a 28)]) (j := jt) (t := gI σ a 27)
    have hG_4 := hG_3.cond
    have e_5 : gI σ a 25 = 0 := by omega
    have e_6 : gI σ a 30 = -1 := by omega
    refine lv_aload_n hx hb dX11_cond_0 rfl (lv_at hl 0 rfl) ?_
    obtain ⟨_, hc_7⟩ := hO.cell h_a (by decide) (ci := 11) rfl
    refine th_calli (va_runV (As := []) (rest := []) ⟨hx, hb, hml, hown, hts⟩ (n_allOf n ih l G y b0 σ E hO a h_a f1 ef1 Bf hsr T hSt 0 jt hR0 (by omega) (by omega) (by omega) (by omega) (by omega) (by omega)) (cwV 0 hts gX11_cond_X11_allOf rfl rfl rfl (by decide +kernel) ⟨(by first | exact fr_q (by decide) | exact fr_r (by decide) | exact fr_s (by decide) | (simp only [headSpec]; omega) | omega | (dsimp only; omega)), (by first | exact fr_q (by decide) | exact fr_r (by decide) | exact fr_s (by decide) | (simp only [headSpec]; omega) | omega | (dsimp only; omega))⟩) (th_PV hK hH rfl hc_7) rfl rfl hl.1 rfl (lv_room (Nat.le_of_ble_eq_true rfl)) dX11_cond_1 ⟨(by first | exact fr_q (by decide) | exact fr_r (by decide) | exact fr_s (by decide) | (simp only [headSpec]; omega) | omega | (dsimp only; omega)), (by first | exact fr_q (by decide) | exact fr_r (by decide) | exact fr_s (by decide) | (simp only [headSpec]; omega) | omega | (dsimp only; omega))⟩) hS (fun z_10 σ_s_9 H locs rz_10 hw_8 hH hS => ?_)
    obtain ⟨hO9, hF9, hM9, bhw_8, hw_8⟩ := hw_8
    replace hM := hM.tu hM9 (by decide)
    replace hF := hF.tu hF9 (by decide)
    have e_11 : aF σ_s_9 (ad E a 1) = f1 := (hM9.a (by decide) (by decide)).trans ef1
    have e_12 : gI σ_s_9 a 11 = a110 := (hM9.i (by decide)).trans ea110
    have e_13 : gI σ_s_9 a 30 = (-1) := (hM9.i (by decide)).trans e_6
    have e_14 : gI σ_s_9 a 25 = 0 := (hM9.i (by decide)).trans e_5
    replace hsr := hsr.mv hM9 (by decide) (by decide) (by decide) (by decide) (by decide)
    replace hO := hO9
    replace hw_8 : ((gI σ a 13 ≤ gI σ_s_9 a 13 ∧ gI σ_s_9 a 13 ≤ gI σ a 11 ∧ 0 ≤ gI σ_s_9 a 17 ∧ gI σ_s_9 a 17 ≤ gI σ_s_9 a 13) ∧ gI σ_s_9 a 28 = gI σ a 28) ∧ ∃ c1 j1, RSt σ_s_9 a T c1 j1 ∧ ((0 : Int) ≠ 0 → c1 = 0 ∧ j1 = jt) ∧ ((0 : Int) = 0 → jt ≤ j1 ∧ GS T [(3, gI σ a 28)] jt (gI σ a 27) [] c1 j1 (gI σ_s_9 a 27)) ∧ (c1 = 0 → 0 ≤ gI σ_s_9 a 27 ∧ gI σ_s_9 a 27 ≤ 12) := hw_8
    replace hV0 := hid.mk hV0
    have hn_15 := hw_8.2
    replace hw_8 := hw_8.1
    obtain ⟨cc_16, jj_17, hR_18, hn_15⟩ := hn_15
    have hVhR_18 := hR_18.1
    rcases Classical.em (cc_16 = 0) with h0_19 | h0_19
    · subst h0_19
      try simp only [ne_eq, not_true_eq_false, not_false_eq_true, false_implies, true_implies, true_and, and_true, eq_self, false_or, or_false, false_and, and_false] at hVhR_18
      have e_20 : gI σ_s_9 a 19 = 0 := by omega
      have hG_21 := hG_4.call (c2 := 0) (j2 := jj_17) (t2 := gI σ_s_9 a 27) (fun _ => GS.cg1 (hn_15.2.1 rfl).2 (by omega) rfl (by omega)) (fun h9 => absurd rfl h9)
      have hq_22 := (hn_15.2.1 rfl).1
      have hq_23 := hn_15.2.2
      replace hn_15 := hid.mk hn_15
      refine lv_istore_n (lv' := [(1, .int (I z_10)), (0, .ref a)]) hx hb dX11_cond_4 rfl hl (by decide) rfl (fun ls hl => ?_)
      refine th_loop (α := Int × Int) (pc := 5) (fun x9 => (tm T - x9.2).toNat) (fun x9 σ9 H9 l9 ls9 => ok y E σ9 ∧ fr [13] E σ σ9 ∧ fm [13, 14, 15, 16, 17, 18, 19, 20, 27, 28] E σ σ9 a ∧ sr E σ9 a Bf ∧ th_H G b0 σ9 H9 ∧ va_S (th_A b0) s.heap H9 l9 ∧ lv_has ls9 3 [(0, .ref a), (1, .int (I x9.1))] ∧ rng x9.1 ∧ (gI σ a 13 ≤ gI σ9 a 13) ∧ (gI σ9 a 13 ≤ gI σ a 11) ∧ (0 ≤ gI σ9 a 17) ∧ (gI σ9 a 17 ≤ gI σ9 a 13) ∧ (jt ≤ x9.2) ∧ (0 ≤ gI σ9 a 27) ∧ (gI σ9 a 27 ≤ 12) ∧ (gI σ9 a 28 = gI σ a 28) ∧ (0 ≤ x9.1) ∧ (x9.1 ≤ 1) ∧ (RSt σ9 a T 0 x9.2) ∧ (GS T [(2, gI σ a 28)] jt (gI σ a 27) [(6, gI σ a 28)] 0 x9.2 (gI σ9 a 27)) ∧ (gI σ9 a 11 = a110) ∧ (gI σ9 a 30 = (-1)) ∧ (gI σ9 a 25 = 0) ∧ (aF σ9 (ad E a 1) = f1)) ?_ (z_10, jj_17) σ_s_9 _ _ _ ⟨hO, hF, hM, hsr, hH, hS, lv_sub hl [1, 0] rfl, rz_10, by first | (dsimp only; omega) | omega, by first | (dsimp only; omega) | omega, by first | (dsimp only; omega) | omega, by first | (dsimp only; omega) | omega, by first | (dsimp only; omega) | omega, by first | (dsimp only; omega) | omega, by first | (dsimp only; omega) | omega, by first | (dsimp only; omega) | omega, by first | (dsimp only; omega) | omega, by first | (dsimp only; omega) | omega, hR_18, (hG_21.ec rfl rfl (fun _ => by omega)), e_12, e_13, e_14, e_11⟩
      intro x9 σ_J_135 H locs ls hI9 ihJ_135
      obtain ⟨v1q134, jqq133⟩ := x9
      obtain ⟨hO, hF, hM, hsr, hH, hS, hl, rv1q134, J_135_0, J_135_1, J_135_2, J_135_3, J_135_4, J_135_5, J_135_6, J_135_7, J_135_8, J_135_9, J_135_10, J_135_11, J_135_12, J_135_13, J_135_14, J_135_15⟩ := hI9
      replace hl : lv_has ls 3 [(0, .ref a), (1, .int (I v1q134))] := hl
      replace rv1q134 : rng v1q134 := rv1q134
      replace J_135_0 : gI σ a 13 ≤ gI σ_J_135 a 13 := J_135_0
      replace J_135_1 : gI σ_J_135 a 13 ≤ gI σ a 11 := J_135_1
      replace J_135_2 : 0 ≤ gI σ_J_135 a 17 := J_135_2
      replace J_135_3 : gI σ_J_135 a 17 ≤ gI σ_J_135 a 13 := J_135_3
      replace J_135_4 : jt ≤ jqq133 := J_135_4
      replace J_135_5 : 0 ≤ gI σ_J_135 a 27 := J_135_5
      replace J_135_6 : gI σ_J_135 a 27 ≤ 12 := J_135_6
      replace J_135_7 : gI σ_J_135 a 28 = gI σ a 28 := J_135_7
      replace J_135_8 : 0 ≤ v1q134 := J_135_8
      replace J_135_9 : v1q134 ≤ 1 := J_135_9
      replace J_135_10 : RSt σ_J_135 a T 0 jqq133 := J_135_10
      replace J_135_11 : GS T [(2, gI σ a 28)] jt (gI σ a 27) [(6, gI σ a 28)] 0 jqq133 (gI σ_J_135 a 27) := J_135_11
      replace J_135_12 : gI σ_J_135 a 11 = a110 := J_135_12
      replace J_135_13 : gI σ_J_135 a 30 = (-1) := J_135_13
      replace J_135_14 : gI σ_J_135 a 25 = 0 := J_135_14
      replace J_135_15 : aF σ_J_135 (ad E a 1) = f1 := J_135_15
      replace hw_8 := hid.mk hw_8
      replace hVhR_18 := hid.mk hVhR_18
      have hVJ_135_10 := J_135_10.1
      try simp only [ne_eq, not_true_eq_false, not_false_eq_true, false_implies, true_implies, true_and, and_true, eq_self, false_or, or_false, false_and, and_false] at hVJ_135_10
      have e_136 : gI σ_J_135 a 19 = 0 := by omega
      refine lv_aload_n hx hb dX11_cond_5 rfl (lv_at hl 0 rfl) ?_
      refine lv_bipush (v := I 124) hx hb dX11_cond_6 (by decide) ?_
      obtain ⟨_, hc_137⟩ := hO.cell h_a (by decide) (ci := 11) rfl
      refine th_calli (va_runV (As := [.int (I 124)]) (rest := []) ⟨hx, hb, hml, hown, hts⟩ (n_isMarked l G y b0 σ_J_135 E hO a h_a 124 (show rng 124 from (show rng 124 from ⟨by decide, by decide⟩)) (by omega) (by omega) Bf hsr T hSt 0 jqq133 J_135_10 (by omega)) (cwV 1 hts gX11_cond_X11_isMarked rfl rfl rfl (by decide +kernel) ⟨(by first | exact fr_q (by decide) | exact fr_r (by decide) | exact fr_s (by decide) | (simp only [headSpec]; omega) | omega | (dsimp only; omega)), (by first | exact fr_q (by decide) | exact fr_r (by decide) | exact fr_s (by decide) | (simp only [headSpec]; omega) | omega | (dsimp only; omega))⟩) (th_PV hK hH rfl hc_137) rfl rfl hl.1 rfl (lv_room (Nat.le_of_ble_eq_true rfl)) dX11_cond_8 ⟨(by first | exact fr_q (by decide) | exact fr_r (by decide) | exact fr_s (by decide) | (simp only [headSpec]; omega) | omega | (dsimp only; omega)), (by first | exact fr_q (by decide) | exact fr_r (by decide) | exact fr_s (by decide) | (simp only [headSpec]; omega) | omega | (dsimp only; omega))⟩) hS (fun z_140 σ_s_139 H locs rz_140 hw_138 hH hS => ?_)
      obtain ⟨e9, bhw_138, hw_138⟩ := hw_138
      replace e9 := e9.symm
      subst e9
      replace hw_138 : (z_140 = 1 ∧ (0 : Int) = 0 ∧ tK T jqq133 = 124) ∨ (z_140 = 0 ∧ ((0 : Int) ≠ 0 ∨ tK T jqq133 ≠ 124)) := hw_138
      obtain ⟨hw_138, -, hs_141⟩ | ⟨hw_138, hs_141⟩ := hw_138
      · subst hw_138
        refine lv_if_eq (tgt := 40) hx hb dX11_cond_11 (by decide) (fun c_142 => absurd c_142 (by decide)) (fun _ => ?_)
        refine lv_aload_n hx hb dX11_cond_14 rfl (lv_at hl 0 rfl) ?_
        obtain ⟨z_143, e_144, rz_143, lz_143, uz_143⟩ := hO.gi h_a (by decide) k13_28
        obtain ⟨z_145, e_146, rz_145, lz_145, uz_145⟩ := hO.gi h_a (by decide) k13_27
        obtain ⟨_, hc_147⟩ := hO.cell h_a (by decide) (ci := 11) rfl
        refine th_callv (va_runV (As := []) (rest := []) ⟨hx, hb, hml, hown, hts⟩ (n_pass l G y b0 σ_J_135 E hO a h_a Bf hsr T hSt 0 jqq133 J_135_10 (by omega) (by omega)) (cwV 0 hts gX11_cond_X11_pass rfl rfl rfl (by decide +kernel) ⟨(by first | exact fr_q (by decide) | exact fr_r (by decide) | exact fr_s (by decide) | (simp only [headSpec]; omega) | omega | (dsimp only; omega)), (by first | exact fr_q (by decide) | exact fr_r (by decide) | exact fr_s (by decide) | (simp only [headSpec]; omega) | omega | (dsimp only; omega))⟩) (th_PV hK hH rfl hc_147) rfl rfl hl.1 rfl (lv_room (Nat.le_of_ble_eq_true rfl)) dX11_cond_15 ⟨(by first | exact fr_q (by decide) | exact fr_r (by decide) | exact fr_s (by decide) | (simp only [headSpec]; omega) | omega | (dsimp only; omega)), (by first | exact fr_q (by decide) | exact fr_r (by decide) | exact fr_s (by decide) | (simp only [headSpec]; omega) | omega | (dsimp only; omega))⟩) hS (fun σ_s_149 H locs hw_148 hH hS => ?_)
        obtain ⟨hO9, hF9, hM9, hw_148⟩ := hw_148
        replace hM := hM.tu hM9 (by decide)
        replace hF := hF.tu hF9 (by decide)
        have e_150 : gI σ_s_149 a 11 = a110 := (hM9.i (by decide)).trans J_135_12
        have e_151 : gI σ_s_149 a 30 = (-1) := (hM9.i (by decide)).trans J_135_13
        have e_152 : gI σ_s_149 a 25 = 0 := (hM9.i (by decide)).trans J_135_14
        have e_153 : aF σ_s_149 (ad E a 1) = f1 := (hM9.a (by decide) (by decide)).trans J_135_15
        have e_154 : gI σ_s_149 a 19 = 0 := (hM9.i (by decide)).trans e_136
        have e_155 : gI σ_s_149 a 28 = z_143 := (hM9.i (by decide)).trans e_144
        have e_156 : gI σ_s_149 a 27 = z_145 := (hM9.i (by decide)).trans e_146
        replace hsr := hsr.mv hM9 (by decide) (by decide) (by decide) (by decide) (by decide)
        replace hO := hO9
        replace hw_148 : ((gI σ_J_135 a 13 ≤ gI σ_s_149 a 13 ∧ gI σ_s_149 a 13 ≤ gI σ_J_135 a 11 ∧ 0 ≤ gI σ_s_149 a 17 ∧ gI σ_s_149 a 17 ≤ gI σ_s_149 a 13) ∧ pgo (gI σ_s_149 a 19) (gI σ_s_149 a 14) (gI σ_J_135 a 13) (gI σ_s_149 a 13) ∧ gI σ_s_149 a 19 = gI σ_J_135 a 19) ∧ ∃ c1 j1, RSt σ_s_149 a T c1 j1 ∧ (c1 = 0 ∧ ((0 : Int) ≠ 0 → j1 = jqq133) ∧ ((0 : Int) = 0 → j1 = jqq133 + 1)) := hw_148
        replace hVJ_135_10 := hid.mk hVJ_135_10
        have hn_157 := hw_148.2
        replace hw_148 := hw_148.1
        obtain ⟨cc_158, jj_159, hR_160, hn_157⟩ := hn_157
        have hVhR_160 := hR_160.1
        have h0_161 : cc_158 = 0 := by omega
        subst h0_161
        try simp only [ne_eq, not_true_eq_false, not_false_eq_true, false_implies, true_implies, true_and, and_true, eq_self, false_or, or_false, false_and, and_false] at hVhR_160
        have e_162 : gI σ_s_149 a 19 = 0 := by omega
        have hj_163 : jqq133 + 1 = jj_159 := by omega
        subst hj_163
        have hG_164 := J_135_11.or hs_141
        refine lv_aload_n hx hb dX11_cond_18 rfl (lv_at hl 0 rfl) ?_
        obtain ⟨_, hc_165⟩ := hO.cell h_a (by decide) (ci := 11) rfl
        refine th_calli (va_runV (As := []) (rest := []) ⟨hx, hb, hml, hown, hts⟩ (n_allOf n ih l G y b0 σ_s_149 E hO a h_a f1 e_153 Bf hsr T hSt 0 (jqq133 + 1) hR_160 (by omega) (by omega) (by omega) (by omega) (by omega) (by omega)) (cwV 0 hts gX11_cond_X11_allOf rfl rfl rfl (by decide +kernel) ⟨(by first | exact fr_q (by decide) | exact fr_r (by decide) | exact fr_s (by decide) | (simp only [headSpec]; omega) | omega | (dsimp only; omega)), (by first | exact fr_q (by decide) | exact fr_r (by decide) | exact fr_s (by decide) | (simp only [headSpec]; omega) | omega | (dsimp only; omega))⟩) (th_PV hK hH rfl hc_165) rfl rfl hl.1 rfl (lv_room (Nat.le_of_ble_eq_true rfl)) dX11_cond_19 ⟨(by first | exact fr_q (by decide) | exact fr_r (by decide) | exact fr_s (by decide) | (simp only [headSpec]; omega) | omega | (dsimp only; omega)), (by first | exact fr_q (by decide) | exact fr_r (by decide) | exact fr_s (by decide) | (simp only [headSpec]; omega) | omega | (dsimp only; omega))⟩) hS (fun z_168 σ_s_167 H locs rz_168 hw_166 hH hS => ?_)
        obtain ⟨hO9, hF9, hM9, bhw_166, hw_166⟩ := hw_166
        replace hM := hM.tu hM9 (by decide)
        replace hF := hF.tu hF9 (by decide)
        have e_169 : gI σ_s_167 a 11 = a110 := (hM9.i (by decide)).trans e_150
        have e_170 : gI σ_s_167 a 30 = (-1) := (hM9.i (by decide)).trans e_151
        have e_171 : gI σ_s_167 a 25 = 0 := (hM9.i (by decide)).trans e_152
        have e_172 : aF σ_s_167 (ad E a 1) = f1 := (hM9.a (by decide) (by decide)).trans e_153
        replace hsr := hsr.mv hM9 (by decide) (by decide) (by decide) (by decide) (by decide)
        replace hO := hO9
        replace hw_166 : ((gI σ_s_149 a 13 ≤ gI σ_s_167 a 13 ∧ gI σ_s_167 a 13 ≤ gI σ_s_149 a 11 ∧ 0 ≤ gI σ_s_167 a 17 ∧ gI σ_s_167 a 17 ≤ gI σ_s_167 a 13) ∧ gI σ_s_167 a 28 = gI σ_s_149 a 28) ∧ ∃ c1 j1, RSt σ_s_167 a T c1 j1 ∧ ((0 : Int) ≠ 0 → c1 = 0 ∧ j1 = (jqq133 + 1)) ∧ ((0 : Int) = 0 → (jqq133 + 1) ≤ j1 ∧ GS T [(3, gI σ_s_149 a 28)] (jqq133 + 1) (gI σ_s_149 a 27) [] c1 j1 (gI σ_s_167 a 27)) ∧ (c1 = 0 → 0 ≤ gI σ_s_167 a 27 ∧ gI σ_s_167 a 27 ≤ 12) := hw_166
        have hb_173 := hw_148.1
        replace hw_148 := hid.mk hw_148
        replace hn_157 := hid.mk hn_157
        replace hVhR_160 := hid.mk hVhR_160
        have hn_174 := hw_166.2
        replace hw_166 := hw_166.1
        obtain ⟨cc_175, jj_176, hR_177, hn_174⟩ := hn_174
        have hVhR_177 := hR_177.1
        rcases Classical.em (cc_175 = 0) with h0_178 | h0_178
        · subst h0_178
          try simp only [ne_eq, not_true_eq_false, not_false_eq_true, false_implies, true_implies, true_and, and_true, eq_self, false_or, or_false, false_and, and_false] at hVhR_177
          have e_179 : gI σ_s_167 a 19 = 0 := by omega
          have hG_180 := hG_164.call (c2 := 0) (j2 := jj_176) (t2 := gI σ_s_167 a 27) (fun _ => GS.cg1 (hn_174.2.1 rfl).2 (by omega) rfl (by omega)) (fun h9 => absurd rfl h9)
          have hq_181 := (hn_174.2.1 rfl).1
          have hq_182 := hn_174.2.2
          replace hn_174 := hid.mk hn_174
          refine lv_istore_n (lv' := [(2, .int (I z_168)), (0, .ref a), (1, .int (I v1q134))]) hx hb dX11_cond_22 rfl hl (by decide) rfl (fun ls hl => ?_)
          refine lv_iload_n hx hb dX11_cond_23 rfl (lv_at hl 2 rfl) ?_
          refine lv_if_ne (tgt := 31) hx hb dX11_cond_24 (by decide) (fun c_183 => ?_) (fun c_183 => ?_)
          · replace c_183 := mt (I_eq (a := v1q134) (b := 0) rv1q134 (show rng 0 from ⟨by decide, by decide⟩)).mpr c_183
            refine lv_iconst (v := I 1) hx hb dX11_cond_31 (by decide) ?_
            refine lv_goto (tgt := 36) hx hb dX11_cond_32 (by decide) ?_
            refine lv_istore_n (lv' := [(1, .int (I 1)), (2, .int (I z_168)), (0, .ref a)]) hx hb dX11_cond_36 rfl hl (by decide) rfl (fun ls hl => ?_)
            refine lv_goto (tgt := 5) hx hb dX11_cond_37 (by decide) ?_
            replace hl : lv_has ls 3 [(1, .int (I 1)), (0, .ref a)] := lv_sub hl [0, 2] rfl
            exact ihJ_135 (1, jj_176) σ_s_167 _ _ _ (by first | (dsimp only; omega) | omega) ⟨hO, hF, hM, hsr, hH, hS, lv_sub hl [1, 0] rfl, (show rng 1 from ⟨by decide, by decide⟩), by first | (dsimp only; omega) | omega, by first | (dsimp only; omega) | omega, by first | (dsimp only; omega) | omega, by first | (dsimp only; omega) | omega, by first | (dsimp only; omega) | omega, by first | (dsimp only; omega) | omega, by first | (dsimp only; omega) | omega, by first | (dsimp only; omega) | omega, by first | (dsimp only; omega) | omega, by first | (dsimp only; omega) | omega, hR_177, (hG_180.ec rfl rfl (fun _ => by omega)), e_169, e_170, e_171, e_172⟩
          · replace c_183 := (I_eq (a := v1q134) (b := 0) rv1q134 (show rng 0 from ⟨by decide, by decide⟩)).mp c_183
            refine lv_iload_n hx hb dX11_cond_27 rfl (lv_at hl 0 rfl) ?_
            refine lv_if_eq (tgt := 35) hx hb dX11_cond_28 (by decide) (fun c_184 => ?_) (fun c_184 => ?_)
            · replace c_184 := (I_eq (a := z_168) (b := 0) rz_168 (show rng 0 from ⟨by decide, by decide⟩)).mp c_184
              refine lv_iconst (v := I 0) hx hb dX11_cond_35 (by decide) ?_
              refine lv_istore_n (lv' := [(1, .int (I 0)), (2, .int (I z_168)), (0, .ref a)]) hx hb dX11_cond_36 rfl hl (by decide) rfl (fun ls hl => ?_)
              refine lv_goto (tgt := 5) hx hb dX11_cond_37 (by decide) ?_
              replace hl : lv_has ls 3 [(1, .int (I 0)), (0, .ref a)] := lv_sub hl [0, 2] rfl
              exact ihJ_135 (0, jj_176) σ_s_167 _ _ _ (by first | (dsimp only; omega) | omega) ⟨hO, hF, hM, hsr, hH, hS, lv_sub hl [1, 0] rfl, (show rng 0 from ⟨by decide, by decide⟩), by first | (dsimp only; omega) | omega, by first | (dsimp only; omega) | omega, by first | (dsimp only; omega) | omega, by first | (dsimp only; omega) | omega, by first | (dsimp only; omega) | omega, by first | (dsimp only; omega) | omega, by first | (dsimp only; omega) | omega, by first | (dsimp only; omega) | omega, by first | (dsimp only; omega) | omega, by first | (dsimp only; omega) | omega, hR_177, (hG_180.ec rfl rfl (fun _ => by omega)), e_169, e_170, e_171, e_172⟩
            · replace c_184 := mt (I_eq (a := z_168) (b := 0) rz_168 (show rng 0 from ⟨by decide, by decide⟩)).mpr c_184
              refine lv_iconst (v := I 1) hx hb dX11_cond_31 (by decide) ?_
              refine lv_goto (tgt := 36) hx hb dX11_cond_32 (by decide) ?_
              refine lv_istore_n (lv' := [(1, .int (I 1)), (2, .int (I z_168)), (0, .ref a)]) hx hb dX11_cond_36 rfl hl (by decide) rfl (fun ls hl => ?_)
              refine lv_goto (tgt := 5) hx hb dX11_cond_37 (by decide) ?_
              replace hl : lv_has ls 3 [(1, .int (I 1)), (0, .ref a)] := lv_sub hl [0, 2] rfl
              exact ihJ_135 (1, jj_176) σ_s_167 _ _ _ (by first | (dsimp only; omega) | omega) ⟨hO, hF, hM, hsr, hH, hS, lv_sub hl [1, 0] rfl, (show rng 1 from ⟨by decide, by decide⟩), by first | (dsimp only; omega) | omega, by first | (dsimp only; omega) | omega, by first | (dsimp only; omega) | omega, by first | (dsimp only; omega) | omega, by first | (dsimp only; omega) | omega, by first | (dsimp only; omega) | omega, by first | (dsimp only; omega) | omega, by first | (dsimp only; omega) | omega, by first | (dsimp only; omega) | omega, by first | (dsimp only; omega) | omega, hR_177, (hG_180.ec rfl rfl (fun _ => by omega)), e_169, e_170, e_171, e_172⟩
        · try simp only [h0_178, ne_eq, not_true_eq_false, not_false_eq_true, false_implies, true_implies, true_and, and_true, eq_self, false_or, or_false, false_and, and_false] at hVhR_177
          have hG_185 := hG_164.call (c2 := cc_175) (j2 := jj_176) (t2 := gI σ_s_167 a 27) (fun _ => GS.cg1 (hn_174.2.1 rfl).2 (by omega) rfl (by omega)) (fun h9 => absurd rfl h9)
          have hq_186 := (hn_174.2.1 rfl).1
          have hq_187 := hn_174.2.2
          replace hn_174 := hid.mk hn_174
          refine lv_istore_n (lv' := [(2, .int (I z_168)), (0, .ref a), (1, .int (I v1q134))]) hx hb dX11_cond_22 rfl hl (by decide) rfl (fun ls hl => ?_)
          refine lv_iload_n hx hb dX11_cond_23 rfl (lv_at hl 2 rfl) ?_
          refine lv_if_ne (tgt := 31) hx hb dX11_cond_24 (by decide) (fun c_188 => ?_) (fun c_188 => ?_)
          · replace c_188 := mt (I_eq (a := v1q134) (b := 0) rv1q134 (show rng 0 from ⟨by decide, by decide⟩)).mpr c_188
            refine lv_iconst (v := I 1) hx hb dX11_cond_31 (by decide) ?_
            refine lv_goto (tgt := 36) hx hb dX11_cond_32 (by decide) ?_
            refine lv_istore_n (lv' := [(1, .int (I 1)), (2, .int (I z_168)), (0, .ref a)]) hx hb dX11_cond_36 rfl hl (by decide) rfl (fun ls hl => ?_)
            refine lv_goto (tgt := 5) hx hb dX11_cond_37 (by decide) ?_
            refine lv_aload_n hx hb dX11_cond_5 rfl (lv_at hl 2 rfl) ?_
            refine lv_bipush (v := I 124) hx hb dX11_cond_6 (by decide) ?_
            obtain ⟨_, hc_189⟩ := hO.cell h_a (by decide) (ci := 11) rfl
            refine th_calli (va_runV (As := [.int (I 124)]) (rest := []) ⟨hx, hb, hml, hown, hts⟩ (n_isMarked l G y b0 σ_s_167 E hO a h_a 124 (show rng 124 from (show rng 124 from ⟨by decide, by decide⟩)) (by omega) (by omega) Bf hsr T hSt cc_175 jj_176 hR_177 (by omega)) (cwV 1 hts gX11_cond_X11_isMarked rfl rfl rfl (by decide +kernel) ⟨(by first | exact fr_q (by decide) | exact fr_r (by decide) | exact fr_s (by decide) | (simp only [headSpec]; omega) | omega | (dsimp only; omega)), (by first | exact fr_q (by decide) | exact fr_r (by decide) | exact fr_s (by decide) | (simp only [headSpec]; omega) | omega | (dsimp only; omega))⟩) (th_PV hK hH rfl hc_189) rfl rfl hl.1 rfl (lv_room (Nat.le_of_ble_eq_true rfl)) dX11_cond_8 ⟨(by first | exact fr_q (by decide) | exact fr_r (by decide) | exact fr_s (by decide) | (simp only [headSpec]; omega) | omega | (dsimp only; omega)), (by first | exact fr_q (by decide) | exact fr_r (by decide) | exact fr_s (by decide) | (simp only [headSpec]; omega) | omega | (dsimp only; omega))⟩) hS (fun z_192 σ_s_191 H locs rz_192 hw_190 hH hS => ?_)
            obtain ⟨e9, bhw_190, hw_190⟩ := hw_190
            replace e9 := e9.symm
            subst e9
            replace hw_190 : (z_192 = 1 ∧ cc_175 = 0 ∧ tK T jj_176 = 124) ∨ (z_192 = 0 ∧ (cc_175 ≠ 0 ∨ tK T jj_176 ≠ 124)) := hw_190
            have hb_193 := hw_166.1
            have hb_194 := hw_166.2
            replace hw_166 := hid.mk hw_166
            try simp only [h0_178, ne_eq, not_true_eq_false, not_false_eq_true, false_implies, true_implies, true_and, and_true, eq_self, false_or, or_false, false_and, and_false] at hw_190
            replace hw_190 : z_192 = 0 := by omega
            subst hw_190
            refine lv_if_eq (tgt := 40) hx hb dX11_cond_11 (by decide) (fun _ => ?_) (fun c_195 => absurd (by decide) c_195)
            refine lv_iload_n hx hb dX11_cond_40 rfl (lv_at hl 0 rfl) ?_
            exact th_zret hx hb hr hlocks hH hS (z := 1) (by omega) ⟨hO, hF, hM, ⟨by omega, by omega⟩, ⟨⟨by omega, by omega⟩, cc_175, jj_176, hR_177, ⟨(fun h9 => absurd rfl h9), fun _ => ⟨by omega, hG_185.was h0_178⟩, fun h9 => absurd h9 h0_178⟩⟩⟩ dX11_cond_41
          · replace c_188 := (I_eq (a := v1q134) (b := 0) rv1q134 (show rng 0 from ⟨by decide, by decide⟩)).mp c_188
            refine lv_iload_n hx hb dX11_cond_27 rfl (lv_at hl 0 rfl) ?_
            refine lv_if_eq (tgt := 35) hx hb dX11_cond_28 (by decide) (fun c_196 => ?_) (fun c_196 => ?_)
            · replace c_196 := (I_eq (a := z_168) (b := 0) rz_168 (show rng 0 from ⟨by decide, by decide⟩)).mp c_196
              refine lv_iconst (v := I 0) hx hb dX11_cond_35 (by decide) ?_
              refine lv_istore_n (lv' := [(1, .int (I 0)), (2, .int (I z_168)), (0, .ref a)]) hx hb dX11_cond_36 rfl hl (by decide) rfl (fun ls hl => ?_)
              refine lv_goto (tgt := 5) hx hb dX11_cond_37 (by decide) ?_
              refine lv_aload_n hx hb dX11_cond_5 rfl (lv_at hl 2 rfl) ?_
              refine lv_bipush (v := I 124) hx hb dX11_cond_6 (by decide) ?_
              obtain ⟨_, hc_197⟩ := hO.cell h_a (by decide) (ci := 11) rfl
              refine th_calli (va_runV (As := [.int (I 124)]) (rest := []) ⟨hx, hb, hml, hown, hts⟩ (n_isMarked l G y b0 σ_s_167 E hO a h_a 124 (show rng 124 from (show rng 124 from ⟨by decide, by decide⟩)) (by omega) (by omega) Bf hsr T hSt cc_175 jj_176 hR_177 (by omega)) (cwV 1 hts gX11_cond_X11_isMarked rfl rfl rfl (by decide +kernel) ⟨(by first | exact fr_q (by decide) | exact fr_r (by decide) | exact fr_s (by decide) | (simp only [headSpec]; omega) | omega | (dsimp only; omega)), (by first | exact fr_q (by decide) | exact fr_r (by decide) | exact fr_s (by decide) | (simp only [headSpec]; omega) | omega | (dsimp only; omega))⟩) (th_PV hK hH rfl hc_197) rfl rfl hl.1 rfl (lv_room (Nat.le_of_ble_eq_true rfl)) dX11_cond_8 ⟨(by first | exact fr_q (by decide) | exact fr_r (by decide) | exact fr_s (by decide) | (simp only [headSpec]; omega) | omega | (dsimp only; omega)), (by first | exact fr_q (by decide) | exact fr_r (by decide) | exact fr_s (by decide) | (simp only [headSpec]; omega) | omega | (dsimp only; omega))⟩) hS (fun z_200 σ_s_199 H locs rz_200 hw_198 hH hS => ?_)
              obtain ⟨e9, bhw_198, hw_198⟩ := hw_198
              replace e9 := e9.symm
              subst e9
              replace hw_198 : (z_200 = 1 ∧ cc_175 = 0 ∧ tK T jj_176 = 124) ∨ (z_200 = 0 ∧ (cc_175 ≠ 0 ∨ tK T jj_176 ≠ 124)) := hw_198
              have hb_201 := hw_166.1
              have hb_202 := hw_166.2
              replace hw_166 := hid.mk hw_166
              try simp only [h0_178, ne_eq, not_true_eq_false, not_false_eq_true, false_implies, true_implies, true_and, and_true, eq_self, false_or, or_false, false_and, and_false] at hw_198
              replace hw_198 : z_200 = 0 := by omega
              subst hw_198
              refine lv_if_eq (tgt := 40) hx hb dX11_cond_11 (by decide) (fun _ => ?_) (fun c_203 => absurd (by decide) c_203)
              refine lv_iload_n hx hb dX11_cond_40 rfl (lv_at hl 0 rfl) ?_
              exact th_zret hx hb hr hlocks hH hS (z := 0) (by omega) ⟨hO, hF, hM, ⟨by omega, by omega⟩, ⟨⟨by omega, by omega⟩, cc_175, jj_176, hR_177, ⟨(fun h9 => absurd rfl h9), fun _ => ⟨by omega, hG_185.was h0_178⟩, fun h9 => absurd h9 h0_178⟩⟩⟩ dX11_cond_41
            · replace c_196 := mt (I_eq (a := z_168) (b := 0) rz_168 (show rng 0 from ⟨by decide, by decide⟩)).mpr c_196
              refine lv_iconst (v := I 1) hx hb dX11_cond_31 (by decide) ?_
              refine lv_goto (tgt := 36) hx hb dX11_cond_32 (by decide) ?_
              refine lv_istore_n (lv' := [(1, .int (I 1)), (2, .int (I z_168)), (0, .ref a)]) hx hb dX11_cond_36 rfl hl (by decide) rfl (fun ls hl => ?_)
              refine lv_goto (tgt := 5) hx hb dX11_cond_37 (by decide) ?_
              refine lv_aload_n hx hb dX11_cond_5 rfl (lv_at hl 2 rfl) ?_
              refine lv_bipush (v := I 124) hx hb dX11_cond_6 (by decide) ?_
              obtain ⟨_, hc_204⟩ := hO.cell h_a (by decide) (ci := 11) rfl
              refine th_calli (va_runV (As := [.int (I 124)]) (rest := []) ⟨hx, hb, hml, hown, hts⟩ (n_isMarked l G y b0 σ_s_167 E hO a h_a 124 (show rng 124 from (show rng 124 from ⟨by decide, by decide⟩)) (by omega) (by omega) Bf hsr T hSt cc_175 jj_176 hR_177 (by omega)) (cwV 1 hts gX11_cond_X11_isMarked rfl rfl rfl (by decide +kernel) ⟨(by first | exact fr_q (by decide) | exact fr_r (by decide) | exact fr_s (by decide) | (simp only [headSpec]; omega) | omega | (dsimp only; omega)), (by first | exact fr_q (by decide) | exact fr_r (by decide) | exact fr_s (by decide) | (simp only [headSpec]; omega) | omega | (dsimp only; omega))⟩) (th_PV hK hH rfl hc_204) rfl rfl hl.1 rfl (lv_room (Nat.le_of_ble_eq_true rfl)) dX11_cond_8 ⟨(by first | exact fr_q (by decide) | exact fr_r (by decide) | exact fr_s (by decide) | (simp only [headSpec]; omega) | omega | (dsimp only; omega)), (by first | exact fr_q (by decide) | exact fr_r (by decide) | exact fr_s (by decide) | (simp only [headSpec]; omega) | omega | (dsimp only; omega))⟩) hS (fun z_207 σ_s_206 H locs rz_207 hw_205 hH hS => ?_)
              obtain ⟨e9, bhw_205, hw_205⟩ := hw_205
              replace e9 := e9.symm
              subst e9
              replace hw_205 : (z_207 = 1 ∧ cc_175 = 0 ∧ tK T jj_176 = 124) ∨ (z_207 = 0 ∧ (cc_175 ≠ 0 ∨ tK T jj_176 ≠ 124)) := hw_205
              have hb_208 := hw_166.1
              have hb_209 := hw_166.2
              replace hw_166 := hid.mk hw_166
              try simp only [h0_178, ne_eq, not_true_eq_false, not_false_eq_true, false_implies, true_implies, true_and, and_true, eq_self, false_or, or_false, false_and, and_false] at hw_205
              replace hw_205 : z_207 = 0 := by omega
              subst hw_205
              refine lv_if_eq (tgt := 40) hx hb dX11_cond_11 (by decide) (fun _ => ?_) (fun c_210 => absurd (by decide) c_210)
              refine lv_iload_n hx hb dX11_cond_40 rfl (lv_at hl 0 rfl) ?_
              exact th_zret hx hb hr hlocks hH hS (z := 1) (by omega) ⟨hO, hF, hM, ⟨by omega, by omega⟩, ⟨⟨by omega, by omega⟩, cc_175, jj_176, hR_177, ⟨(fun h9 => absurd rfl h9), fun _ => ⟨by omega, hG_185.was h0_178⟩, fun h9 => absurd h9 h0_178⟩⟩⟩ dX11_cond_41
      · replace hs_141 := hs_141.resolve_left (fun h9 => h9 rfl)
        subst hw_138
        refine lv_if_eq (tgt := 40) hx hb dX11_cond_11 (by decide) (fun _ => ?_) (fun c_211 => absurd (by decide) c_211)
        refine lv_iload_n hx hb dX11_cond_40 rfl (lv_at hl 1 rfl) ?_
        have hG_212 := J_135_11.orE (fun _ => hs_141)
        exact th_zret hx hb hr hlocks hH hS (z := v1q134) (by omega) ⟨hO, hF, hM, ⟨by omega, by omega⟩, ⟨⟨by omega, by omega⟩, 0, jqq133, J_135_10, ⟨(fun h9 => absurd rfl h9), fun _ => ⟨by omega, hG_212.ec rfl rfl (fun _ => by omega)⟩, fun _ => by omega⟩⟩⟩ dX11_cond_41
    · try simp only [h0_19, ne_eq, not_true_eq_false, not_false_eq_true, false_implies, true_implies, true_and, and_true, eq_self, false_or, or_false, false_and, and_false] at hVhR_18
      have hG_213 := hG_4.call (c2 := cc_16) (j2 := jj_17) (t2 := gI σ_s_9 a 27) (fun _ => GS.cg1 (hn_15.2.1 rfl).2 (by omega) rfl (by omega)) (fun h9 => absurd rfl h9)
      have hq_214 := (hn_15.2.1 rfl).1
      have hq_215 := hn_15.2.2
      replace hn_15 := hid.mk hn_15
      refine lv_istore_n (lv' := [(1, .int (I z_10)), (0, .ref a)]) hx hb dX11_cond_4 rfl hl (by decide) rfl (fun ls hl => ?_)
      refine lv_aload_n hx hb dX11_cond_5 rfl (lv_at hl 1 rfl) ?_
      refine lv_bipush (v := I 124) hx hb dX11_cond_6 (by decide) ?_
      obtain ⟨_, hc_216⟩ := hO.cell h_a (by decide) (ci := 11) rfl
      refine th_calli (va_runV (As := [.int (I 124)]) (rest := []) ⟨hx, hb, hml, hown, hts⟩ (n_isMarked l G y b0 σ_s_9 E hO a h_a 124 (show rng 124 from (show rng 124 from ⟨by decide, by decide⟩)) (by omega) (by omega) Bf hsr T hSt cc_16 jj_17 hR_18 (by omega)) (cwV 1 hts gX11_cond_X11_isMarked rfl rfl rfl (by decide +kernel) ⟨(by first | exact fr_q (by decide) | exact fr_r (by decide) | exact fr_s (by decide) | (simp only [headSpec]; omega) | omega | (dsimp only; omega)), (by first | exact fr_q (by decide) | exact fr_r (by decide) | exact fr_s (by decide) | (simp only [headSpec]; omega) | omega | (dsimp only; omega))⟩) (th_PV hK hH rfl hc_216) rfl rfl hl.1 rfl (lv_room (Nat.le_of_ble_eq_true rfl)) dX11_cond_8 ⟨(by first | exact fr_q (by decide) | exact fr_r (by decide) | exact fr_s (by decide) | (simp only [headSpec]; omega) | omega | (dsimp only; omega)), (by first | exact fr_q (by decide) | exact fr_r (by decide) | exact fr_s (by decide) | (simp only [headSpec]; omega) | omega | (dsimp only; omega))⟩) hS (fun z_219 σ_s_218 H locs rz_219 hw_217 hH hS => ?_)
      obtain ⟨e9, bhw_217, hw_217⟩ := hw_217
      replace e9 := e9.symm
      subst e9
      replace hw_217 : (z_219 = 1 ∧ cc_16 = 0 ∧ tK T jj_17 = 124) ∨ (z_219 = 0 ∧ (cc_16 ≠ 0 ∨ tK T jj_17 ≠ 124)) := hw_217
      have hb_220 := hw_8.1
      have hb_221 := hw_8.2
      replace hw_8 := hid.mk hw_8
      try simp only [h0_19, ne_eq, not_true_eq_false, not_false_eq_true, false_implies, true_implies, true_and, and_true, eq_self, false_or, or_false, false_and, and_false] at hw_217
      replace hw_217 : z_219 = 0 := by omega
      subst hw_217
      refine lv_if_eq (tgt := 40) hx hb dX11_cond_11 (by decide) (fun _ => ?_) (fun c_222 => absurd (by decide) c_222)
      refine lv_iload_n hx hb dX11_cond_40 rfl (lv_at hl 0 rfl) ?_
      exact th_zret hx hb hr hlocks hH hS (z := z_10) (by omega) ⟨hO, hF, hM, ⟨by omega, by omega⟩, ⟨⟨by omega, by omega⟩, cc_16, jj_17, hR_18, ⟨(fun h9 => absurd rfl h9), fun _ => ⟨by omega, hG_213.was h0_19⟩, fun h9 => absurd h9 h0_19⟩⟩⟩ dX11_cond_41
  · try simp only [h0_1, ne_eq, not_true_eq_false, not_false_eq_true, false_implies, true_implies, true_and, and_true, eq_self, false_or, or_false, false_and, and_false] at hV0
    have e_223 : gI σ a 25 = 0 := by omega
    have e_224 : gI σ a 30 = -1 := by omega
    refine lv_aload_n hx hb dX11_cond_0 rfl (lv_at hl 0 rfl) ?_
    obtain ⟨_, hc_225⟩ := hO.cell h_a (by decide) (ci := 11) rfl
    refine th_calli (va_runV (As := []) (rest := []) ⟨hx, hb, hml, hown, hts⟩ (n_allOf n ih l G y b0 σ E hO a h_a f1 ef1 Bf hsr T hSt fc jt hR0 (by omega) (by omega) (by omega) (by omega) (by omega) (by omega)) (cwV 0 hts gX11_cond_X11_allOf rfl rfl rfl (by decide +kernel) ⟨(by first | exact fr_q (by decide) | exact fr_r (by decide) | exact fr_s (by decide) | (simp only [headSpec]; omega) | omega | (dsimp only; omega)), (by first | exact fr_q (by decide) | exact fr_r (by decide) | exact fr_s (by decide) | (simp only [headSpec]; omega) | omega | (dsimp only; omega))⟩) (th_PV hK hH rfl hc_225) rfl rfl hl.1 rfl (lv_room (Nat.le_of_ble_eq_true rfl)) dX11_cond_1 ⟨(by first | exact fr_q (by decide) | exact fr_r (by decide) | exact fr_s (by decide) | (simp only [headSpec]; omega) | omega | (dsimp only; omega)), (by first | exact fr_q (by decide) | exact fr_r (by decide) | exact fr_s (by decide) | (simp only [headSpec]; omega) | omega | (dsimp only; omega))⟩) hS (fun z_228 σ_s_227 H locs rz_228 hw_226 hH hS => ?_)
    obtain ⟨hO9, hF9, hM9, bhw_226, hw_226⟩ := hw_226
    replace hM := hM.tu hM9 (by decide)
    replace hF := hF.tu hF9 (by decide)
    have e_229 : aF σ_s_227 (ad E a 1) = f1 := (hM9.a (by decide) (by decide)).trans ef1
    have e_230 : gI σ_s_227 a 11 = a110 := (hM9.i (by decide)).trans ea110
    have e_231 : gI σ_s_227 a 30 = (-1) := (hM9.i (by decide)).trans e_224
    have e_232 : gI σ_s_227 a 25 = 0 := (hM9.i (by decide)).trans e_223
    replace hsr := hsr.mv hM9 (by decide) (by decide) (by decide) (by decide) (by decide)
    replace hO := hO9
    replace hw_226 : ((gI σ a 13 ≤ gI σ_s_227 a 13 ∧ gI σ_s_227 a 13 ≤ gI σ a 11 ∧ 0 ≤ gI σ_s_227 a 17 ∧ gI σ_s_227 a 17 ≤ gI σ_s_227 a 13) ∧ gI σ_s_227 a 28 = gI σ a 28) ∧ ∃ c1 j1, RSt σ_s_227 a T c1 j1 ∧ (fc ≠ 0 → c1 = fc ∧ j1 = jt) ∧ (fc = 0 → jt ≤ j1 ∧ GS T [(3, gI σ a 28)] jt (gI σ a 27) [] c1 j1 (gI σ_s_227 a 27)) ∧ (c1 = 0 → 0 ≤ gI σ_s_227 a 27 ∧ gI σ_s_227 a 27 ≤ 12) := hw_226
    replace hV0 := hid.mk hV0
    have hn_233 := hw_226.2
    replace hw_226 := hw_226.1
    obtain ⟨cc_234, jj_235, hR_236, hn_233⟩ := hn_233
    have hVhR_236 := hR_236.1
    try simp only [h0_1, ne_eq, not_true_eq_false, not_false_eq_true, false_implies, true_implies, true_and, and_true, eq_self, false_or, or_false, false_and, and_false] at hn_233
    have h0_237 : ¬ cc_234 = 0 := by omega
    try simp only [h0_237, ne_eq, not_true_eq_false, not_false_eq_true, false_implies, true_implies, true_and, and_true, eq_self, false_or, or_false, false_and, and_false] at hVhR_236
    have hc_238 : fc = cc_234 := by omega
    subst hc_238
    have hj_239 : jt = jj_235 := by omega
    subst hj_239
    refine lv_istore_n (lv' := [(1, .int (I z_228)), (0, .ref a)]) hx hb dX11_cond_4 rfl hl (by decide) rfl (fun ls hl => ?_)
    refine lv_aload_n hx hb dX11_cond_5 rfl (lv_at hl 1 rfl) ?_
    refine lv_bipush (v := I 124) hx hb dX11_cond_6 (by decide) ?_
    obtain ⟨_, hc_240⟩ := hO.cell h_a (by decide) (ci := 11) rfl
    refine th_calli (va_runV (As := [.int (I 124)]) (rest := []) ⟨hx, hb, hml, hown, hts⟩ (n_isMarked l G y b0 σ_s_227 E hO a h_a 124 (show rng 124 from (show rng 124 from ⟨by decide, by decide⟩)) (by omega) (by omega) Bf hsr T hSt fc jt hR_236 (by omega)) (cwV 1 hts gX11_cond_X11_isMarked rfl rfl rfl (by decide +kernel) ⟨(by first | exact fr_q (by decide) | exact fr_r (by decide) | exact fr_s (by decide) | (simp only [headSpec]; omega) | omega | (dsimp only; omega)), (by first | exact fr_q (by decide) | exact fr_r (by decide) | exact fr_s (by decide) | (simp only [headSpec]; omega) | omega | (dsimp only; omega))⟩) (th_PV hK hH rfl hc_240) rfl rfl hl.1 rfl (lv_room (Nat.le_of_ble_eq_true rfl)) dX11_cond_8 ⟨(by first | exact fr_q (by decide) | exact fr_r (by decide) | exact fr_s (by decide) | (simp only [headSpec]; omega) | omega | (dsimp only; omega)), (by first | exact fr_q (by decide) | exact fr_r (by decide) | exact fr_s (by decide) | (simp only [headSpec]; omega) | omega | (dsimp only; omega))⟩) hS (fun z_243 σ_s_242 H locs rz_243 hw_241 hH hS => ?_)
    obtain ⟨e9, bhw_241, hw_241⟩ := hw_241
    replace e9 := e9.symm
    subst e9
    replace hw_241 : (z_243 = 1 ∧ fc = 0 ∧ tK T jt = 124) ∨ (z_243 = 0 ∧ (fc ≠ 0 ∨ tK T jt ≠ 124)) := hw_241
    have hb_244 := hw_226.1
    have hb_245 := hw_226.2
    replace hw_226 := hid.mk hw_226
    replace hn_233 := hid.mk hn_233
    try simp only [h0_237, ne_eq, not_true_eq_false, not_false_eq_true, false_implies, true_implies, true_and, and_true, eq_self, false_or, or_false, false_and, and_false] at hw_241
    replace hw_241 : z_243 = 0 := by omega
    subst hw_241
    refine lv_if_eq (tgt := 40) hx hb dX11_cond_11 (by decide) (fun _ => ?_) (fun c_246 => absurd (by decide) c_246)
    refine lv_iload_n hx hb dX11_cond_40 rfl (lv_at hl 0 rfl) ?_
    exact th_zret hx hb hr hlocks hH hS (z := z_228) (by omega) ⟨hO, hF, hM, ⟨by omega, by omega⟩, ⟨⟨by omega, by omega⟩, fc, jt, hR_236, ⟨fun _ => ⟨rfl, rfl⟩, fun h9 => absurd h9 h0_237, fun h9 => absurd h9 h0_237⟩⟩⟩ dX11_cond_41

set_option maxHeartbeats 20000000 in
set_option maxRecDepth 100000 in
theorem n_atom (n : Nat) : ∀ (l : Launch) (G : va_G) (y : Nat → ClassId) (b0 : Nat) (σ : th_M) (E : th_E) (hO : ok y E σ) (a : Nat) (h_a : kd E a = 13) (f1 : Nat → Int32) (ef1 : aF σ (ad E a 1) = f1) (Bf : Int → Int) (hsr : sr E σ a Bf) (T : tkT) (hSt : tkSt Bf T) (fc jt : Int) (hR0 : RSt σ a T fc jt) (hy0 : 0 ≤ gI σ a 17 ∧ gI σ a 17 ≤ gI σ a 13 ∧ gI σ a 13 ≤ gI σ a 11 ∧ gI σ a 11 ≤ 400) (hy1 : gI σ a 25 = 0) (hy2 : gI σ a 30 = -1) (hy3 : fc = 0 → 0 ≤ gI σ a 27 ∧ gI σ a 27 ≤ 12) (hy4 : 0 ≤ gI σ a 28 ∧ gI σ a 28 ≤ 5) (hn : (5 - gI σ a 28).toNat < n), Met l yX11_atom wsX11_atom ({ frames := 5*n+12, cells := 0, slots := 0, locals := (180*n+400) }) (th_P G y b0 σ [.ref a]) (th_Qi G b0 (fun r σ1 => ok y E σ1 ∧ fr [13] E σ σ1 ∧ fm [13, 14, 15, 16, 17, 18, 19, 20, 27, 28] E σ σ1 a ∧ (0 ≤ r ∧ r ≤ 1) ∧ (((gI σ a 13 ≤ gI σ1 a 13 ∧ gI σ1 a 13 ≤ gI σ a 11 ∧ 0 ≤ gI σ1 a 17 ∧ gI σ1 a 17 ≤ gI σ1 a 13) ∧ gI σ1 a 28 = gI σ a 28) ∧ ∃ c1 j1, RSt σ1 a T c1 j1 ∧ (fc ≠ 0 → c1 = fc ∧ j1 = jt) ∧ (fc = 0 → jt ≤ j1 ∧ GS T [(1, gI σ a 28)] jt (gI σ a 27) [] c1 j1 (gI σ1 a 27)) ∧ (c1 = 0 → 0 ≤ gI σ1 a 27 ∧ gI σ1 a 27 ≤ 12)))) 0 0 (th_A b0) := by
  induction n with
  | zero => intro l G y b0 σ E hO a h_a f1 ef1 Bf hsr T hSt fc jt hR0 hy0 hy1 hy2 hy3 hy4 hn; exact absurd hn (Nat.not_lt_zero _)
  | succ n ih =>
    intro l G y b0 σ E hO a h_a f1 ef1 Bf hsr T hSt fc jt hR0 hy0 hy1 hy2 hy3 hy4 hn
    refine Met.ofW (cc := cX11_atom) (maxL := 3) (ret := (some .boolean)) (by decide) rfl ?_
    intro p e s m args below meth c s₁ B hml hv
    obtain ⟨rfl, hH, hK⟩ := hv
    have hx := B.exec
    have hb := B.bytes
    have hr := B.returns
    have hts := atoms_spec (ws := wsX11_atom) B.pre
    have hown : s.vm.findClass RX11 = some m.cls := findClass_of_methodNamed B.named
    have hlocks := B.notSynchronized
    have h00 : b0 ≤ s.heap.size := hH.1
    have hS : va_S (th_A b0) s.heap s.heap [] := va_S.rf
    have hF : fr [13] E σ σ := fr.rf
    have hM : fm [13, 14, 15, 16, 17, 18, 19, 20, 27, 28] E σ σ a := fm.rf
    have inX11 : ∀ w ∈ wsX110, w ∈ wsX11_atom := by decide +kernel
    have fl0 := hts (.fieldLink RX11 279 "NestQueryModel" "nested" "I") (by decide +kernel)
    have hl := lv_entry ([.ref a]) (n := 3) (Nat.le_of_ble_eq_true rfl)
    rw [lg_entry_eq]
    generalize (lg_sl ([.ref a]) ++ List.replicate (3 - (lg_sl ([.ref a])).length) Slot.unset).toArray = ls at hl ⊢
    have hl : lv_has ls 3 [(0, .ref a)] := hl
    obtain ⟨a110, ea110, ra110, la110, ua110⟩ := hO.gi h_a (by decide) k13_11
    obtain ⟨a130, ea130, ra130, la130, ua130⟩ := hO.gi h_a (by decide) k13_13
    obtain ⟨a140, ea140, ra140, la140, ua140⟩ := hO.gi h_a (by decide) k13_14
    obtain ⟨a170, ea170, ra170, la170, ua170⟩ := hO.gi h_a (by decide) k13_17
    obtain ⟨a190, ea190, ra190, la190, ua190⟩ := hO.gi h_a (by decide) k13_19
    obtain ⟨a270, ea270, ra270, la270, ua270⟩ := hO.gi h_a (by decide) k13_27
    obtain ⟨a280, ea280, ra280, la280, ua280⟩ := hO.gi h_a (by decide) k13_28
    obtain ⟨a300, ea300, ra300, la300, ua300⟩ := hO.gi h_a (by decide) k13_30
    have hV0 := hR0.1
    rcases Classical.em (fc = 0) with h0_1 | h0_1
    · subst h0_1
      try simp only [ne_eq, not_true_eq_false, not_false_eq_true, false_implies, true_implies, true_and, and_true, eq_self, false_or, or_false, false_and, and_false] at hV0
      have e_2 : gI σ a 19 = 0 := by omega
      have hG_3 := GS.start (T := T) (e := [(1, gI σ a 28)]) (j := jt) (t := gI σ a 27)
      have e_4 : gI σ a 25 = 0 := by omega
      have e_5 : gI σ a 30 = -1 := by omega
      refine lv_aload_n hx hb dX11_atom_0 rfl (lv_at hl 0 rfl) ?_
      refine lv_bipush (v := I 33) hx hb dX11_atom_1 (by decide) ?_
      obtain ⟨_, hc_6⟩ := hO.cell h_a (by decide) (ci := 11) rfl
      refine th_calli (va_runV (As := [.int (I 33)]) (rest := []) ⟨hx, hb, hml, hown, hts⟩ (n_isMarked l G y b0 σ E hO a h_a 33 (show rng 33 from (show rng 33 from ⟨by decide, by decide⟩)) (by omega) (by omega) Bf hsr T hSt 0 jt hR0 (by omega)) (cwV 1 hts gX11_atom_X11_isMarked rfl rfl rfl (by decide +kernel) ⟨(by first | exact fr_q (by decide) | exact fr_r (by decide) | exact fr_s (by decide) | (simp only [headSpec]; omega) | omega | (dsimp only; omega)), (by first | exact fr_q (by decide) | exact fr_r (by decide) | exact fr_s (by decide) | (simp only [headSpec]; omega) | omega | (dsimp only; omega))⟩) (th_PV hK hH rfl hc_6) rfl rfl hl.1 rfl (lv_room (Nat.le_of_ble_eq_true rfl)) dX11_atom_3 ⟨(by first | exact fr_q (by decide) | exact fr_r (by decide) | exact fr_s (by decide) | (simp only [headSpec]; omega) | omega | (dsimp only; omega)), (by first | exact fr_q (by decide) | exact fr_r (by decide) | exact fr_s (by decide) | (simp only [headSpec]; omega) | omega | (dsimp only; omega))⟩) hS (fun z_9 σ_s_8 H locs rz_9 hw_7 hH hS => ?_)
      obtain ⟨e9, bhw_7, hw_7⟩ := hw_7
      replace e9 := e9.symm
      subst e9
      replace hw_7 : (z_9 = 1 ∧ (0 : Int) = 0 ∧ tK T jt = 33) ∨ (z_9 = 0 ∧ ((0 : Int) ≠ 0 ∨ tK T jt ≠ 33)) := hw_7
      obtain ⟨hw_7, -, hs_10⟩ | ⟨hw_7, hs_10⟩ := hw_7
      · subst hw_7
        refine lv_if_ne (tgt := 18) hx hb dX11_atom_6 (by decide) (fun _ => ?_) (fun c_11 => absurd c_11 (by decide))
        refine lv_iconst (v := I 1) hx hb dX11_atom_18 (by decide) ?_
        refine lv_goto (tgt := 23) hx hb dX11_atom_19 (by decide) ?_
        refine lv_istore_n (lv' := [(1, .int (I 1)), (0, .ref a)]) hx hb dX11_atom_23 rfl hl (by decide) rfl (fun ls hl => ?_)
        refine lv_iload_n hx hb dX11_atom_24 rfl (lv_at hl 0 rfl) ?_
        refine lv_if_eq (tgt := 41) hx hb dX11_atom_25 (by decide) (fun c_12 => absurd c_12 (by decide)) (fun _ => ?_)
        refine lv_aload_n hx hb dX11_atom_28 rfl (lv_at hl 1 rfl) ?_
        refine ok.getIc hO h_a (by decide) k13_28 ea280 (fun _ _ he hv kk => th_get (ci := 11) (C := RX11) (T := TX11) (N := 66) hx hb hts inX11 hown hK hH he rfl 28 (by decide) fl0 hv dX11_atom_29 kk) ?_
        refine lv_iconst (v := I 5) hx hb dX11_atom_32 (by decide) ?_
        refine lv_icmp_ne (tgt := 41) hx hb dX11_atom_33 (by decide) (fun c_13 => ?_) (fun c_13 => ?_)
        · replace c_13 := mt (I_eq (a := a280) (b := 5) ra280 (show rng 5 from ⟨by decide, by decide⟩)).mpr c_13
          refine lv_aload_n hx hb dX11_atom_41 rfl (lv_at hl 1 rfl) ?_
          refine lv_bipush (v := I 33) hx hb dX11_atom_42 (by decide) ?_
          obtain ⟨_, hc_14⟩ := hO.cell h_a (by decide) (ci := 11) rfl
          refine th_calli (va_runV (As := [.int (I 33)]) (rest := []) ⟨hx, hb, hml, hown, hts⟩ (n_isMarked l G y b0 σ E hO a h_a 33 (show rng 33 from (show rng 33 from ⟨by decide, by decide⟩)) (by omega) (by omega) Bf hsr T hSt 0 jt hR0 (by omega)) (cwV 1 hts gX11_atom_X11_isMarked rfl rfl rfl (by decide +kernel) ⟨(by first | exact fr_q (by decide) | exact fr_r (by decide) | exact fr_s (by decide) | (simp only [headSpec]; omega) | omega | (dsimp only; omega)), (by first | exact fr_q (by decide) | exact fr_r (by decide) | exact fr_s (by decide) | (simp only [headSpec]; omega) | omega | (dsimp only; omega))⟩) (th_PV hK hH rfl hc_14) rfl rfl hl.1 rfl (lv_room (Nat.le_of_ble_eq_true rfl)) dX11_atom_44 ⟨(by first | exact fr_q (by decide) | exact fr_r (by decide) | exact fr_s (by decide) | (simp only [headSpec]; omega) | omega | (dsimp only; omega)), (by first | exact fr_q (by decide) | exact fr_r (by decide) | exact fr_s (by decide) | (simp only [headSpec]; omega) | omega | (dsimp only; omega))⟩) hS (fun z_17 σ_s_16 H locs rz_17 hw_15 hH hS => ?_)
          obtain ⟨e9, bhw_15, hw_15⟩ := hw_15
          replace e9 := e9.symm
          subst e9
          replace hw_15 : (z_17 = 1 ∧ (0 : Int) = 0 ∧ tK T jt = 33) ∨ (z_17 = 0 ∧ ((0 : Int) ≠ 0 ∨ tK T jt ≠ 33)) := hw_15
          replace hw_15 : z_17 = 1 := by omega
          subst hw_15
          refine lv_if_eq (tgt := 89) hx hb dX11_atom_47 (by decide) (fun c_18 => absurd c_18 (by decide)) (fun _ => ?_)
          refine lv_aload_n hx hb dX11_atom_50 rfl (lv_at hl 1 rfl) ?_
          refine lv_dup hx hb dX11_atom_51 rfl ?_
          refine ok.getIc hO h_a (by decide) k13_28 ea280 (fun _ _ he hv kk => th_get (ci := 11) (C := RX11) (T := TX11) (N := 66) hx hb hts inX11 hown hK hH he rfl 28 (by decide) fl0 hv dX11_atom_52 kk) ?_
          refine lv_iconst (v := I 1) hx hb dX11_atom_55 (by decide) ?_
          refine lv_iadd hx hb dX11_atom_56 ?_
          refine th_addo (fun z_19 rz_19 hz_19 => ?_)
          refine ok.putJ hO h_a k13_28 rz_19 (by omega) (by omega) (fun _ he hl9 kk => th_put (ci := 11) (v := .int (I z_19)) (ty := .int) (C := RX11) (T := TX11) (N := 66) hx hb hts inX11 tyX11 tyX11_ok nmX11 hown hK hH hS h00 he rfl 28 (by decide) fl0 rfl (by decide +kernel) rfl rfl hl9 dX11_atom_57 kk) (fun σ_s_20 H locs hO hF9 hM9 hg9 ha9 hH hS => ?_)
          replace hM := hM.tu hM9 (by decide)
          replace hF := hF.tu hF9 (by decide)
          have e_21 : aF σ_s_20 (ad E a 1) = f1 := (hM9.a (by decide) (by decide)).trans ef1
          have e_22 : gI σ_s_20 a 11 = a110 := (hM9.i (by decide)).trans ea110
          have e_23 : gI σ_s_20 a 13 = a130 := (hM9.i (by decide)).trans ea130
          have e_24 : gI σ_s_20 a 14 = a140 := (hM9.i (by decide)).trans ea140
          have e_25 : gI σ_s_20 a 17 = a170 := (hM9.i (by decide)).trans ea170
          have e_26 : gI σ_s_20 a 19 = 0 := (hM9.i (by decide)).trans e_2
          have e_27 : gI σ_s_20 a 27 = a270 := (hM9.i (by decide)).trans ea270
          have e_28 : gI σ_s_20 a 30 = (-1) := (hM9.i (by decide)).trans e_5
          have e_29 : gI σ_s_20 a 25 = 0 := (hM9.i (by decide)).trans e_4
          replace hsr := hsr.mv hM9 (by decide) (by decide) (by decide) (by decide) (by decide)
          replace hV0 := hid.mk hV0
          have hR_30 : RSt σ_s_20 a T 0 jt := RSt.mv hM9 (by decide) (by decide) (by decide) (by decide) (by decide) (by decide) (by decide) hR0
          have hVhR_30 := hR_30.1
          have e_31 := hg9
          refine lv_aload_n hx hb dX11_atom_60 rfl (lv_at hl 1 rfl) ?_
          obtain ⟨_, hc_32⟩ := hO.cell h_a (by decide) (ci := 11) rfl
          refine th_callv (va_runV (As := []) (rest := []) ⟨hx, hb, hml, hown, hts⟩ (n_pass l G y b0 σ_s_20 E hO a h_a Bf hsr T hSt 0 jt hR_30 (by omega) (by omega)) (cwV 0 hts gX11_atom_X11_pass rfl rfl rfl (by decide +kernel) ⟨(by first | exact fr_q (by decide) | exact fr_r (by decide) | exact fr_s (by decide) | (simp only [headSpec]; omega) | omega | (dsimp only; omega)), (by first | exact fr_q (by decide) | exact fr_r (by decide) | exact fr_s (by decide) | (simp only [headSpec]; omega) | omega | (dsimp only; omega))⟩) (th_PV hK hH rfl hc_32) rfl rfl hl.1 rfl (lv_room (Nat.le_of_ble_eq_true rfl)) dX11_atom_61 ⟨(by first | exact fr_q (by decide) | exact fr_r (by decide) | exact fr_s (by decide) | (simp only [headSpec]; omega) | omega | (dsimp only; omega)), (by first | exact fr_q (by decide) | exact fr_r (by decide) | exact fr_s (by decide) | (simp only [headSpec]; omega) | omega | (dsimp only; omega))⟩) hS (fun σ_s_34 H locs hw_33 hH hS => ?_)
          obtain ⟨hO9, hF9, hM9, hw_33⟩ := hw_33
          replace hM := hM.tu hM9 (by decide)
          replace hF := hF.tu hF9 (by decide)
          have e_35 : aF σ_s_34 (ad E a 1) = f1 := (hM9.a (by decide) (by decide)).trans e_21
          have e_36 : gI σ_s_34 a 11 = a110 := (hM9.i (by decide)).trans e_22
          have e_37 : gI σ_s_34 a 19 = 0 := (hM9.i (by decide)).trans e_26
          have e_38 : gI σ_s_34 a 27 = a270 := (hM9.i (by decide)).trans e_27
          have e_39 : gI σ_s_34 a 30 = (-1) := (hM9.i (by decide)).trans e_28
          have e_40 : gI σ_s_34 a 25 = 0 := (hM9.i (by decide)).trans e_29
          have e_41 : gI σ_s_34 a 28 = z_19 := (hM9.i (by decide)).trans e_31
          replace hsr := hsr.mv hM9 (by decide) (by decide) (by decide) (by decide) (by decide)
          replace hO := hO9
          replace hw_33 : ((gI σ_s_20 a 13 ≤ gI σ_s_34 a 13 ∧ gI σ_s_34 a 13 ≤ gI σ_s_20 a 11 ∧ 0 ≤ gI σ_s_34 a 17 ∧ gI σ_s_34 a 17 ≤ gI σ_s_34 a 13) ∧ pgo (gI σ_s_34 a 19) (gI σ_s_34 a 14) (gI σ_s_20 a 13) (gI σ_s_34 a 13) ∧ gI σ_s_34 a 19 = gI σ_s_20 a 19) ∧ ∃ c1 j1, RSt σ_s_34 a T c1 j1 ∧ (c1 = 0 ∧ ((0 : Int) ≠ 0 → j1 = jt) ∧ ((0 : Int) = 0 → j1 = jt + 1)) := hw_33
          replace hVhR_30 := hid.mk hVhR_30
          have hn_42 := hw_33.2
          replace hw_33 := hw_33.1
          obtain ⟨cc_43, jj_44, hR_45, hn_42⟩ := hn_42
          have hVhR_45 := hR_45.1
          have h0_46 : cc_43 = 0 := by omega
          subst h0_46
          try simp only [ne_eq, not_true_eq_false, not_false_eq_true, false_implies, true_implies, true_and, and_true, eq_self, false_or, or_false, false_and, and_false] at hVhR_45
          have e_47 : gI σ_s_34 a 19 = 0 := by omega
          have hj_48 : jt + 1 = jj_44 := by omega
          subst hj_48
          have hG_49 := hG_3.not hs_10 (by omega)
          refine lv_aload_n hx hb dX11_atom_64 rfl (lv_at hl 1 rfl) ?_
          obtain ⟨_, hc_50⟩ := hO.cell h_a (by decide) (ci := 11) rfl
          refine th_calli (va_runV (As := []) (rest := []) ⟨hx, hb, hml, hown, hts⟩ (ih l G y b0 σ_s_34 E hO a h_a f1 e_35 Bf hsr T hSt 0 (jt + 1) hR_45 (by omega) (by omega) (by omega) (by omega) (by omega) (by omega)) (cwV 0 hts gX11_atom_X11_atom rfl rfl rfl (by decide +kernel) ⟨(by first | exact fr_q (by decide) | exact fr_r (by decide) | exact fr_s (by decide) | (simp only [headSpec]; omega) | omega | (dsimp only; omega)), (by first | exact fr_q (by decide) | exact fr_r (by decide) | exact fr_s (by decide) | (simp only [headSpec]; omega) | omega | (dsimp only; omega))⟩) (th_PV hK hH rfl hc_50) rfl rfl hl.1 rfl (lv_room (Nat.le_of_ble_eq_true rfl)) dX11_atom_65 ⟨(by first | exact fr_q (by decide) | exact fr_r (by decide) | exact fr_s (by decide) | (simp only [headSpec]; omega) | omega | (dsimp only; omega)), (by first | exact fr_q (by decide) | exact fr_r (by decide) | exact fr_s (by decide) | (simp only [headSpec]; omega) | omega | (dsimp only; omega))⟩) hS (fun z_53 σ_s_52 H locs rz_53 hw_51 hH hS => ?_)
          obtain ⟨hO9, hF9, hM9, bhw_51, hw_51⟩ := hw_51
          replace hM := hM.tu hM9 (by decide)
          replace hF := hF.tu hF9 (by decide)
          have e_54 : aF σ_s_52 (ad E a 1) = f1 := (hM9.a (by decide) (by decide)).trans e_35
          have e_55 : gI σ_s_52 a 11 = a110 := (hM9.i (by decide)).trans e_36
          have e_56 : gI σ_s_52 a 30 = (-1) := (hM9.i (by decide)).trans e_39
          have e_57 : gI σ_s_52 a 25 = 0 := (hM9.i (by decide)).trans e_40
          replace hsr := hsr.mv hM9 (by decide) (by decide) (by decide) (by decide) (by decide)
          replace hO := hO9
          replace hw_51 : ((gI σ_s_34 a 13 ≤ gI σ_s_52 a 13 ∧ gI σ_s_52 a 13 ≤ gI σ_s_34 a 11 ∧ 0 ≤ gI σ_s_52 a 17 ∧ gI σ_s_52 a 17 ≤ gI σ_s_52 a 13) ∧ gI σ_s_52 a 28 = gI σ_s_34 a 28) ∧ ∃ c1 j1, RSt σ_s_52 a T c1 j1 ∧ ((0 : Int) ≠ 0 → c1 = 0 ∧ j1 = (jt + 1)) ∧ ((0 : Int) = 0 → (jt + 1) ≤ j1 ∧ GS T [(1, gI σ_s_34 a 28)] (jt + 1) (gI σ_s_34 a 27) [] c1 j1 (gI σ_s_52 a 27)) ∧ (c1 = 0 → 0 ≤ gI σ_s_52 a 27 ∧ gI σ_s_52 a 27 ≤ 12) := hw_51
          have hb_58 := hw_33.1
          replace hw_33 := hid.mk hw_33
          replace hn_42 := hid.mk hn_42
          replace hVhR_45 := hid.mk hVhR_45
          have hn_59 := hw_51.2
          replace hw_51 := hw_51.1
          obtain ⟨cc_60, jj_61, hR_62, hn_59⟩ := hn_59
          have hVhR_62 := hR_62.1
          have hG_63 := hG_49.call (c2 := cc_60) (j2 := jj_61) (t2 := gI σ_s_52 a 27) (fun _ => GS.cg1 (hn_59.2.1 rfl).2 (by omega) rfl (by omega)) (fun h9 => absurd rfl h9)
          have hq_64 := (hn_59.2.1 rfl).1
          have hq_65 := hn_59.2.2
          replace hn_59 := hid.mk hn_59
          refine lv_istore_n (lv' := [(2, .int (I z_53)), (1, .int (I 1)), (0, .ref a)]) hx hb dX11_atom_68 rfl hl (by decide) rfl (fun ls hl => ?_)
          refine lv_aload_n hx hb dX11_atom_69 rfl (lv_at hl 2 rfl) ?_
          refine lv_dup hx hb dX11_atom_70 rfl ?_
          refine ok.getI hO h_a (by decide) k13_28 (fun _ _ he hv kk => th_get (ci := 11) (C := RX11) (T := TX11) (N := 66) hx hb hts inX11 hown hK hH he rfl 28 (by decide) fl0 hv dX11_atom_71 kk) (fun z_66 e_67 rz_66 lz_66 uz_66 => ?_)
          refine lv_iconst (v := I 1) hx hb dX11_atom_74 (by decide) ?_
          refine lv_isub hx hb dX11_atom_75 ?_
          refine th_subo (fun z_68 rz_68 hz_68 => ?_)
          obtain ⟨z_69, e_70, rz_69, lz_69, uz_69⟩ := hO.gi h_a (by decide) k13_13
          obtain ⟨z_71, e_72, rz_71, lz_71, uz_71⟩ := hO.gi h_a (by decide) k13_14
          obtain ⟨z_73, e_74, rz_73, lz_73, uz_73⟩ := hO.gi h_a (by decide) k13_17
          obtain ⟨z_75, e_76, rz_75, lz_75, uz_75⟩ := hO.gi h_a (by decide) k13_19
          obtain ⟨z_77, e_78, rz_77, lz_77, uz_77⟩ := hO.gi h_a (by decide) k13_27
          refine ok.putJ hO h_a k13_28 rz_68 (by omega) (by omega) (fun _ he hl9 kk => th_put (ci := 11) (v := .int (I z_68)) (ty := .int) (C := RX11) (T := TX11) (N := 66) hx hb hts inX11 tyX11 tyX11_ok nmX11 hown hK hH hS h00 he rfl 28 (by decide) fl0 rfl (by decide +kernel) rfl rfl hl9 dX11_atom_76 kk) (fun σ_s_79 H locs hO hF9 hM9 hg9 ha9 hH hS => ?_)
          replace hM := hM.tu hM9 (by decide)
          replace hF := hF.tu hF9 (by decide)
          have e_80 : aF σ_s_79 (ad E a 1) = f1 := (hM9.a (by decide) (by decide)).trans e_54
          have e_81 : gI σ_s_79 a 11 = a110 := (hM9.i (by decide)).trans e_55
          have e_82 : gI σ_s_79 a 30 = (-1) := (hM9.i (by decide)).trans e_56
          have e_83 : gI σ_s_79 a 25 = 0 := (hM9.i (by decide)).trans e_57
          have e_84 : gI σ_s_79 a 13 = z_69 := (hM9.i (by decide)).trans e_70
          have e_85 : gI σ_s_79 a 14 = z_71 := (hM9.i (by decide)).trans e_72
          have e_86 : gI σ_s_79 a 17 = z_73 := (hM9.i (by decide)).trans e_74
          have e_87 : gI σ_s_79 a 19 = z_75 := (hM9.i (by decide)).trans e_76
          have e_88 : gI σ_s_79 a 27 = z_77 := (hM9.i (by decide)).trans e_78
          replace hsr := hsr.mv hM9 (by decide) (by decide) (by decide) (by decide) (by decide)
          replace hVhR_62 := hid.mk hVhR_62
          have hR_89 : RSt σ_s_79 a T cc_60 jj_61 := RSt.mv hM9 (by decide) (by decide) (by decide) (by decide) (by decide) (by decide) (by decide) hR_62
          have hVhR_89 := hR_89.1
          have e_90 := hg9
          refine lv_iload_n hx hb dX11_atom_79 rfl (lv_at hl 0 rfl) ?_
          refine lv_if_ne (tgt := 87) hx hb dX11_atom_80 (by decide) (fun c_91 => ?_) (fun c_91 => ?_)
          · replace c_91 := mt (I_eq (a := z_53) (b := 0) rz_53 (show rng 0 from ⟨by decide, by decide⟩)).mpr c_91
            refine lv_iconst (v := I 0) hx hb dX11_atom_87 (by decide) ?_
            exact th_zret hx hb hr hlocks hH hS (z := 0) (by omega) ⟨hO, hF, hM, ⟨by omega, by omega⟩, ⟨⟨by omega, by omega⟩, cc_60, jj_61, hR_89, (fun h9 => absurd rfl h9), fun _ => ⟨by omega, hG_63.ec rfl rfl (fun _ => by omega)⟩, by omega⟩⟩ dX11_atom_88
          · replace c_91 := (I_eq (a := z_53) (b := 0) rz_53 (show rng 0 from ⟨by decide, by decide⟩)).mp c_91
            refine lv_iconst (v := I 1) hx hb dX11_atom_83 (by decide) ?_
            refine lv_goto (tgt := 88) hx hb dX11_atom_84 (by decide) ?_
            exact th_zret hx hb hr hlocks hH hS (z := 1) (by omega) ⟨hO, hF, hM, ⟨by omega, by omega⟩, ⟨⟨by omega, by omega⟩, cc_60, jj_61, hR_89, (fun h9 => absurd rfl h9), fun _ => ⟨by omega, hG_63.ec rfl rfl (fun _ => by omega)⟩, by omega⟩⟩ dX11_atom_88
        · replace c_13 := (I_eq (a := a280) (b := 5) ra280 (show rng 5 from ⟨by decide, by decide⟩)).mp c_13
          refine lv_aload_n hx hb dX11_atom_36 rfl (lv_at hl 1 rfl) ?_
          refine lv_iconst (v := I 2) hx hb dX11_atom_37 (by decide) ?_
          obtain ⟨_, hc_92⟩ := hO.cell h_a (by decide) (ci := 11) rfl
          refine th_callv (va_runV (As := [.int (I 2)]) (rest := []) ⟨hx, hb, hml, hown, hts⟩ (n_wrong l G y b0 σ E hO a h_a 2 (show rng 2 from (show rng 2 from ⟨by decide, by decide⟩)) (by omega) (by omega) Bf hsr T hSt 0 jt hR0) (cwV 1 hts gX11_atom_X11_wrong rfl rfl rfl (by decide +kernel) ⟨(by first | exact fr_q (by decide) | exact fr_r (by decide) | exact fr_s (by decide) | (simp only [headSpec]; omega) | omega | (dsimp only; omega)), (by first | exact fr_q (by decide) | exact fr_r (by decide) | exact fr_s (by decide) | (simp only [headSpec]; omega) | omega | (dsimp only; omega))⟩) (th_PV hK hH rfl hc_92) rfl rfl hl.1 rfl (lv_room (Nat.le_of_ble_eq_true rfl)) dX11_atom_38 ⟨(by first | exact fr_q (by decide) | exact fr_r (by decide) | exact fr_s (by decide) | (simp only [headSpec]; omega) | omega | (dsimp only; omega)), (by first | exact fr_q (by decide) | exact fr_r (by decide) | exact fr_s (by decide) | (simp only [headSpec]; omega) | omega | (dsimp only; omega))⟩) hS (fun σ_s_94 H locs hw_93 hH hS => ?_)
          obtain ⟨hO9, hF9, hM9, hw_93⟩ := hw_93
          replace hM := hM.tu hM9 (by decide)
          replace hF := hF.tu hF9 (by decide)
          have e_95 : aF σ_s_94 (ad E a 1) = f1 := (hM9.a (by decide) (by decide)).trans ef1
          have e_96 : gI σ_s_94 a 11 = a110 := (hM9.i (by decide)).trans ea110
          have e_97 : gI σ_s_94 a 13 = a130 := (hM9.i (by decide)).trans ea130
          have e_98 : gI σ_s_94 a 14 = a140 := (hM9.i (by decide)).trans ea140
          have e_99 : gI σ_s_94 a 17 = a170 := (hM9.i (by decide)).trans ea170
          have e_100 : gI σ_s_94 a 27 = a270 := (hM9.i (by decide)).trans ea270
          have e_101 : gI σ_s_94 a 28 = a280 := (hM9.i (by decide)).trans ea280
          have e_102 : gI σ_s_94 a 30 = (-1) := (hM9.i (by decide)).trans e_5
          have e_103 : gI σ_s_94 a 25 = 0 := (hM9.i (by decide)).trans e_4
          replace hsr := hsr.mv hM9 (by decide) (by decide) (by decide) (by decide) (by decide)
          replace hO := hO9
          replace hw_93 : (¬ gI σ_s_94 a 19 = 0 ∧ (gI σ a 19 = 0 ∨ gI σ_s_94 a 19 = gI σ a 19)) ∧ ∃ c1 j1, RSt σ_s_94 a T c1 j1 ∧ (j1 = jt ∧ ((0 : Int) = 0 → c1 = 2) ∧ ((0 : Int) ≠ 0 → c1 = 0)) := hw_93
          replace hV0 := hid.mk hV0
          have hn_104 := hw_93.2
          replace hw_93 := hw_93.1
          obtain ⟨cc_105, jj_106, hR_107, hn_104⟩ := hn_104
          have hVhR_107 := hR_107.1
          have hj9 := hn_104.1.symm
          subst hj9
          have h0_108 : ¬ cc_105 = 0 := by omega
          try simp only [h0_108, ne_eq, not_true_eq_false, not_false_eq_true, false_implies, true_implies, true_and, and_true, eq_self, false_or, or_false, false_and, and_false] at hVhR_107
          try simp only [h0_108, ne_eq, not_true_eq_false, not_false_eq_true, false_implies, true_implies, true_and, and_true, eq_self, false_or, or_false, false_and, and_false] at hn_104
          have hG_109 := hG_3.deep (c2 := cc_105) (j2 := jt) (l2 := []) (t2 := 0) (by omega) (by omega) (by omega) rfl
          refine lv_aload_n hx hb dX11_atom_41 rfl (lv_at hl 1 rfl) ?_
          refine lv_bipush (v := I 33) hx hb dX11_atom_42 (by decide) ?_
          obtain ⟨_, hc_110⟩ := hO.cell h_a (by decide) (ci := 11) rfl
          refine th_calli (va_runV (As := [.int (I 33)]) (rest := []) ⟨hx, hb, hml, hown, hts⟩ (n_isMarked l G y b0 σ_s_94 E hO a h_a 33 (show rng 33 from (show rng 33 from ⟨by decide, by decide⟩)) (by omega) (by omega) Bf hsr T hSt cc_105 jt hR_107 (by omega)) (cwV 1 hts gX11_atom_X11_isMarked rfl rfl rfl (by decide +kernel) ⟨(by first | exact fr_q (by decide) | exact fr_r (by decide) | exact fr_s (by decide) | (simp only [headSpec]; omega) | omega | (dsimp only; omega)), (by first | exact fr_q (by decide) | exact fr_r (by decide) | exact fr_s (by decide) | (simp only [headSpec]; omega) | omega | (dsimp only; omega))⟩) (th_PV hK hH rfl hc_110) rfl rfl hl.1 rfl (lv_room (Nat.le_of_ble_eq_true rfl)) dX11_atom_44 ⟨(by first | exact fr_q (by decide) | exact fr_r (by decide) | exact fr_s (by decide) | (simp only [headSpec]; omega) | omega | (dsimp only; omega)), (by first | exact fr_q (by decide) | exact fr_r (by decide) | exact fr_s (by decide) | (simp only [headSpec]; omega) | omega | (dsimp only; omega))⟩) hS (fun z_113 σ_s_112 H locs rz_113 hw_111 hH hS => ?_)
          obtain ⟨e9, bhw_111, hw_111⟩ := hw_111
          replace e9 := e9.symm
          subst e9
          replace hw_111 : (z_113 = 1 ∧ cc_105 = 0 ∧ tK T jt = 33) ∨ (z_113 = 0 ∧ (cc_105 ≠ 0 ∨ tK T jt ≠ 33)) := hw_111
          replace hw_93 := hid.mk hw_93
          replace hn_104 := hid.mk hn_104
          try simp only [h0_108, ne_eq, not_true_eq_false, not_false_eq_true, false_implies, true_implies, true_and, and_true, eq_self, false_or, or_false, false_and, and_false] at hw_111
          replace hw_111 : z_113 = 0 := by omega
          subst hw_111
          refine lv_if_eq (tgt := 89) hx hb dX11_atom_47 (by decide) (fun _ => ?_) (fun c_114 => absurd (by decide) c_114)
          refine lv_aload_n hx hb dX11_atom_89 rfl (lv_at hl 1 rfl) ?_
          refine lv_bipush (v := I 40) hx hb dX11_atom_90 (by decide) ?_
          obtain ⟨_, hc_115⟩ := hO.cell h_a (by decide) (ci := 11) rfl
          refine th_calli (va_runV (As := [.int (I 40)]) (rest := []) ⟨hx, hb, hml, hown, hts⟩ (n_isMarked l G y b0 σ_s_94 E hO a h_a 40 (show rng 40 from (show rng 40 from ⟨by decide, by decide⟩)) (by omega) (by omega) Bf hsr T hSt cc_105 jt hR_107 (by omega)) (cwV 1 hts gX11_atom_X11_isMarked rfl rfl rfl (by decide +kernel) ⟨(by first | exact fr_q (by decide) | exact fr_r (by decide) | exact fr_s (by decide) | (simp only [headSpec]; omega) | omega | (dsimp only; omega)), (by first | exact fr_q (by decide) | exact fr_r (by decide) | exact fr_s (by decide) | (simp only [headSpec]; omega) | omega | (dsimp only; omega))⟩) (th_PV hK hH rfl hc_115) rfl rfl hl.1 rfl (lv_room (Nat.le_of_ble_eq_true rfl)) dX11_atom_92 ⟨(by first | exact fr_q (by decide) | exact fr_r (by decide) | exact fr_s (by decide) | (simp only [headSpec]; omega) | omega | (dsimp only; omega)), (by first | exact fr_q (by decide) | exact fr_r (by decide) | exact fr_s (by decide) | (simp only [headSpec]; omega) | omega | (dsimp only; omega))⟩) hS (fun z_118 σ_s_117 H locs rz_118 hw_116 hH hS => ?_)
          obtain ⟨e9, bhw_116, hw_116⟩ := hw_116
          replace e9 := e9.symm
          subst e9
          replace hw_116 : (z_118 = 1 ∧ cc_105 = 0 ∧ tK T jt = 40) ∨ (z_118 = 0 ∧ (cc_105 ≠ 0 ∨ tK T jt ≠ 40)) := hw_116
          try simp only [h0_108, ne_eq, not_true_eq_false, not_false_eq_true, false_implies, true_implies, true_and, and_true, eq_self, false_or, or_false, false_and, and_false] at hw_116
          replace hw_116 : z_118 = 0 := by omega
          subst hw_116
          refine lv_if_eq (tgt := 135) hx hb dX11_atom_95 (by decide) (fun _ => ?_) (fun c_119 => absurd (by decide) c_119)
          refine lv_aload_n hx hb dX11_atom_135 rfl (lv_at hl 1 rfl) ?_
          obtain ⟨_, hc_120⟩ := hO.cell h_a (by decide) (ci := 11) rfl
          refine th_calli (va_runV (As := []) (rest := []) ⟨hx, hb, hml, hown, hts⟩ (n_little l G y b0 σ_s_94 E hO a h_a f1 e_95 Bf hsr T hSt cc_105 jt hR_107 (gI σ a 28) (by omega) (by omega) (by omega) (by omega) ((fun h9 => absurd h9 h0_108))) (cwV 0 hts gX11_atom_X11_little rfl rfl rfl (by decide +kernel) ⟨(by first | exact fr_q (by decide) | exact fr_r (by decide) | exact fr_s (by decide) | (simp only [headSpec]; omega) | omega | (dsimp only; omega)), (by first | exact fr_q (by decide) | exact fr_r (by decide) | exact fr_s (by decide) | (simp only [headSpec]; omega) | omega | (dsimp only; omega))⟩) (th_PV hK hH rfl hc_120) rfl rfl hl.1 rfl (lv_room (Nat.le_of_ble_eq_true rfl)) dX11_atom_136 ⟨(by first | exact fr_q (by decide) | exact fr_r (by decide) | exact fr_s (by decide) | (simp only [headSpec]; omega) | omega | (dsimp only; omega)), (by first | exact fr_q (by decide) | exact fr_r (by decide) | exact fr_s (by decide) | (simp only [headSpec]; omega) | omega | (dsimp only; omega))⟩) hS (fun z_123 σ_s_122 H locs rz_123 hw_121 hH hS => ?_)
          obtain ⟨hO9, hF9, hM9, bhw_121, hw_121⟩ := hw_121
          replace hM := hM.tu hM9 (by decide)
          replace hF := hF.tu hF9 (by decide)
          have e_124 : aF σ_s_122 (ad E a 1) = f1 := (hM9.a (by decide) (by decide)).trans e_95
          have e_125 : gI σ_s_122 a 11 = a110 := (hM9.i (by decide)).trans e_96
          have e_126 : gI σ_s_122 a 28 = a280 := (hM9.i (by decide)).trans e_101
          have e_127 : gI σ_s_122 a 30 = (-1) := (hM9.i (by decide)).trans e_102
          have e_128 : gI σ_s_122 a 25 = 0 := (hM9.i (by decide)).trans e_103
          replace hsr := hsr.mv hM9 (by decide) (by decide) (by decide) (by decide) (by decide)
          replace hO := hO9
          replace hw_121 : ((gI σ_s_94 a 13 ≤ gI σ_s_122 a 13 ∧ gI σ_s_122 a 13 ≤ gI σ_s_94 a 11 ∧ 0 ≤ gI σ_s_122 a 17 ∧ gI σ_s_122 a 17 ≤ gI σ_s_122 a 13)) ∧ ∃ c1 j1, RSt σ_s_122 a T c1 j1 ∧ (cc_105 ≠ 0 → c1 = cc_105 ∧ j1 = jt) ∧ (cc_105 = 0 → jt ≤ j1 ∧ GS T [(1, (gI σ a 28))] jt (gI σ_s_94 a 27) [] c1 j1 (gI σ_s_122 a 27)) ∧ (c1 = 0 → 0 ≤ gI σ_s_122 a 27 ∧ gI σ_s_122 a 27 ≤ 12) := hw_121
          replace hVhR_107 := hid.mk hVhR_107
          have hn_129 := hw_121.2
          replace hw_121 := hw_121.1
          obtain ⟨cc_130, jj_131, hR_132, hn_129⟩ := hn_129
          have hVhR_132 := hR_132.1
          have h0_133 : ¬ cc_130 = 0 := by omega
          try simp only [h0_133, ne_eq, not_true_eq_false, not_false_eq_true, false_implies, true_implies, true_and, and_true, eq_self, false_or, or_false, false_and, and_false] at hVhR_132
          have hc_134 : cc_105 = cc_130 := by omega
          subst hc_134
          have hj_135 : jt = jj_131 := by omega
          subst hj_135
          exact th_zret hx hb hr hlocks hH hS (z := z_123) (by omega) ⟨hO, hF, hM, ⟨by omega, by omega⟩, ⟨⟨by omega, by omega⟩, cc_105, jt, hR_132, ⟨(fun h9 => absurd rfl h9), fun _ => ⟨by omega, hG_109.was h0_133⟩, fun h9 => absurd h9 h0_133⟩⟩⟩ dX11_atom_139
      · replace hs_10 := hs_10.resolve_left (fun h9 => h9 rfl)
        subst hw_7
        refine lv_if_ne (tgt := 18) hx hb dX11_atom_6 (by decide) (fun c_136 => absurd (by decide) c_136) (fun _ => ?_)
        refine lv_aload_n hx hb dX11_atom_9 rfl (lv_at hl 0 rfl) ?_
        refine lv_bipush (v := I 40) hx hb dX11_atom_10 (by decide) ?_
        obtain ⟨_, hc_137⟩ := hO.cell h_a (by decide) (ci := 11) rfl
        refine th_calli (va_runV (As := [.int (I 40)]) (rest := []) ⟨hx, hb, hml, hown, hts⟩ (n_isMarked l G y b0 σ E hO a h_a 40 (show rng 40 from (show rng 40 from ⟨by decide, by decide⟩)) (by omega) (by omega) Bf hsr T hSt 0 jt hR0 (by omega)) (cwV 1 hts gX11_atom_X11_isMarked rfl rfl rfl (by decide +kernel) ⟨(by first | exact fr_q (by decide) | exact fr_r (by decide) | exact fr_s (by decide) | (simp only [headSpec]; omega) | omega | (dsimp only; omega)), (by first | exact fr_q (by decide) | exact fr_r (by decide) | exact fr_s (by decide) | (simp only [headSpec]; omega) | omega | (dsimp only; omega))⟩) (th_PV hK hH rfl hc_137) rfl rfl hl.1 rfl (lv_room (Nat.le_of_ble_eq_true rfl)) dX11_atom_12 ⟨(by first | exact fr_q (by decide) | exact fr_r (by decide) | exact fr_s (by decide) | (simp only [headSpec]; omega) | omega | (dsimp only; omega)), (by first | exact fr_q (by decide) | exact fr_r (by decide) | exact fr_s (by decide) | (simp only [headSpec]; omega) | omega | (dsimp only; omega))⟩) hS (fun z_140 σ_s_139 H locs rz_140 hw_138 hH hS => ?_)
        obtain ⟨e9, bhw_138, hw_138⟩ := hw_138
        replace e9 := e9.symm
        subst e9
        replace hw_138 : (z_140 = 1 ∧ (0 : Int) = 0 ∧ tK T jt = 40) ∨ (z_140 = 0 ∧ ((0 : Int) ≠ 0 ∨ tK T jt ≠ 40)) := hw_138
        obtain ⟨hw_138, -, hs_141⟩ | ⟨hw_138, hs_141⟩ := hw_138
        · subst hw_138
          refine lv_if_eq (tgt := 22) hx hb dX11_atom_15 (by decide) (fun c_142 => absurd c_142 (by decide)) (fun _ => ?_)
          refine lv_iconst (v := I 1) hx hb dX11_atom_18 (by decide) ?_
          refine lv_goto (tgt := 23) hx hb dX11_atom_19 (by decide) ?_
          refine lv_istore_n (lv' := [(1, .int (I 1)), (0, .ref a)]) hx hb dX11_atom_23 rfl hl (by decide) rfl (fun ls hl => ?_)
          refine lv_iload_n hx hb dX11_atom_24 rfl (lv_at hl 0 rfl) ?_
          refine lv_if_eq (tgt := 41) hx hb dX11_atom_25 (by decide) (fun c_143 => absurd c_143 (by decide)) (fun _ => ?_)
          refine lv_aload_n hx hb dX11_atom_28 rfl (lv_at hl 1 rfl) ?_
          refine ok.getIc hO h_a (by decide) k13_28 ea280 (fun _ _ he hv kk => th_get (ci := 11) (C := RX11) (T := TX11) (N := 66) hx hb hts inX11 hown hK hH he rfl 28 (by decide) fl0 hv dX11_atom_29 kk) ?_
          refine lv_iconst (v := I 5) hx hb dX11_atom_32 (by decide) ?_
          refine lv_icmp_ne (tgt := 41) hx hb dX11_atom_33 (by decide) (fun c_144 => ?_) (fun c_144 => ?_)
          · replace c_144 := mt (I_eq (a := a280) (b := 5) ra280 (show rng 5 from ⟨by decide, by decide⟩)).mpr c_144
            refine lv_aload_n hx hb dX11_atom_41 rfl (lv_at hl 1 rfl) ?_
            refine lv_bipush (v := I 33) hx hb dX11_atom_42 (by decide) ?_
            obtain ⟨_, hc_145⟩ := hO.cell h_a (by decide) (ci := 11) rfl
            refine th_calli (va_runV (As := [.int (I 33)]) (rest := []) ⟨hx, hb, hml, hown, hts⟩ (n_isMarked l G y b0 σ E hO a h_a 33 (show rng 33 from (show rng 33 from ⟨by decide, by decide⟩)) (by omega) (by omega) Bf hsr T hSt 0 jt hR0 (by omega)) (cwV 1 hts gX11_atom_X11_isMarked rfl rfl rfl (by decide +kernel) ⟨(by first | exact fr_q (by decide) | exact fr_r (by decide) | exact fr_s (by decide) | (simp only [headSpec]; omega) | omega | (dsimp only; omega)), (by first | exact fr_q (by decide) | exact fr_r (by decide) | exact fr_s (by decide) | (simp only [headSpec]; omega) | omega | (dsimp only; omega))⟩) (th_PV hK hH rfl hc_145) rfl rfl hl.1 rfl (lv_room (Nat.le_of_ble_eq_true rfl)) dX11_atom_44 ⟨(by first | exact fr_q (by decide) | exact fr_r (by decide) | exact fr_s (by decide) | (simp only [headSpec]; omega) | omega | (dsimp only; omega)), (by first | exact fr_q (by decide) | exact fr_r (by decide) | exact fr_s (by decide) | (simp only [headSpec]; omega) | omega | (dsimp only; omega))⟩) hS (fun z_148 σ_s_147 H locs rz_148 hw_146 hH hS => ?_)
            obtain ⟨e9, bhw_146, hw_146⟩ := hw_146
            replace e9 := e9.symm
            subst e9
            replace hw_146 : (z_148 = 1 ∧ (0 : Int) = 0 ∧ tK T jt = 33) ∨ (z_148 = 0 ∧ ((0 : Int) ≠ 0 ∨ tK T jt ≠ 33)) := hw_146
            replace hw_146 : z_148 = 0 := by omega
            subst hw_146
            refine lv_if_eq (tgt := 89) hx hb dX11_atom_47 (by decide) (fun _ => ?_) (fun c_149 => absurd (by decide) c_149)
            refine lv_aload_n hx hb dX11_atom_89 rfl (lv_at hl 1 rfl) ?_
            refine lv_bipush (v := I 40) hx hb dX11_atom_90 (by decide) ?_
            obtain ⟨_, hc_150⟩ := hO.cell h_a (by decide) (ci := 11) rfl
            refine th_calli (va_runV (As := [.int (I 40)]) (rest := []) ⟨hx, hb, hml, hown, hts⟩ (n_isMarked l G y b0 σ E hO a h_a 40 (show rng 40 from (show rng 40 from ⟨by decide, by decide⟩)) (by omega) (by omega) Bf hsr T hSt 0 jt hR0 (by omega)) (cwV 1 hts gX11_atom_X11_isMarked rfl rfl rfl (by decide +kernel) ⟨(by first | exact fr_q (by decide) | exact fr_r (by decide) | exact fr_s (by decide) | (simp only [headSpec]; omega) | omega | (dsimp only; omega)), (by first | exact fr_q (by decide) | exact fr_r (by decide) | exact fr_s (by decide) | (simp only [headSpec]; omega) | omega | (dsimp only; omega))⟩) (th_PV hK hH rfl hc_150) rfl rfl hl.1 rfl (lv_room (Nat.le_of_ble_eq_true rfl)) dX11_atom_92 ⟨(by first | exact fr_q (by decide) | exact fr_r (by decide) | exact fr_s (by decide) | (simp only [headSpec]; omega) | omega | (dsimp only; omega)), (by first | exact fr_q (by decide) | exact fr_r (by decide) | exact fr_s (by decide) | (simp only [headSpec]; omega) | omega | (dsimp only; omega))⟩) hS (fun z_153 σ_s_152 H locs rz_153 hw_151 hH hS => ?_)
            obtain ⟨e9, bhw_151, hw_151⟩ := hw_151
            replace e9 := e9.symm
            subst e9
            replace hw_151 : (z_153 = 1 ∧ (0 : Int) = 0 ∧ tK T jt = 40) ∨ (z_153 = 0 ∧ ((0 : Int) ≠ 0 ∨ tK T jt ≠ 40)) := hw_151
            replace hw_151 : z_153 = 1 := by omega
            subst hw_151
            refine lv_if_eq (tgt := 135) hx hb dX11_atom_95 (by decide) (fun c_154 => absurd c_154 (by decide)) (fun _ => ?_)
            refine lv_aload_n hx hb dX11_atom_98 rfl (lv_at hl 1 rfl) ?_
            refine lv_dup hx hb dX11_atom_99 rfl ?_
            refine ok.getIc hO h_a (by decide) k13_28 ea280 (fun _ _ he hv kk => th_get (ci := 11) (C := RX11) (T := TX11) (N := 66) hx hb hts inX11 hown hK hH he rfl 28 (by decide) fl0 hv dX11_atom_100 kk) ?_
            refine lv_iconst (v := I 1) hx hb dX11_atom_103 (by decide) ?_
            refine lv_iadd hx hb dX11_atom_104 ?_
            refine th_addo (fun z_155 rz_155 hz_155 => ?_)
            refine ok.putJ hO h_a k13_28 rz_155 (by omega) (by omega) (fun _ he hl9 kk => th_put (ci := 11) (v := .int (I z_155)) (ty := .int) (C := RX11) (T := TX11) (N := 66) hx hb hts inX11 tyX11 tyX11_ok nmX11 hown hK hH hS h00 he rfl 28 (by decide) fl0 rfl (by decide +kernel) rfl rfl hl9 dX11_atom_105 kk) (fun σ_s_156 H locs hO hF9 hM9 hg9 ha9 hH hS => ?_)
            replace hM := hM.tu hM9 (by decide)
            replace hF := hF.tu hF9 (by decide)
            have e_157 : aF σ_s_156 (ad E a 1) = f1 := (hM9.a (by decide) (by decide)).trans ef1
            have e_158 : gI σ_s_156 a 11 = a110 := (hM9.i (by decide)).trans ea110
            have e_159 : gI σ_s_156 a 13 = a130 := (hM9.i (by decide)).trans ea130
            have e_160 : gI σ_s_156 a 14 = a140 := (hM9.i (by decide)).trans ea140
            have e_161 : gI σ_s_156 a 17 = a170 := (hM9.i (by decide)).trans ea170
            have e_162 : gI σ_s_156 a 19 = 0 := (hM9.i (by decide)).trans e_2
            have e_163 : gI σ_s_156 a 27 = a270 := (hM9.i (by decide)).trans ea270
            have e_164 : gI σ_s_156 a 30 = (-1) := (hM9.i (by decide)).trans e_5
            have e_165 : gI σ_s_156 a 25 = 0 := (hM9.i (by decide)).trans e_4
            replace hsr := hsr.mv hM9 (by decide) (by decide) (by decide) (by decide) (by decide)
            replace hV0 := hid.mk hV0
            have hR_166 : RSt σ_s_156 a T 0 jt := RSt.mv hM9 (by decide) (by decide) (by decide) (by decide) (by decide) (by decide) (by decide) hR0
            have hVhR_166 := hR_166.1
            have e_167 := hg9
            refine lv_aload_n hx hb dX11_atom_108 rfl (lv_at hl 1 rfl) ?_
            obtain ⟨_, hc_168⟩ := hO.cell h_a (by decide) (ci := 11) rfl
            refine th_callv (va_runV (As := []) (rest := []) ⟨hx, hb, hml, hown, hts⟩ (n_pass l G y b0 σ_s_156 E hO a h_a Bf hsr T hSt 0 jt hR_166 (by omega) (by omega)) (cwV 0 hts gX11_atom_X11_pass rfl rfl rfl (by decide +kernel) ⟨(by first | exact fr_q (by decide) | exact fr_r (by decide) | exact fr_s (by decide) | (simp only [headSpec]; omega) | omega | (dsimp only; omega)), (by first | exact fr_q (by decide) | exact fr_r (by decide) | exact fr_s (by decide) | (simp only [headSpec]; omega) | omega | (dsimp only; omega))⟩) (th_PV hK hH rfl hc_168) rfl rfl hl.1 rfl (lv_room (Nat.le_of_ble_eq_true rfl)) dX11_atom_109 ⟨(by first | exact fr_q (by decide) | exact fr_r (by decide) | exact fr_s (by decide) | (simp only [headSpec]; omega) | omega | (dsimp only; omega)), (by first | exact fr_q (by decide) | exact fr_r (by decide) | exact fr_s (by decide) | (simp only [headSpec]; omega) | omega | (dsimp only; omega))⟩) hS (fun σ_s_170 H locs hw_169 hH hS => ?_)
            obtain ⟨hO9, hF9, hM9, hw_169⟩ := hw_169
            replace hM := hM.tu hM9 (by decide)
            replace hF := hF.tu hF9 (by decide)
            have e_171 : aF σ_s_170 (ad E a 1) = f1 := (hM9.a (by decide) (by decide)).trans e_157
            have e_172 : gI σ_s_170 a 11 = a110 := (hM9.i (by decide)).trans e_158
            have e_173 : gI σ_s_170 a 19 = 0 := (hM9.i (by decide)).trans e_162
            have e_174 : gI σ_s_170 a 27 = a270 := (hM9.i (by decide)).trans e_163
            have e_175 : gI σ_s_170 a 30 = (-1) := (hM9.i (by decide)).trans e_164
            have e_176 : gI σ_s_170 a 25 = 0 := (hM9.i (by decide)).trans e_165
            have e_177 : gI σ_s_170 a 28 = z_155 := (hM9.i (by decide)).trans e_167
            replace hsr := hsr.mv hM9 (by decide) (by decide) (by decide) (by decide) (by decide)
            replace hO := hO9
            replace hw_169 : ((gI σ_s_156 a 13 ≤ gI σ_s_170 a 13 ∧ gI σ_s_170 a 13 ≤ gI σ_s_156 a 11 ∧ 0 ≤ gI σ_s_170 a 17 ∧ gI σ_s_170 a 17 ≤ gI σ_s_170 a 13) ∧ pgo (gI σ_s_170 a 19) (gI σ_s_170 a 14) (gI σ_s_156 a 13) (gI σ_s_170 a 13) ∧ gI σ_s_170 a 19 = gI σ_s_156 a 19) ∧ ∃ c1 j1, RSt σ_s_170 a T c1 j1 ∧ (c1 = 0 ∧ ((0 : Int) ≠ 0 → j1 = jt) ∧ ((0 : Int) = 0 → j1 = jt + 1)) := hw_169
            replace hVhR_166 := hid.mk hVhR_166
            have hn_178 := hw_169.2
            replace hw_169 := hw_169.1
            obtain ⟨cc_179, jj_180, hR_181, hn_178⟩ := hn_178
            have hVhR_181 := hR_181.1
            have h0_182 : cc_179 = 0 := by omega
            subst h0_182
            try simp only [ne_eq, not_true_eq_false, not_false_eq_true, false_implies, true_implies, true_and, and_true, eq_self, false_or, or_false, false_and, and_false] at hVhR_181
            have e_183 : gI σ_s_170 a 19 = 0 := by omega
            have hj_184 : jt + 1 = jj_180 := by omega
            subst hj_184
            have hG_185 := hG_3.open_ hs_141 (by omega)
            refine lv_aload_n hx hb dX11_atom_112 rfl (lv_at hl 1 rfl) ?_
            obtain ⟨_, hc_186⟩ := hO.cell h_a (by decide) (ci := 11) rfl
            refine th_calli (va_runV (As := []) (rest := []) ⟨hx, hb, hml, hown, hts⟩ (n_cond n ih l G y b0 σ_s_170 E hO a h_a f1 e_171 Bf hsr T hSt 0 (jt + 1) hR_181 (by omega) (by omega) (by omega) (by omega) (by omega) (by omega)) (cwV 0 hts gX11_atom_X11_cond rfl rfl rfl (by decide +kernel) ⟨(by first | exact fr_q (by decide) | exact fr_r (by decide) | exact fr_s (by decide) | (simp only [headSpec]; omega) | omega | (dsimp only; omega)), (by first | exact fr_q (by decide) | exact fr_r (by decide) | exact fr_s (by decide) | (simp only [headSpec]; omega) | omega | (dsimp only; omega))⟩) (th_PV hK hH rfl hc_186) rfl rfl hl.1 rfl (lv_room (Nat.le_of_ble_eq_true rfl)) dX11_atom_113 ⟨(by first | exact fr_q (by decide) | exact fr_r (by decide) | exact fr_s (by decide) | (simp only [headSpec]; omega) | omega | (dsimp only; omega)), (by first | exact fr_q (by decide) | exact fr_r (by decide) | exact fr_s (by decide) | (simp only [headSpec]; omega) | omega | (dsimp only; omega))⟩) hS (fun z_189 σ_s_188 H locs rz_189 hw_187 hH hS => ?_)
            obtain ⟨hO9, hF9, hM9, bhw_187, hw_187⟩ := hw_187
            replace hM := hM.tu hM9 (by decide)
            replace hF := hF.tu hF9 (by decide)
            have e_190 : aF σ_s_188 (ad E a 1) = f1 := (hM9.a (by decide) (by decide)).trans e_171
            have e_191 : gI σ_s_188 a 11 = a110 := (hM9.i (by decide)).trans e_172
            have e_192 : gI σ_s_188 a 30 = (-1) := (hM9.i (by decide)).trans e_175
            have e_193 : gI σ_s_188 a 25 = 0 := (hM9.i (by decide)).trans e_176
            replace hsr := hsr.mv hM9 (by decide) (by decide) (by decide) (by decide) (by decide)
            replace hO := hO9
            replace hw_187 : ((gI σ_s_170 a 13 ≤ gI σ_s_188 a 13 ∧ gI σ_s_188 a 13 ≤ gI σ_s_170 a 11 ∧ 0 ≤ gI σ_s_188 a 17 ∧ gI σ_s_188 a 17 ≤ gI σ_s_188 a 13) ∧ gI σ_s_188 a 28 = gI σ_s_170 a 28) ∧ ∃ c1 j1, RSt σ_s_188 a T c1 j1 ∧ ((0 : Int) ≠ 0 → c1 = 0 ∧ j1 = (jt + 1)) ∧ ((0 : Int) = 0 → (jt + 1) ≤ j1 ∧ GS T [(2, gI σ_s_170 a 28)] (jt + 1) (gI σ_s_170 a 27) [] c1 j1 (gI σ_s_188 a 27)) ∧ (c1 = 0 → 0 ≤ gI σ_s_188 a 27 ∧ gI σ_s_188 a 27 ≤ 12) := hw_187
            have hb_194 := hw_169.1
            replace hw_169 := hid.mk hw_169
            replace hn_178 := hid.mk hn_178
            replace hVhR_181 := hid.mk hVhR_181
            have hn_195 := hw_187.2
            replace hw_187 := hw_187.1
            obtain ⟨cc_196, jj_197, hR_198, hn_195⟩ := hn_195
            have hVhR_198 := hR_198.1
            have hG_199 := hG_185.call (c2 := cc_196) (j2 := jj_197) (t2 := gI σ_s_188 a 27) (fun _ => GS.cg1 (hn_195.2.1 rfl).2 (by omega) rfl (by omega)) (fun h9 => absurd rfl h9)
            have hq_200 := (hn_195.2.1 rfl).1
            have hq_201 := hn_195.2.2
            replace hn_195 := hid.mk hn_195
            refine lv_istore_n (lv' := [(2, .int (I z_189)), (1, .int (I 1)), (0, .ref a)]) hx hb dX11_atom_116 rfl hl (by decide) rfl (fun ls hl => ?_)
            refine lv_aload_n hx hb dX11_atom_117 rfl (lv_at hl 2 rfl) ?_
            refine lv_bipush (v := I 41) hx hb dX11_atom_118 (by decide) ?_
            obtain ⟨z_202, e_203, rz_202, lz_202, uz_202⟩ := hO.gi h_a (by decide) k13_28
            obtain ⟨z_204, e_205, rz_204, lz_204, uz_204⟩ := hO.gi h_a (by decide) k13_27
            obtain ⟨_, hc_206⟩ := hO.cell h_a (by decide) (ci := 11) rfl
            refine th_callv (va_runV (As := [.int (I 41)]) (rest := []) ⟨hx, hb, hml, hown, hts⟩ (n_need l G y b0 σ_s_188 E hO a h_a 41 (show rng 41 from (show rng 41 from ⟨by decide, by decide⟩)) (by omega) (by omega) Bf hsr T hSt cc_196 jj_197 hR_198 (by omega)) (cwV 1 hts gX11_atom_X11_need rfl rfl rfl (by decide +kernel) ⟨(by first | exact fr_q (by decide) | exact fr_r (by decide) | exact fr_s (by decide) | (simp only [headSpec]; omega) | omega | (dsimp only; omega)), (by first | exact fr_q (by decide) | exact fr_r (by decide) | exact fr_s (by decide) | (simp only [headSpec]; omega) | omega | (dsimp only; omega))⟩) (th_PV hK hH rfl hc_206) rfl rfl hl.1 rfl (lv_room (Nat.le_of_ble_eq_true rfl)) dX11_atom_120 ⟨(by first | exact fr_q (by decide) | exact fr_r (by decide) | exact fr_s (by decide) | (simp only [headSpec]; omega) | omega | (dsimp only; omega)), (by first | exact fr_q (by decide) | exact fr_r (by decide) | exact fr_s (by decide) | (simp only [headSpec]; omega) | omega | (dsimp only; omega))⟩) hS (fun σ_s_208 H locs hw_207 hH hS => ?_)
            obtain ⟨hO9, hF9, hM9, hw_207⟩ := hw_207
            replace hM := hM.tu hM9 (by decide)
            replace hF := hF.tu hF9 (by decide)
            have e_209 : aF σ_s_208 (ad E a 1) = f1 := (hM9.a (by decide) (by decide)).trans e_190
            have e_210 : gI σ_s_208 a 11 = a110 := (hM9.i (by decide)).trans e_191
            have e_211 : gI σ_s_208 a 30 = (-1) := (hM9.i (by decide)).trans e_192
            have e_212 : gI σ_s_208 a 25 = 0 := (hM9.i (by decide)).trans e_193
            have e_213 : gI σ_s_208 a 28 = z_202 := (hM9.i (by decide)).trans e_203
            have e_214 : gI σ_s_208 a 27 = z_204 := (hM9.i (by decide)).trans e_205
            replace hsr := hsr.mv hM9 (by decide) (by decide) (by decide) (by decide) (by decide)
            replace hO := hO9
            replace hw_207 : ((gI σ_s_188 a 13 ≤ gI σ_s_208 a 13 ∧ gI σ_s_208 a 13 ≤ gI σ_s_188 a 11 ∧ 0 ≤ gI σ_s_208 a 17 ∧ gI σ_s_208 a 17 ≤ gI σ_s_208 a 13) ∧ pgo (gI σ_s_208 a 19) (gI σ_s_208 a 14) (gI σ_s_188 a 13) (gI σ_s_208 a 13) ∧ bdo (gI σ_s_188 a 19) (gI σ_s_208 a 19)) ∧ ∃ c1 j1, RSt σ_s_208 a T c1 j1 ∧ ((cc_196 ≠ 0 → c1 = cc_196 ∧ j1 = jj_197) ∧ (cc_196 = 0 → (tK T jj_197 = 41 ∧ c1 = 0 ∧ j1 = jj_197 + 1) ∨ (tK T jj_197 ≠ 41 ∧ c1 = 1 ∧ j1 = jj_197))) := hw_207
            have hb_215 := hw_187.1
            have hb_216 := hw_187.2
            replace hw_187 := hid.mk hw_187
            replace hVhR_198 := hid.mk hVhR_198
            have hn_217 := hw_207.2
            replace hw_207 := hw_207.1
            obtain ⟨cc_218, jj_219, hR_220, hn_217⟩ := hn_217
            have hVhR_220 := hR_220.1
            have hG_221 := hG_199.need (c2 := cc_218) (j2 := jj_219) (fun h9 => by omega) (fun h9 => by omega)
            refine lv_aload_n hx hb dX11_atom_123 rfl (lv_at hl 2 rfl) ?_
            refine lv_dup hx hb dX11_atom_124 rfl ?_
            refine ok.getIc hO h_a (by decide) k13_28 e_213 (fun _ _ he hv kk => th_get (ci := 11) (C := RX11) (T := TX11) (N := 66) hx hb hts inX11 hown hK hH he rfl 28 (by decide) fl0 hv dX11_atom_125 kk) ?_
            refine lv_iconst (v := I 1) hx hb dX11_atom_128 (by decide) ?_
            refine lv_isub hx hb dX11_atom_129 ?_
            refine th_subo (fun z_222 rz_222 hz_222 => ?_)
            obtain ⟨z_223, e_224, rz_223, lz_223, uz_223⟩ := hO.gi h_a (by decide) k13_13
            obtain ⟨z_225, e_226, rz_225, lz_225, uz_225⟩ := hO.gi h_a (by decide) k13_14
            obtain ⟨z_227, e_228, rz_227, lz_227, uz_227⟩ := hO.gi h_a (by decide) k13_17
            obtain ⟨z_229, e_230, rz_229, lz_229, uz_229⟩ := hO.gi h_a (by decide) k13_19
            refine ok.putJ hO h_a k13_28 rz_222 (by omega) (by omega) (fun _ he hl9 kk => th_put (ci := 11) (v := .int (I z_222)) (ty := .int) (C := RX11) (T := TX11) (N := 66) hx hb hts inX11 tyX11 tyX11_ok nmX11 hown hK hH hS h00 he rfl 28 (by decide) fl0 rfl (by decide +kernel) rfl rfl hl9 dX11_atom_130 kk) (fun σ_s_231 H locs hO hF9 hM9 hg9 ha9 hH hS => ?_)
            replace hM := hM.tu hM9 (by decide)
            replace hF := hF.tu hF9 (by decide)
            have e_232 : aF σ_s_231 (ad E a 1) = f1 := (hM9.a (by decide) (by decide)).trans e_209
            have e_233 : gI σ_s_231 a 11 = a110 := (hM9.i (by decide)).trans e_210
            have e_234 : gI σ_s_231 a 30 = (-1) := (hM9.i (by decide)).trans e_211
            have e_235 : gI σ_s_231 a 25 = 0 := (hM9.i (by decide)).trans e_212
            have e_236 : gI σ_s_231 a 27 = z_204 := (hM9.i (by decide)).trans e_214
            have e_237 : gI σ_s_231 a 13 = z_223 := (hM9.i (by decide)).trans e_224
            have e_238 : gI σ_s_231 a 14 = z_225 := (hM9.i (by decide)).trans e_226
            have e_239 : gI σ_s_231 a 17 = z_227 := (hM9.i (by decide)).trans e_228
            have e_240 : gI σ_s_231 a 19 = z_229 := (hM9.i (by decide)).trans e_230
            replace hsr := hsr.mv hM9 (by decide) (by decide) (by decide) (by decide) (by decide)
            replace hVhR_220 := hid.mk hVhR_220
            have hR_241 : RSt σ_s_231 a T cc_218 jj_219 := RSt.mv hM9 (by decide) (by decide) (by decide) (by decide) (by decide) (by decide) (by decide) hR_220
            have hVhR_241 := hR_241.1
            have e_242 := hg9
            refine lv_iload_n hx hb dX11_atom_133 rfl (lv_at hl 0 rfl) ?_
            exact th_zret hx hb hr hlocks hH hS (z := z_189) (by omega) ⟨hO, hF, hM, ⟨by omega, by omega⟩, ⟨⟨by omega, by omega⟩, cc_218, jj_219, hR_241, (fun h9 => absurd rfl h9), fun _ => ⟨by omega, hG_221.ec rfl rfl (fun _ => by omega)⟩, by omega⟩⟩ dX11_atom_134
          · replace c_144 := (I_eq (a := a280) (b := 5) ra280 (show rng 5 from ⟨by decide, by decide⟩)).mp c_144
            refine lv_aload_n hx hb dX11_atom_36 rfl (lv_at hl 1 rfl) ?_
            refine lv_iconst (v := I 2) hx hb dX11_atom_37 (by decide) ?_
            obtain ⟨_, hc_243⟩ := hO.cell h_a (by decide) (ci := 11) rfl
            refine th_callv (va_runV (As := [.int (I 2)]) (rest := []) ⟨hx, hb, hml, hown, hts⟩ (n_wrong l G y b0 σ E hO a h_a 2 (show rng 2 from (show rng 2 from ⟨by decide, by decide⟩)) (by omega) (by omega) Bf hsr T hSt 0 jt hR0) (cwV 1 hts gX11_atom_X11_wrong rfl rfl rfl (by decide +kernel) ⟨(by first | exact fr_q (by decide) | exact fr_r (by decide) | exact fr_s (by decide) | (simp only [headSpec]; omega) | omega | (dsimp only; omega)), (by first | exact fr_q (by decide) | exact fr_r (by decide) | exact fr_s (by decide) | (simp only [headSpec]; omega) | omega | (dsimp only; omega))⟩) (th_PV hK hH rfl hc_243) rfl rfl hl.1 rfl (lv_room (Nat.le_of_ble_eq_true rfl)) dX11_atom_38 ⟨(by first | exact fr_q (by decide) | exact fr_r (by decide) | exact fr_s (by decide) | (simp only [headSpec]; omega) | omega | (dsimp only; omega)), (by first | exact fr_q (by decide) | exact fr_r (by decide) | exact fr_s (by decide) | (simp only [headSpec]; omega) | omega | (dsimp only; omega))⟩) hS (fun σ_s_245 H locs hw_244 hH hS => ?_)
            obtain ⟨hO9, hF9, hM9, hw_244⟩ := hw_244
            replace hM := hM.tu hM9 (by decide)
            replace hF := hF.tu hF9 (by decide)
            have e_246 : aF σ_s_245 (ad E a 1) = f1 := (hM9.a (by decide) (by decide)).trans ef1
            have e_247 : gI σ_s_245 a 11 = a110 := (hM9.i (by decide)).trans ea110
            have e_248 : gI σ_s_245 a 13 = a130 := (hM9.i (by decide)).trans ea130
            have e_249 : gI σ_s_245 a 14 = a140 := (hM9.i (by decide)).trans ea140
            have e_250 : gI σ_s_245 a 17 = a170 := (hM9.i (by decide)).trans ea170
            have e_251 : gI σ_s_245 a 27 = a270 := (hM9.i (by decide)).trans ea270
            have e_252 : gI σ_s_245 a 28 = a280 := (hM9.i (by decide)).trans ea280
            have e_253 : gI σ_s_245 a 30 = (-1) := (hM9.i (by decide)).trans e_5
            have e_254 : gI σ_s_245 a 25 = 0 := (hM9.i (by decide)).trans e_4
            replace hsr := hsr.mv hM9 (by decide) (by decide) (by decide) (by decide) (by decide)
            replace hO := hO9
            replace hw_244 : (¬ gI σ_s_245 a 19 = 0 ∧ (gI σ a 19 = 0 ∨ gI σ_s_245 a 19 = gI σ a 19)) ∧ ∃ c1 j1, RSt σ_s_245 a T c1 j1 ∧ (j1 = jt ∧ ((0 : Int) = 0 → c1 = 2) ∧ ((0 : Int) ≠ 0 → c1 = 0)) := hw_244
            replace hV0 := hid.mk hV0
            have hn_255 := hw_244.2
            replace hw_244 := hw_244.1
            obtain ⟨cc_256, jj_257, hR_258, hn_255⟩ := hn_255
            have hVhR_258 := hR_258.1
            have hj9 := hn_255.1.symm
            subst hj9
            have h0_259 : ¬ cc_256 = 0 := by omega
            try simp only [h0_259, ne_eq, not_true_eq_false, not_false_eq_true, false_implies, true_implies, true_and, and_true, eq_self, false_or, or_false, false_and, and_false] at hVhR_258
            try simp only [h0_259, ne_eq, not_true_eq_false, not_false_eq_true, false_implies, true_implies, true_and, and_true, eq_self, false_or, or_false, false_and, and_false] at hn_255
            have hG_260 := hG_3.deep (c2 := cc_256) (j2 := jt) (l2 := []) (t2 := 0) (by omega) (by omega) (by omega) rfl
            refine lv_aload_n hx hb dX11_atom_41 rfl (lv_at hl 1 rfl) ?_
            refine lv_bipush (v := I 33) hx hb dX11_atom_42 (by decide) ?_
            obtain ⟨_, hc_261⟩ := hO.cell h_a (by decide) (ci := 11) rfl
            refine th_calli (va_runV (As := [.int (I 33)]) (rest := []) ⟨hx, hb, hml, hown, hts⟩ (n_isMarked l G y b0 σ_s_245 E hO a h_a 33 (show rng 33 from (show rng 33 from ⟨by decide, by decide⟩)) (by omega) (by omega) Bf hsr T hSt cc_256 jt hR_258 (by omega)) (cwV 1 hts gX11_atom_X11_isMarked rfl rfl rfl (by decide +kernel) ⟨(by first | exact fr_q (by decide) | exact fr_r (by decide) | exact fr_s (by decide) | (simp only [headSpec]; omega) | omega | (dsimp only; omega)), (by first | exact fr_q (by decide) | exact fr_r (by decide) | exact fr_s (by decide) | (simp only [headSpec]; omega) | omega | (dsimp only; omega))⟩) (th_PV hK hH rfl hc_261) rfl rfl hl.1 rfl (lv_room (Nat.le_of_ble_eq_true rfl)) dX11_atom_44 ⟨(by first | exact fr_q (by decide) | exact fr_r (by decide) | exact fr_s (by decide) | (simp only [headSpec]; omega) | omega | (dsimp only; omega)), (by first | exact fr_q (by decide) | exact fr_r (by decide) | exact fr_s (by decide) | (simp only [headSpec]; omega) | omega | (dsimp only; omega))⟩) hS (fun z_264 σ_s_263 H locs rz_264 hw_262 hH hS => ?_)
            obtain ⟨e9, bhw_262, hw_262⟩ := hw_262
            replace e9 := e9.symm
            subst e9
            replace hw_262 : (z_264 = 1 ∧ cc_256 = 0 ∧ tK T jt = 33) ∨ (z_264 = 0 ∧ (cc_256 ≠ 0 ∨ tK T jt ≠ 33)) := hw_262
            replace hw_244 := hid.mk hw_244
            replace hn_255 := hid.mk hn_255
            try simp only [h0_259, ne_eq, not_true_eq_false, not_false_eq_true, false_implies, true_implies, true_and, and_true, eq_self, false_or, or_false, false_and, and_false] at hw_262
            replace hw_262 : z_264 = 0 := by omega
            subst hw_262
            refine lv_if_eq (tgt := 89) hx hb dX11_atom_47 (by decide) (fun _ => ?_) (fun c_265 => absurd (by decide) c_265)
            refine lv_aload_n hx hb dX11_atom_89 rfl (lv_at hl 1 rfl) ?_
            refine lv_bipush (v := I 40) hx hb dX11_atom_90 (by decide) ?_
            obtain ⟨_, hc_266⟩ := hO.cell h_a (by decide) (ci := 11) rfl
            refine th_calli (va_runV (As := [.int (I 40)]) (rest := []) ⟨hx, hb, hml, hown, hts⟩ (n_isMarked l G y b0 σ_s_245 E hO a h_a 40 (show rng 40 from (show rng 40 from ⟨by decide, by decide⟩)) (by omega) (by omega) Bf hsr T hSt cc_256 jt hR_258 (by omega)) (cwV 1 hts gX11_atom_X11_isMarked rfl rfl rfl (by decide +kernel) ⟨(by first | exact fr_q (by decide) | exact fr_r (by decide) | exact fr_s (by decide) | (simp only [headSpec]; omega) | omega | (dsimp only; omega)), (by first | exact fr_q (by decide) | exact fr_r (by decide) | exact fr_s (by decide) | (simp only [headSpec]; omega) | omega | (dsimp only; omega))⟩) (th_PV hK hH rfl hc_266) rfl rfl hl.1 rfl (lv_room (Nat.le_of_ble_eq_true rfl)) dX11_atom_92 ⟨(by first | exact fr_q (by decide) | exact fr_r (by decide) | exact fr_s (by decide) | (simp only [headSpec]; omega) | omega | (dsimp only; omega)), (by first | exact fr_q (by decide) | exact fr_r (by decide) | exact fr_s (by decide) | (simp only [headSpec]; omega) | omega | (dsimp only; omega))⟩) hS (fun z_269 σ_s_268 H locs rz_269 hw_267 hH hS => ?_)
            obtain ⟨e9, bhw_267, hw_267⟩ := hw_267
            replace e9 := e9.symm
            subst e9
            replace hw_267 : (z_269 = 1 ∧ cc_256 = 0 ∧ tK T jt = 40) ∨ (z_269 = 0 ∧ (cc_256 ≠ 0 ∨ tK T jt ≠ 40)) := hw_267
            try simp only [h0_259, ne_eq, not_true_eq_false, not_false_eq_true, false_implies, true_implies, true_and, and_true, eq_self, false_or, or_false, false_and, and_false] at hw_267
            replace hw_267 : z_269 = 0 := by omega
            subst hw_267
            refine lv_if_eq (tgt := 135) hx hb dX11_atom_95 (by decide) (fun _ => ?_) (fun c_270 => absurd (by decide) c_270)
            refine lv_aload_n hx hb dX11_atom_135 rfl (lv_at hl 1 rfl) ?_
            obtain ⟨_, hc_271⟩ := hO.cell h_a (by decide) (ci := 11) rfl
            refine th_calli (va_runV (As := []) (rest := []) ⟨hx, hb, hml, hown, hts⟩ (n_little l G y b0 σ_s_245 E hO a h_a f1 e_246 Bf hsr T hSt cc_256 jt hR_258 (gI σ a 28) (by omega) (by omega) (by omega) (by omega) ((fun h9 => absurd h9 h0_259))) (cwV 0 hts gX11_atom_X11_little rfl rfl rfl (by decide +kernel) ⟨(by first | exact fr_q (by decide) | exact fr_r (by decide) | exact fr_s (by decide) | (simp only [headSpec]; omega) | omega | (dsimp only; omega)), (by first | exact fr_q (by decide) | exact fr_r (by decide) | exact fr_s (by decide) | (simp only [headSpec]; omega) | omega | (dsimp only; omega))⟩) (th_PV hK hH rfl hc_271) rfl rfl hl.1 rfl (lv_room (Nat.le_of_ble_eq_true rfl)) dX11_atom_136 ⟨(by first | exact fr_q (by decide) | exact fr_r (by decide) | exact fr_s (by decide) | (simp only [headSpec]; omega) | omega | (dsimp only; omega)), (by first | exact fr_q (by decide) | exact fr_r (by decide) | exact fr_s (by decide) | (simp only [headSpec]; omega) | omega | (dsimp only; omega))⟩) hS (fun z_274 σ_s_273 H locs rz_274 hw_272 hH hS => ?_)
            obtain ⟨hO9, hF9, hM9, bhw_272, hw_272⟩ := hw_272
            replace hM := hM.tu hM9 (by decide)
            replace hF := hF.tu hF9 (by decide)
            have e_275 : aF σ_s_273 (ad E a 1) = f1 := (hM9.a (by decide) (by decide)).trans e_246
            have e_276 : gI σ_s_273 a 11 = a110 := (hM9.i (by decide)).trans e_247
            have e_277 : gI σ_s_273 a 28 = a280 := (hM9.i (by decide)).trans e_252
            have e_278 : gI σ_s_273 a 30 = (-1) := (hM9.i (by decide)).trans e_253
            have e_279 : gI σ_s_273 a 25 = 0 := (hM9.i (by decide)).trans e_254
            replace hsr := hsr.mv hM9 (by decide) (by decide) (by decide) (by decide) (by decide)
            replace hO := hO9
            replace hw_272 : ((gI σ_s_245 a 13 ≤ gI σ_s_273 a 13 ∧ gI σ_s_273 a 13 ≤ gI σ_s_245 a 11 ∧ 0 ≤ gI σ_s_273 a 17 ∧ gI σ_s_273 a 17 ≤ gI σ_s_273 a 13)) ∧ ∃ c1 j1, RSt σ_s_273 a T c1 j1 ∧ (cc_256 ≠ 0 → c1 = cc_256 ∧ j1 = jt) ∧ (cc_256 = 0 → jt ≤ j1 ∧ GS T [(1, (gI σ a 28))] jt (gI σ_s_245 a 27) [] c1 j1 (gI σ_s_273 a 27)) ∧ (c1 = 0 → 0 ≤ gI σ_s_273 a 27 ∧ gI σ_s_273 a 27 ≤ 12) := hw_272
            replace hVhR_258 := hid.mk hVhR_258
            have hn_280 := hw_272.2
            replace hw_272 := hw_272.1
            obtain ⟨cc_281, jj_282, hR_283, hn_280⟩ := hn_280
            have hVhR_283 := hR_283.1
            have h0_284 : ¬ cc_281 = 0 := by omega
            try simp only [h0_284, ne_eq, not_true_eq_false, not_false_eq_true, false_implies, true_implies, true_and, and_true, eq_self, false_or, or_false, false_and, and_false] at hVhR_283
            have hc_285 : cc_256 = cc_281 := by omega
            subst hc_285
            have hj_286 : jt = jj_282 := by omega
            subst hj_286
            exact th_zret hx hb hr hlocks hH hS (z := z_274) (by omega) ⟨hO, hF, hM, ⟨by omega, by omega⟩, ⟨⟨by omega, by omega⟩, cc_256, jt, hR_283, ⟨(fun h9 => absurd rfl h9), fun _ => ⟨by omega, hG_260.was h0_284⟩, fun h9 => absurd h9 h0_284⟩⟩⟩ dX11_atom_139
        · replace hs_141 := hs_141.resolve_left (fun h9 => h9 rfl)
          subst hw_138
          refine lv_if_eq (tgt := 22) hx hb dX11_atom_15 (by decide) (fun _ => ?_) (fun c_287 => absurd (by decide) c_287)
          refine lv_iconst (v := I 0) hx hb dX11_atom_22 (by decide) ?_
          refine lv_istore_n (lv' := [(1, .int (I 0)), (0, .ref a)]) hx hb dX11_atom_23 rfl hl (by decide) rfl (fun ls hl => ?_)
          refine lv_iload_n hx hb dX11_atom_24 rfl (lv_at hl 0 rfl) ?_
          refine lv_if_eq (tgt := 41) hx hb dX11_atom_25 (by decide) (fun _ => ?_) (fun c_288 => absurd (by decide) c_288)
          refine lv_aload_n hx hb dX11_atom_41 rfl (lv_at hl 1 rfl) ?_
          refine lv_bipush (v := I 33) hx hb dX11_atom_42 (by decide) ?_
          obtain ⟨_, hc_289⟩ := hO.cell h_a (by decide) (ci := 11) rfl
          refine th_calli (va_runV (As := [.int (I 33)]) (rest := []) ⟨hx, hb, hml, hown, hts⟩ (n_isMarked l G y b0 σ E hO a h_a 33 (show rng 33 from (show rng 33 from ⟨by decide, by decide⟩)) (by omega) (by omega) Bf hsr T hSt 0 jt hR0 (by omega)) (cwV 1 hts gX11_atom_X11_isMarked rfl rfl rfl (by decide +kernel) ⟨(by first | exact fr_q (by decide) | exact fr_r (by decide) | exact fr_s (by decide) | (simp only [headSpec]; omega) | omega | (dsimp only; omega)), (by first | exact fr_q (by decide) | exact fr_r (by decide) | exact fr_s (by decide) | (simp only [headSpec]; omega) | omega | (dsimp only; omega))⟩) (th_PV hK hH rfl hc_289) rfl rfl hl.1 rfl (lv_room (Nat.le_of_ble_eq_true rfl)) dX11_atom_44 ⟨(by first | exact fr_q (by decide) | exact fr_r (by decide) | exact fr_s (by decide) | (simp only [headSpec]; omega) | omega | (dsimp only; omega)), (by first | exact fr_q (by decide) | exact fr_r (by decide) | exact fr_s (by decide) | (simp only [headSpec]; omega) | omega | (dsimp only; omega))⟩) hS (fun z_292 σ_s_291 H locs rz_292 hw_290 hH hS => ?_)
          obtain ⟨e9, bhw_290, hw_290⟩ := hw_290
          replace e9 := e9.symm
          subst e9
          replace hw_290 : (z_292 = 1 ∧ (0 : Int) = 0 ∧ tK T jt = 33) ∨ (z_292 = 0 ∧ ((0 : Int) ≠ 0 ∨ tK T jt ≠ 33)) := hw_290
          replace hw_290 : z_292 = 0 := by omega
          subst hw_290
          refine lv_if_eq (tgt := 89) hx hb dX11_atom_47 (by decide) (fun _ => ?_) (fun c_293 => absurd (by decide) c_293)
          refine lv_aload_n hx hb dX11_atom_89 rfl (lv_at hl 1 rfl) ?_
          refine lv_bipush (v := I 40) hx hb dX11_atom_90 (by decide) ?_
          obtain ⟨_, hc_294⟩ := hO.cell h_a (by decide) (ci := 11) rfl
          refine th_calli (va_runV (As := [.int (I 40)]) (rest := []) ⟨hx, hb, hml, hown, hts⟩ (n_isMarked l G y b0 σ E hO a h_a 40 (show rng 40 from (show rng 40 from ⟨by decide, by decide⟩)) (by omega) (by omega) Bf hsr T hSt 0 jt hR0 (by omega)) (cwV 1 hts gX11_atom_X11_isMarked rfl rfl rfl (by decide +kernel) ⟨(by first | exact fr_q (by decide) | exact fr_r (by decide) | exact fr_s (by decide) | (simp only [headSpec]; omega) | omega | (dsimp only; omega)), (by first | exact fr_q (by decide) | exact fr_r (by decide) | exact fr_s (by decide) | (simp only [headSpec]; omega) | omega | (dsimp only; omega))⟩) (th_PV hK hH rfl hc_294) rfl rfl hl.1 rfl (lv_room (Nat.le_of_ble_eq_true rfl)) dX11_atom_92 ⟨(by first | exact fr_q (by decide) | exact fr_r (by decide) | exact fr_s (by decide) | (simp only [headSpec]; omega) | omega | (dsimp only; omega)), (by first | exact fr_q (by decide) | exact fr_r (by decide) | exact fr_s (by decide) | (simp only [headSpec]; omega) | omega | (dsimp only; omega))⟩) hS (fun z_297 σ_s_296 H locs rz_297 hw_295 hH hS => ?_)
          obtain ⟨e9, bhw_295, hw_295⟩ := hw_295
          replace e9 := e9.symm
          subst e9
          replace hw_295 : (z_297 = 1 ∧ (0 : Int) = 0 ∧ tK T jt = 40) ∨ (z_297 = 0 ∧ ((0 : Int) ≠ 0 ∨ tK T jt ≠ 40)) := hw_295
          replace hw_295 : z_297 = 0 := by omega
          subst hw_295
          refine lv_if_eq (tgt := 135) hx hb dX11_atom_95 (by decide) (fun _ => ?_) (fun c_298 => absurd (by decide) c_298)
          refine lv_aload_n hx hb dX11_atom_135 rfl (lv_at hl 1 rfl) ?_
          obtain ⟨_, hc_299⟩ := hO.cell h_a (by decide) (ci := 11) rfl
          refine th_calli (va_runV (As := []) (rest := []) ⟨hx, hb, hml, hown, hts⟩ (n_little l G y b0 σ E hO a h_a f1 ef1 Bf hsr T hSt 0 jt hR0 (gI σ a 28) (by omega) (by omega) (by omega) (by omega) ((fun _ => ⟨hs_10, hs_141⟩))) (cwV 0 hts gX11_atom_X11_little rfl rfl rfl (by decide +kernel) ⟨(by first | exact fr_q (by decide) | exact fr_r (by decide) | exact fr_s (by decide) | (simp only [headSpec]; omega) | omega | (dsimp only; omega)), (by first | exact fr_q (by decide) | exact fr_r (by decide) | exact fr_s (by decide) | (simp only [headSpec]; omega) | omega | (dsimp only; omega))⟩) (th_PV hK hH rfl hc_299) rfl rfl hl.1 rfl (lv_room (Nat.le_of_ble_eq_true rfl)) dX11_atom_136 ⟨(by first | exact fr_q (by decide) | exact fr_r (by decide) | exact fr_s (by decide) | (simp only [headSpec]; omega) | omega | (dsimp only; omega)), (by first | exact fr_q (by decide) | exact fr_r (by decide) | exact fr_s (by decide) | (simp only [headSpec]; omega) | omega | (dsimp only; omega))⟩) hS (fun z_302 σ_s_301 H locs rz_302 hw_300 hH hS => ?_)
          obtain ⟨hO9, hF9, hM9, bhw_300, hw_300⟩ := hw_300
          replace hM := hM.tu hM9 (by decide)
          replace hF := hF.tu hF9 (by decide)
          have e_303 : aF σ_s_301 (ad E a 1) = f1 := (hM9.a (by decide) (by decide)).trans ef1
          have e_304 : gI σ_s_301 a 11 = a110 := (hM9.i (by decide)).trans ea110
          have e_305 : gI σ_s_301 a 28 = a280 := (hM9.i (by decide)).trans ea280
          have e_306 : gI σ_s_301 a 30 = (-1) := (hM9.i (by decide)).trans e_5
          have e_307 : gI σ_s_301 a 25 = 0 := (hM9.i (by decide)).trans e_4
          replace hsr := hsr.mv hM9 (by decide) (by decide) (by decide) (by decide) (by decide)
          replace hO := hO9
          replace hw_300 : ((gI σ a 13 ≤ gI σ_s_301 a 13 ∧ gI σ_s_301 a 13 ≤ gI σ a 11 ∧ 0 ≤ gI σ_s_301 a 17 ∧ gI σ_s_301 a 17 ≤ gI σ_s_301 a 13)) ∧ ∃ c1 j1, RSt σ_s_301 a T c1 j1 ∧ ((0 : Int) ≠ 0 → c1 = 0 ∧ j1 = jt) ∧ ((0 : Int) = 0 → jt ≤ j1 ∧ GS T [(1, (gI σ a 28))] jt (gI σ a 27) [] c1 j1 (gI σ_s_301 a 27)) ∧ (c1 = 0 → 0 ≤ gI σ_s_301 a 27 ∧ gI σ_s_301 a 27 ≤ 12) := hw_300
          replace hV0 := hid.mk hV0
          have hn_308 := hw_300.2
          replace hw_300 := hw_300.1
          obtain ⟨cc_309, jj_310, hR_311, hn_308⟩ := hn_308
          have hVhR_311 := hR_311.1
          have hG_312 := GS.cg1 (T := T) (m := 1) (d := gI σ a 28) (j := jt) (t := gI σ a 27) (hn_308.2.1 rfl).2 (by omega) rfl (by omega)
          have hq_313 := (hn_308.2.1 rfl).1
          have hq_314 := hn_308.2.2
          exact th_zret hx hb hr hlocks hH hS (z := z_302) (by omega) ⟨hO, hF, hM, ⟨by omega, by omega⟩, ⟨⟨by omega, by omega⟩, cc_309, jj_310, hR_311, (fun h9 => absurd rfl h9), fun _ => ⟨by omega, hG_312.ec rfl rfl (fun _ => by omega)⟩, by omega⟩⟩ dX11_atom_139
    · try simp only [h0_1, ne_eq, not_true_eq_false, not_false_eq_true, false_implies, true_implies, true_and, and_true, eq_self, false_or, or_false, false_and, and_false] at hV0
      have e_315 : gI σ a 25 = 0 := by omega
      have e_316 : gI σ a 30 = -1 := by omega
      refine lv_aload_n hx hb dX11_atom_0 rfl (lv_at hl 0 rfl) ?_
      refine lv_bipush (v := I 33) hx hb dX11_atom_1 (by decide) ?_
      obtain ⟨_, hc_317⟩ := hO.cell h_a (by decide) (ci := 11) rfl
      refine th_calli (va_runV (As := [.int (I 33)]) (rest := []) ⟨hx, hb, hml, hown, hts⟩ (n_isMarked l G y b0 σ E hO a h_a 33 (show rng 33 from (show rng 33 from ⟨by decide, by decide⟩)) (by omega) (by omega) Bf hsr T hSt fc jt hR0 (by omega)) (cwV 1 hts gX11_atom_X11_isMarked rfl rfl rfl (by decide +kernel) ⟨(by first | exact fr_q (by decide) | exact fr_r (by decide) | exact fr_s (by decide) | (simp only [headSpec]; omega) | omega | (dsimp only; omega)), (by first | exact fr_q (by decide) | exact fr_r (by decide) | exact fr_s (by decide) | (simp only [headSpec]; omega) | omega | (dsimp only; omega))⟩) (th_PV hK hH rfl hc_317) rfl rfl hl.1 rfl (lv_room (Nat.le_of_ble_eq_true rfl)) dX11_atom_3 ⟨(by first | exact fr_q (by decide) | exact fr_r (by decide) | exact fr_s (by decide) | (simp only [headSpec]; omega) | omega | (dsimp only; omega)), (by first | exact fr_q (by decide) | exact fr_r (by decide) | exact fr_s (by decide) | (simp only [headSpec]; omega) | omega | (dsimp only; omega))⟩) hS (fun z_320 σ_s_319 H locs rz_320 hw_318 hH hS => ?_)
      obtain ⟨e9, bhw_318, hw_318⟩ := hw_318
      replace e9 := e9.symm
      subst e9
      replace hw_318 : (z_320 = 1 ∧ fc = 0 ∧ tK T jt = 33) ∨ (z_320 = 0 ∧ (fc ≠ 0 ∨ tK T jt ≠ 33)) := hw_318
      try simp only [h0_1, ne_eq, not_true_eq_false, not_false_eq_true, false_implies, true_implies, true_and, and_true, eq_self, false_or, or_false, false_and, and_false] at hw_318
      replace hw_318 : z_320 = 0 := by omega
      subst hw_318
      refine lv_if_ne (tgt := 18) hx hb dX11_atom_6 (by decide) (fun c_321 => absurd (by decide) c_321) (fun _ => ?_)
      refine lv_aload_n hx hb dX11_atom_9 rfl (lv_at hl 0 rfl) ?_
      refine lv_bipush (v := I 40) hx hb dX11_atom_10 (by decide) ?_
      obtain ⟨_, hc_322⟩ := hO.cell h_a (by decide) (ci := 11) rfl
      refine th_calli (va_runV (As := [.int (I 40)]) (rest := []) ⟨hx, hb, hml, hown, hts⟩ (n_isMarked l G y b0 σ E hO a h_a 40 (show rng 40 from (show rng 40 from ⟨by decide, by decide⟩)) (by omega) (by omega) Bf hsr T hSt fc jt hR0 (by omega)) (cwV 1 hts gX11_atom_X11_isMarked rfl rfl rfl (by decide +kernel) ⟨(by first | exact fr_q (by decide) | exact fr_r (by decide) | exact fr_s (by decide) | (simp only [headSpec]; omega) | omega | (dsimp only; omega)), (by first | exact fr_q (by decide) | exact fr_r (by decide) | exact fr_s (by decide) | (simp only [headSpec]; omega) | omega | (dsimp only; omega))⟩) (th_PV hK hH rfl hc_322) rfl rfl hl.1 rfl (lv_room (Nat.le_of_ble_eq_true rfl)) dX11_atom_12 ⟨(by first | exact fr_q (by decide) | exact fr_r (by decide) | exact fr_s (by decide) | (simp only [headSpec]; omega) | omega | (dsimp only; omega)), (by first | exact fr_q (by decide) | exact fr_r (by decide) | exact fr_s (by decide) | (simp only [headSpec]; omega) | omega | (dsimp only; omega))⟩) hS (fun z_325 σ_s_324 H locs rz_325 hw_323 hH hS => ?_)
      obtain ⟨e9, bhw_323, hw_323⟩ := hw_323
      replace e9 := e9.symm
      subst e9
      replace hw_323 : (z_325 = 1 ∧ fc = 0 ∧ tK T jt = 40) ∨ (z_325 = 0 ∧ (fc ≠ 0 ∨ tK T jt ≠ 40)) := hw_323
      try simp only [h0_1, ne_eq, not_true_eq_false, not_false_eq_true, false_implies, true_implies, true_and, and_true, eq_self, false_or, or_false, false_and, and_false] at hw_323
      replace hw_323 : z_325 = 0 := by omega
      subst hw_323
      refine lv_if_eq (tgt := 22) hx hb dX11_atom_15 (by decide) (fun _ => ?_) (fun c_326 => absurd (by decide) c_326)
      refine lv_iconst (v := I 0) hx hb dX11_atom_22 (by decide) ?_
      refine lv_istore_n (lv' := [(1, .int (I 0)), (0, .ref a)]) hx hb dX11_atom_23 rfl hl (by decide) rfl (fun ls hl => ?_)
      refine lv_iload_n hx hb dX11_atom_24 rfl (lv_at hl 0 rfl) ?_
      refine lv_if_eq (tgt := 41) hx hb dX11_atom_25 (by decide) (fun _ => ?_) (fun c_327 => absurd (by decide) c_327)
      refine lv_aload_n hx hb dX11_atom_41 rfl (lv_at hl 1 rfl) ?_
      refine lv_bipush (v := I 33) hx hb dX11_atom_42 (by decide) ?_
      obtain ⟨_, hc_328⟩ := hO.cell h_a (by decide) (ci := 11) rfl
      refine th_calli (va_runV (As := [.int (I 33)]) (rest := []) ⟨hx, hb, hml, hown, hts⟩ (n_isMarked l G y b0 σ E hO a h_a 33 (show rng 33 from (show rng 33 from ⟨by decide, by decide⟩)) (by omega) (by omega) Bf hsr T hSt fc jt hR0 (by omega)) (cwV 1 hts gX11_atom_X11_isMarked rfl rfl rfl (by decide +kernel) ⟨(by first | exact fr_q (by decide) | exact fr_r (by decide) | exact fr_s (by decide) | (simp only [headSpec]; omega) | omega | (dsimp only; omega)), (by first | exact fr_q (by decide) | exact fr_r (by decide) | exact fr_s (by decide) | (simp only [headSpec]; omega) | omega | (dsimp only; omega))⟩) (th_PV hK hH rfl hc_328) rfl rfl hl.1 rfl (lv_room (Nat.le_of_ble_eq_true rfl)) dX11_atom_44 ⟨(by first | exact fr_q (by decide) | exact fr_r (by decide) | exact fr_s (by decide) | (simp only [headSpec]; omega) | omega | (dsimp only; omega)), (by first | exact fr_q (by decide) | exact fr_r (by decide) | exact fr_s (by decide) | (simp only [headSpec]; omega) | omega | (dsimp only; omega))⟩) hS (fun z_331 σ_s_330 H locs rz_331 hw_329 hH hS => ?_)
      obtain ⟨e9, bhw_329, hw_329⟩ := hw_329
      replace e9 := e9.symm
      subst e9
      replace hw_329 : (z_331 = 1 ∧ fc = 0 ∧ tK T jt = 33) ∨ (z_331 = 0 ∧ (fc ≠ 0 ∨ tK T jt ≠ 33)) := hw_329
      try simp only [h0_1, ne_eq, not_true_eq_false, not_false_eq_true, false_implies, true_implies, true_and, and_true, eq_self, false_or, or_false, false_and, and_false] at hw_329
      replace hw_329 : z_331 = 0 := by omega
      subst hw_329
      refine lv_if_eq (tgt := 89) hx hb dX11_atom_47 (by decide) (fun _ => ?_) (fun c_332 => absurd (by decide) c_332)
      refine lv_aload_n hx hb dX11_atom_89 rfl (lv_at hl 1 rfl) ?_
      refine lv_bipush (v := I 40) hx hb dX11_atom_90 (by decide) ?_
      obtain ⟨_, hc_333⟩ := hO.cell h_a (by decide) (ci := 11) rfl
      refine th_calli (va_runV (As := [.int (I 40)]) (rest := []) ⟨hx, hb, hml, hown, hts⟩ (n_isMarked l G y b0 σ E hO a h_a 40 (show rng 40 from (show rng 40 from ⟨by decide, by decide⟩)) (by omega) (by omega) Bf hsr T hSt fc jt hR0 (by omega)) (cwV 1 hts gX11_atom_X11_isMarked rfl rfl rfl (by decide +kernel) ⟨(by first | exact fr_q (by decide) | exact fr_r (by decide) | exact fr_s (by decide) | (simp only [headSpec]; omega) | omega | (dsimp only; omega)), (by first | exact fr_q (by decide) | exact fr_r (by decide) | exact fr_s (by decide) | (simp only [headSpec]; omega) | omega | (dsimp only; omega))⟩) (th_PV hK hH rfl hc_333) rfl rfl hl.1 rfl (lv_room (Nat.le_of_ble_eq_true rfl)) dX11_atom_92 ⟨(by first | exact fr_q (by decide) | exact fr_r (by decide) | exact fr_s (by decide) | (simp only [headSpec]; omega) | omega | (dsimp only; omega)), (by first | exact fr_q (by decide) | exact fr_r (by decide) | exact fr_s (by decide) | (simp only [headSpec]; omega) | omega | (dsimp only; omega))⟩) hS (fun z_336 σ_s_335 H locs rz_336 hw_334 hH hS => ?_)
      obtain ⟨e9, bhw_334, hw_334⟩ := hw_334
      replace e9 := e9.symm
      subst e9
      replace hw_334 : (z_336 = 1 ∧ fc = 0 ∧ tK T jt = 40) ∨ (z_336 = 0 ∧ (fc ≠ 0 ∨ tK T jt ≠ 40)) := hw_334
      try simp only [h0_1, ne_eq, not_true_eq_false, not_false_eq_true, false_implies, true_implies, true_and, and_true, eq_self, false_or, or_false, false_and, and_false] at hw_334
      replace hw_334 : z_336 = 0 := by omega
      subst hw_334
      refine lv_if_eq (tgt := 135) hx hb dX11_atom_95 (by decide) (fun _ => ?_) (fun c_337 => absurd (by decide) c_337)
      refine lv_aload_n hx hb dX11_atom_135 rfl (lv_at hl 1 rfl) ?_
      obtain ⟨_, hc_338⟩ := hO.cell h_a (by decide) (ci := 11) rfl
      refine th_calli (va_runV (As := []) (rest := []) ⟨hx, hb, hml, hown, hts⟩ (n_little l G y b0 σ E hO a h_a f1 ef1 Bf hsr T hSt fc jt hR0 (gI σ a 28) (by omega) (by omega) (by omega) (by omega) ((fun h9 => absurd h9 h0_1))) (cwV 0 hts gX11_atom_X11_little rfl rfl rfl (by decide +kernel) ⟨(by first | exact fr_q (by decide) | exact fr_r (by decide) | exact fr_s (by decide) | (simp only [headSpec]; omega) | omega | (dsimp only; omega)), (by first | exact fr_q (by decide) | exact fr_r (by decide) | exact fr_s (by decide) | (simp only [headSpec]; omega) | omega | (dsimp only; omega))⟩) (th_PV hK hH rfl hc_338) rfl rfl hl.1 rfl (lv_room (Nat.le_of_ble_eq_true rfl)) dX11_atom_136 ⟨(by first | exact fr_q (by decide) | exact fr_r (by decide) | exact fr_s (by decide) | (simp only [headSpec]; omega) | omega | (dsimp only; omega)), (by first | exact fr_q (by decide) | exact fr_r (by decide) | exact fr_s (by decide) | (simp only [headSpec]; omega) | omega | (dsimp only; omega))⟩) hS (fun z_341 σ_s_340 H locs rz_341 hw_339 hH hS => ?_)
      obtain ⟨hO9, hF9, hM9, bhw_339, hw_339⟩ := hw_339
      replace hM := hM.tu hM9 (by decide)
      replace hF := hF.tu hF9 (by decide)
      have e_342 : aF σ_s_340 (ad E a 1) = f1 := (hM9.a (by decide) (by decide)).trans ef1
      have e_343 : gI σ_s_340 a 11 = a110 := (hM9.i (by decide)).trans ea110
      have e_344 : gI σ_s_340 a 28 = a280 := (hM9.i (by decide)).trans ea280
      have e_345 : gI σ_s_340 a 30 = (-1) := (hM9.i (by decide)).trans e_316
      have e_346 : gI σ_s_340 a 25 = 0 := (hM9.i (by decide)).trans e_315
      replace hsr := hsr.mv hM9 (by decide) (by decide) (by decide) (by decide) (by decide)
      replace hO := hO9
      replace hw_339 : ((gI σ a 13 ≤ gI σ_s_340 a 13 ∧ gI σ_s_340 a 13 ≤ gI σ a 11 ∧ 0 ≤ gI σ_s_340 a 17 ∧ gI σ_s_340 a 17 ≤ gI σ_s_340 a 13)) ∧ ∃ c1 j1, RSt σ_s_340 a T c1 j1 ∧ (fc ≠ 0 → c1 = fc ∧ j1 = jt) ∧ (fc = 0 → jt ≤ j1 ∧ GS T [(1, (gI σ a 28))] jt (gI σ a 27) [] c1 j1 (gI σ_s_340 a 27)) ∧ (c1 = 0 → 0 ≤ gI σ_s_340 a 27 ∧ gI σ_s_340 a 27 ≤ 12) := hw_339
      replace hV0 := hid.mk hV0
      have hn_347 := hw_339.2
      replace hw_339 := hw_339.1
      obtain ⟨cc_348, jj_349, hR_350, hn_347⟩ := hn_347
      have hVhR_350 := hR_350.1
      have h0_351 : ¬ cc_348 = 0 := by omega
      try simp only [h0_351, ne_eq, not_true_eq_false, not_false_eq_true, false_implies, true_implies, true_and, and_true, eq_self, false_or, or_false, false_and, and_false] at hVhR_350
      have hc_352 : fc = cc_348 := by omega
      subst hc_352
      have hj_353 : jt = jj_349 := by omega
      subst hj_353
      exact th_zret hx hb hr hlocks hH hS (z := z_341) (by omega) ⟨hO, hF, hM, ⟨by omega, by omega⟩, ⟨⟨by omega, by omega⟩, fc, jt, hR_350, ⟨fun _ => ⟨rfl, rfl⟩, fun h9 => absurd h9 h0_351, fun h9 => absurd h9 h0_351⟩⟩⟩ dX11_atom_139
