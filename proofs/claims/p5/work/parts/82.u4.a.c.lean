set_option maxHeartbeats 20000000 in
set_option maxRecDepth 100000 in
theorem s6_readAll (n : Nat) (ih : ∀ (l : Launch) (G : va_G) (y : Nat → ClassId) (b0 : Nat) (σ : th_M) (E : th_E) (hO : ok y E σ) (a : Nat) (h_a : kd E a = 11) (b : Nat) (h_b : kd E b = 4) (lv : Int) (rlv : rng lv) (l_lv : 0 ≤ lv) (u_lv : lv ≤ 5) (T : tkT) (fc jt : Int) (hT0 : TSt E σ (ad E a 0) T fc jt) (hy0 : fc = 0 → 0 ≤ gI σ b 13 ∧ gI σ b 13 ≤ 12) (hn : (5 - lv).toNat < n), Met l yX5_readAtom wsX5_readAtom ({ frames := 6*n+8, cells := 0, slots := 0, locals := (200*n+600) }) (th_P G y b0 σ [.ref a, .ref b, .int (I lv)]) (th_Qv G b0 (fun σ1 => ok y E σ1 ∧ fr [3, 4] E σ σ1 ∧ (∃ c1 j1, TSt E σ1 (ad E a 0) T c1 j1 ∧ (fc ≠ 0 → c1 = fc ∧ j1 = jt) ∧ (fc = 0 → jt ≤ j1 ∧ (c1 = 0 → jt < j1) ∧ GS T [(1, lv)] jt (gI σ b 13) [] c1 j1 (gI σ1 b 13)) ∧ (c1 = 0 → 0 ≤ gI σ1 b 13 ∧ gI σ1 b 13 ≤ 12) ∧ gI σ1 b 3 = gI σ b 3))) 0 0 (th_A b0)) (l : Launch) (G : va_G) (y : Nat → ClassId) (b0 : Nat) (σ : th_M) (E : th_E) (hO : ok y E σ) (a : Nat) (h_a : kd E a = 11) (b : Nat) (h_b : kd E b = 4) (lv : Int) (rlv : rng lv) (l_lv : 0 ≤ lv) (u_lv : lv ≤ 5) (T : tkT) (fc jt : Int) (hT0 : TSt E σ (ad E a 0) T fc jt) (hy0 : (5 - lv).toNat < n) (hy1 : fc = 0 → 0 ≤ gI σ b 13 ∧ gI σ b 13 ≤ 12) : Met l yX5_readAll wsX5_readAll ({ frames := 6*n+10, cells := 0, slots := 0, locals := (200*n+650) }) (th_P G y b0 σ [.ref a, .ref b, .int (I lv)]) (th_Qv G b0 (fun σ1 => ok y E σ1 ∧ fr [3, 4] E σ σ1 ∧ (∃ c1 j1, TSt E σ1 (ad E a 0) T c1 j1 ∧ (fc ≠ 0 → c1 = fc ∧ j1 = jt) ∧ (fc = 0 → jt ≤ j1 ∧ (c1 = 0 → jt < j1) ∧ GS T [(3, lv)] jt (gI σ b 13) [] c1 j1 (gI σ1 b 13)) ∧ (c1 = 0 → 0 ≤ gI σ1 b 13 ∧ gI σ1 b 13 ≤ 12) ∧ gI σ1 b 3 = gI σ b 3))) 0 0 (th_A b0) := by
  refine Met.ofW (cc := cX5_readAll) (maxL := 4) (ret := none) (by decide) rfl ?_
  intro p e s m args below meth c s₁ B hml hv
  obtain ⟨rfl, hH, hK⟩ := hv
  have hx := B.exec
  have hb := B.bytes
  have hr := B.returns
  have hts := atoms_spec (ws := wsX5_readAll) B.pre
  have hown : s.vm.findClass RX5 = some m.cls := findClass_of_methodNamed B.named
  have hlocks := B.notSynchronized
  have h00 : b0 ≤ s.heap.size := hH.1
  have hS : va_S (th_A b0) s.heap s.heap [] := va_S.rf
  have hF : fr [3, 4] E σ σ := fr.rf
  have inX5 : ∀ w ∈ wsX50, w ∈ wsX5_readAll := by decide +kernel
  have inX8 : ∀ w ∈ wsX80, w ∈ wsX5_readAll := by decide +kernel
  have fl0 := hts (.fieldLink RX5 9 "NestQuery$PathReader" "tokens" "LNestQuery$Tokens;") (by decide +kernel)
  have hl := lv_entry ([.ref a, .ref b, .int (I lv)]) (n := 4) (Nat.le_of_ble_eq_true rfl)
  rw [lg_entry_eq]
  generalize (lg_sl ([.ref a, .ref b, .int (I lv)]) ++ List.replicate (4 - (lg_sl ([.ref a, .ref b, .int (I lv)])).length) Slot.unset).toArray = ls at hl ⊢
  have hl : lv_has ls 4 [(0, .ref a), (1, .ref b), (2, .int (I lv))] := hl
  obtain ⟨b30, eb30, rb30, lb30, ub30⟩ := hO.gi h_b (by decide) k4_3
  obtain ⟨b130, eb130, rb130, lb130, ub130⟩ := hO.gi h_b (by decide) k4_13
  have hU0 := hT0.2.2
  have hkt : kd E (ad E a 0) = 3 := ok.pk hO h_a (by decide) k11_0 rfl
  rcases Classical.em (fc = 0) with h0_1 | h0_1
  · subst h0_1
    try simp only [ne_eq, not_true_eq_false, not_false_eq_true, false_implies, true_implies, true_and, and_true, eq_self, false_or, or_false, false_and, and_false] at hU0
    have e_2 : gI σ (ad E a 0) 7 = 0 := by omega
    have hk_3 : gI σ (ad E a 0) 6 = tK T jt := by omega
    have hG_4 := GS.start (T := T) (e := [(3, lv)]) (j := jt) (t := gI σ b 13)
    have hG_5 := hG_4.all
    refine lv_aload_n hx hb dX5_readAll_0 rfl (lv_at hl 0 rfl) ?_
    refine lv_aload_n hx hb dX5_readAll_1 rfl (lv_at hl 1 rfl) ?_
    refine lv_iload_n hx hb dX5_readAll_2 rfl (lv_at hl 2 rfl) ?_
    obtain ⟨_, hc_6⟩ := hO.cell h_a (by decide) (ci := 5) rfl
    refine th_callv (va_runV (As := [.ref b, .int (I lv)]) (rest := []) ⟨hx, hb, hml, hown, hts⟩ (ih l G y b0 σ E hO a h_a b h_b lv (show rng lv from rlv) (by omega) (by omega) T 0 jt hT0 (by omega) (by omega)) (cwV 2 hts gX5_readAll_X5_readAtom rfl rfl rfl (by decide +kernel) ⟨(by first | (simp only [headSpec]; omega) | omega | (dsimp only; omega)), (by first | (simp only [headSpec]; omega) | omega | (dsimp only; omega))⟩) (th_PV hK hH rfl hc_6) rfl rfl hl.1 rfl (lv_room (Nat.le_of_ble_eq_true rfl)) dX5_readAll_3 ⟨(by first | (simp only [headSpec]; omega) | omega | (dsimp only; omega)), (by first | (simp only [headSpec]; omega) | omega | (dsimp only; omega))⟩) hS (fun σ_s_8 H locs hw_7 hH hS => ?_)
    obtain ⟨hO9, hF9, hw_7⟩ := hw_7
    replace hO := hO9
    replace hF := hF.tu hF9 (by decide)
    replace hw_7 : ∃ c1 j1, TSt E σ_s_8 (ad E a 0) T c1 j1 ∧ ((0 : Int) ≠ 0 → c1 = 0 ∧ j1 = jt) ∧ ((0 : Int) = 0 → jt ≤ j1 ∧ (c1 = 0 → jt < j1) ∧ GS T [(1, lv)] jt (gI σ b 13) [] c1 j1 (gI σ_s_8 b 13)) ∧ (c1 = 0 → 0 ≤ gI σ_s_8 b 13 ∧ gI σ_s_8 b 13 ≤ 12) ∧ gI σ_s_8 b 3 = gI σ b 3 := hw_7
    obtain ⟨cc_9, jj_10, hT_11, hw_7⟩ := hw_7
    have hUhT_11 := hT_11.2.2
    try replace hU0 := hid.mk hU0
    obtain ⟨z_12, e_13, rz_12, lz_12, uz_12⟩ := hO.gi h_b (by decide) k4_3
    obtain ⟨z_14, e_15, rz_14, lz_14, uz_14⟩ := hO.gi h_b (by decide) k4_13
    rcases Classical.em (cc_9 = 0) with h0_16 | h0_16
    · subst h0_16
      try simp only [ne_eq, not_true_eq_false, not_false_eq_true, false_implies, true_implies, true_and, and_true, eq_self, false_or, or_false, false_and, and_false] at hUhT_11
      have e_17 : gI σ_s_8 (ad E a 0) 7 = 0 := by omega
      have hk_18 : gI σ_s_8 (ad E a 0) 6 = tK T jj_10 := by omega
      have hG_19 := hG_5.call (c2 := 0) (j2 := jj_10) (t2 := gI σ_s_8 b 13) (fun _ => GS.cg1 (hw_7.2.1 rfl).2.2 (by omega) rfl (by omega)) (fun h9 => absurd rfl h9)
      have hqhw_7 := (hw_7.2.1 rfl).1
      have hQhw_7 := (hw_7.2.1 rfl).2.1
      have hRhw_7 := hw_7.2.2
      try replace hw_7 := hid.mk hw_7
      refine lv_iconst (v := I 0) hx hb dX5_readAll_6 (by decide) ?_
      refine lv_istore_n (lv' := [(3, .int (I 0)), (0, .ref a), (1, .ref b), (2, .int (I lv))]) hx hb dX5_readAll_7 rfl hl (by decide) rfl (fun ls hl => ?_)
      refine th_loop (α := Int × Int) (pc := 8) (fun x9 => (tm T - x9.2).toNat) (fun x9 σ9 H9 l9 ls9 => ok y E σ9 ∧ fr [3, 4] E σ σ9 ∧ th_H G b0 σ9 H9 ∧ va_S (th_A b0) s.heap H9 l9 ∧ lv_has ls9 4 [(0, .ref a), (1, .ref b), (2, .int (I lv)), (3, .int (I x9.1))] ∧ rng x9.1 ∧ (0 ≤ x9.1) ∧ (x9.1 ≤ 400) ∧ (x9.1 ≤ x9.2) ∧ (jt ≤ x9.2) ∧ (jt < x9.2) ∧ (gI σ9 b 3 = gI σ b 3) ∧ (0 ≤ gI σ9 b 13 ∧ gI σ9 b 13 ≤ 12) ∧ (TSt E σ9 (ad E a 0) T 0 x9.2) ∧ (GS T [(3, lv)] jt (gI σ b 13) [(7, lv)] 0 x9.2 (gI σ9 b 13))) ?_ (0, jj_10) σ_s_8 _ _ _ ⟨hO, hF, hH, hS, lv_sub hl [1, 2, 3, 0] rfl, (show rng 0 from ⟨by decide, by decide⟩), by first | (dsimp only; omega) | omega, by first | (dsimp only; omega) | omega, by first | (dsimp only; omega) | omega, by first | (dsimp only; omega) | omega, by first | (dsimp only; omega) | omega, by first | (dsimp only; omega) | omega, by first | (dsimp only; omega) | omega, hT_11, (hG_19.ec rfl rfl (fun _ => by omega))⟩
      intro x9 σ_J_120 H locs ls hI9 ihJ_120
      obtain ⟨v3q119, jqq118⟩ := x9
      obtain ⟨hO, hF, hH, hS, hl, rv3q119, J_120_0, J_120_1, J_120_2, J_120_3, J_120_4, J_120_5, J_120_6, J_120_7, J_120_8⟩ := hI9
      replace hl : lv_has ls 4 [(0, .ref a), (1, .ref b), (2, .int (I lv)), (3, .int (I v3q119))] := hl
      replace rv3q119 : rng v3q119 := rv3q119
      replace J_120_0 : 0 ≤ v3q119 := J_120_0
      replace J_120_1 : v3q119 ≤ 400 := J_120_1
      replace J_120_2 : v3q119 ≤ jqq118 := J_120_2
      replace J_120_3 : jt ≤ jqq118 := J_120_3
      replace J_120_4 : jt < jqq118 := J_120_4
      replace J_120_5 : gI σ_J_120 b 3 = gI σ b 3 := J_120_5
      replace J_120_6 : 0 ≤ gI σ_J_120 b 13 ∧ gI σ_J_120 b 13 ≤ 12 := J_120_6
      replace J_120_7 : TSt E σ_J_120 (ad E a 0) T 0 jqq118 := J_120_7
      replace J_120_8 : GS T [(3, lv)] jt (gI σ b 13) [(7, lv)] 0 jqq118 (gI σ_J_120 b 13) := J_120_8
      try replace hUhT_11 := hid.mk hUhT_11
      try replace hw_7 := hid.mk hw_7
      have hUJ_120_7 := J_120_7.2.2
      have hfJ_120_7 := J_120_7.2.1 jqq118 (by have h9 := hUJ_120_7; omega) (by have h9 := hUJ_120_7; omega)
      try simp only [ne_eq, not_true_eq_false, not_false_eq_true, false_implies, true_implies, true_and, and_true, eq_self, false_or, or_false, false_and, and_false] at hUJ_120_7
      have e_121 : gI σ_J_120 (ad E a 0) 7 = 0 := by omega
      have hk_122 : gI σ_J_120 (ad E a 0) 6 = tK T jqq118 := by omega
      obtain ⟨z_123, e_124, rz_123, lz_123, uz_123⟩ := hO.gi h_b (by decide) k4_3
      obtain ⟨z_125, e_126, rz_125, lz_125, uz_125⟩ := hO.gi h_b (by decide) k4_13
      refine lv_aload_n hx hb dX5_readAll_8 rfl (lv_at hl 0 rfl) ?_
      have hp_127 : kd E (ad E a 0) = 3 := ok.pk hO h_a (by decide) k11_0 rfl
      refine ok.getR hO h_a (by decide) k11_0 (by decide) (fun _ _ he hv kk => th_get (ci := 5) (C := RX5) (T := TX5) (N := 1) hx hb hts inX5 hown hK hH he rfl 0 (by decide) fl0 hv dX5_readAll_9 kk) ?_
      refine ok.getI hO hp_127 (by decide) k3_6 (fun _ _ he hv kk => th_getN (ci := 8) (C := RX8) (T := TX8) (N := 9) hx hb hts inX8 hown hK hH he rfl 6 (by decide) (nl_5 hK) hv dX5_readAll_12 kk) (fun z_128 e_129 rz_128 lz_128 uz_128 => ?_)
      refine lv_bipush (v := I 38) hx hb dX5_readAll_15 (by decide) ?_
      refine lv_icmp_ne (tgt := 52) hx hb dX5_readAll_17 (by decide) (fun c_130 => ?_) (fun c_130 => ?_)
      · replace c_130 := mt (I_eq (a := z_128) (b := 38) rz_128 (show rng 38 from ⟨by decide, by decide⟩)).mpr c_130
        have hG_131 := J_120_8.andE (fun _ => by omega)
        exact th_vret hx hb hr hlocks hH hS ⟨hO, hF, ⟨0, jqq118, J_120_7, (fun h9 => absurd rfl h9), fun _ => ⟨by omega, by omega, hG_131.ec rfl rfl (fun _ => by omega)⟩, by omega, by omega⟩⟩ dX5_readAll_52
      · replace c_130 := (I_eq (a := z_128) (b := 38) rz_128 (show rng 38 from ⟨by decide, by decide⟩)).mp c_130
        refine lv_iload_n hx hb dX5_readAll_20 rfl (lv_at hl 3 rfl) ?_
        refine lv_sipush (v := I 400) hx hb dX5_readAll_21 (by decide) ?_
        refine lv_icmp_ge (tgt := 52) hx hb dX5_readAll_24 (by decide) (fun c_132 => ?_) (fun c_132 => ?_)
        · replace c_132 := (I_le (a := 400) (b := v3q119) (show rng 400 from ⟨by decide, by decide⟩) rv3q119).mp c_132
          exfalso; omega
        · replace c_132 := mt (I_le (a := 400) (b := v3q119) (show rng 400 from ⟨by decide, by decide⟩) rv3q119).mpr c_132
          refine lv_aload_n hx hb dX5_readAll_27 rfl (lv_at hl 0 rfl) ?_
          refine ok.getR hO h_a (by decide) k11_0 (by decide) (fun _ _ he hv kk => th_get (ci := 5) (C := RX5) (T := TX5) (N := 1) hx hb hts inX5 hown hK hH he rfl 0 (by decide) fl0 hv dX5_readAll_28 kk) ?_
          obtain ⟨_, hc_133⟩ := hO.cell hp_127 (by decide) (ci := 8) rfl
          refine th_callv (va_runV (As := []) (rest := []) ⟨hx, hb, hml, hown, hts⟩ (f_step l G y b0 σ_J_120 E hO (ad E a 0) hp_127 T 0 jqq118 J_120_7) (cwV 0 hts gX5_readAll_X8_step rfl rfl rfl (by decide +kernel) ⟨(by first | (simp only [headSpec]; omega) | omega | (dsimp only; omega)), (by first | (simp only [headSpec]; omega) | omega | (dsimp only; omega))⟩) (th_PV hK hH rfl hc_133) rfl rfl hl.1 rfl (lv_room (Nat.le_of_ble_eq_true rfl)) dX5_readAll_31 ⟨(by first | (simp only [headSpec]; omega) | omega | (dsimp only; omega)), (by first | (simp only [headSpec]; omega) | omega | (dsimp only; omega))⟩) hS (fun σ_s_135 H locs hw_134 hH hS => ?_)
          obtain ⟨hO9, hF9, hw_134⟩ := hw_134
          have e_136 : gI σ_s_135 b 3 = z_123 := (fr.ki hO hF9 h_b (by decide) (by decide) _).trans e_124
          have e_137 : gI σ_s_135 b 13 = z_125 := (fr.ki hO hF9 h_b (by decide) (by decide) _).trans e_126
          replace hO := hO9
          replace hF := hF.tu hF9 (by decide)
          replace hw_134 : ∃ c1 j1, TSt E σ_s_135 (ad E a 0) T c1 j1 ∧ c1 = 0 ∧ ((0 : Int) ≠ 0 → j1 = jqq118) ∧ ((0 : Int) = 0 → tK T jqq118 ≠ 259 → j1 = jqq118 + 1) := hw_134
          obtain ⟨cc_138, jj_139, hT_140, hw_134⟩ := hw_134
          have hUhT_140 := hT_140.2.2
          try replace hUJ_120_7 := hid.mk hUJ_120_7
          have h0_141 : cc_138 = 0 := by omega
          subst h0_141
          try simp only [ne_eq, not_true_eq_false, not_false_eq_true, false_implies, true_implies, true_and, and_true, eq_self, false_or, or_false, false_and, and_false] at hUhT_140
          have e_142 : gI σ_s_135 (ad E a 0) 7 = 0 := by omega
          have hk_143 : gI σ_s_135 (ad E a 0) 6 = tK T jj_139 := by omega
          have hj_144 : jqq118 + 1 = jj_139 := by omega
          subst hj_144
          have hG_145 := J_120_8.and (by omega)
          refine lv_aload_n hx hb dX5_readAll_34 rfl (lv_at hl 0 rfl) ?_
          refine lv_aload_n hx hb dX5_readAll_35 rfl (lv_at hl 1 rfl) ?_
          refine lv_iload_n hx hb dX5_readAll_36 rfl (lv_at hl 2 rfl) ?_
          obtain ⟨_, hc_146⟩ := hO.cell h_a (by decide) (ci := 5) rfl
          refine th_callv (va_runV (As := [.ref b, .int (I lv)]) (rest := []) ⟨hx, hb, hml, hown, hts⟩ (ih l G y b0 σ_s_135 E hO a h_a b h_b lv (show rng lv from rlv) (by omega) (by omega) T 0 (jqq118 + 1) hT_140 (by omega) (by omega)) (cwV 2 hts gX5_readAll_X5_readAtom rfl rfl rfl (by decide +kernel) ⟨(by first | (simp only [headSpec]; omega) | omega | (dsimp only; omega)), (by first | (simp only [headSpec]; omega) | omega | (dsimp only; omega))⟩) (th_PV hK hH rfl hc_146) rfl rfl hl.1 rfl (lv_room (Nat.le_of_ble_eq_true rfl)) dX5_readAll_37 ⟨(by first | (simp only [headSpec]; omega) | omega | (dsimp only; omega)), (by first | (simp only [headSpec]; omega) | omega | (dsimp only; omega))⟩) hS (fun σ_s_148 H locs hw_147 hH hS => ?_)
          obtain ⟨hO9, hF9, hw_147⟩ := hw_147
          replace hO := hO9
          replace hF := hF.tu hF9 (by decide)
          replace hw_147 : ∃ c1 j1, TSt E σ_s_148 (ad E a 0) T c1 j1 ∧ ((0 : Int) ≠ 0 → c1 = 0 ∧ j1 = (jqq118 + 1)) ∧ ((0 : Int) = 0 → (jqq118 + 1) ≤ j1 ∧ (c1 = 0 → (jqq118 + 1) < j1) ∧ GS T [(1, lv)] (jqq118 + 1) (gI σ_s_135 b 13) [] c1 j1 (gI σ_s_148 b 13)) ∧ (c1 = 0 → 0 ≤ gI σ_s_148 b 13 ∧ gI σ_s_148 b 13 ≤ 12) ∧ gI σ_s_148 b 3 = gI σ_s_135 b 3 := hw_147
          obtain ⟨cc_149, jj_150, hT_151, hw_147⟩ := hw_147
          have hUhT_151 := hT_151.2.2
          try replace hUhT_140 := hid.mk hUhT_140
          try replace hw_134 := hid.mk hw_134
          obtain ⟨z_152, e_153, rz_152, lz_152, uz_152⟩ := hO.gi h_b (by decide) k4_3
          obtain ⟨z_154, e_155, rz_154, lz_154, uz_154⟩ := hO.gi h_b (by decide) k4_13
          rcases Classical.em (cc_149 = 0) with h0_156 | h0_156
          · subst h0_156
            try simp only [ne_eq, not_true_eq_false, not_false_eq_true, false_implies, true_implies, true_and, and_true, eq_self, false_or, or_false, false_and, and_false] at hUhT_151
            have e_157 : gI σ_s_148 (ad E a 0) 7 = 0 := by omega
            have hk_158 : gI σ_s_148 (ad E a 0) 6 = tK T jj_150 := by omega
            have hG_159 := hG_145.call (c2 := 0) (j2 := jj_150) (t2 := gI σ_s_148 b 13) (fun _ => GS.cg1 (hw_147.2.1 rfl).2.2 (by omega) rfl (by omega)) (fun h9 => absurd rfl h9)
            have hqhw_147 := (hw_147.2.1 rfl).1
            have hQhw_147 := (hw_147.2.1 rfl).2.1
            have hRhw_147 := hw_147.2.2
            try replace hw_147 := hid.mk hw_147
            refine lv_aload_n hx hb dX5_readAll_40 rfl (lv_at hl 1 rfl) ?_
            refine lv_bipush (v := I (-2)) hx hb dX5_readAll_41 (by decide) ?_
            obtain ⟨_, hc_160⟩ := hO.cell h_b (by decide) (ci := 4) rfl
            refine th_callv (va_runV (As := [.int (I (-2))]) (rest := []) ⟨hx, hb, hml, hown, hts⟩ (p6_addCode l G y b0 σ_s_148 E hO b h_b (-2) (show rng (-2) from (show rng (-2) from ⟨by decide, by decide⟩))) (cwV 1 hts gX5_readAll_X4_addCode rfl rfl rfl (by decide +kernel) ⟨(by first | (simp only [headSpec]; omega) | omega | (dsimp only; omega)), (by first | (simp only [headSpec]; omega) | omega | (dsimp only; omega))⟩) (th_PV hK hH rfl hc_160) rfl rfl hl.1 rfl (lv_room (Nat.le_of_ble_eq_true rfl)) dX5_readAll_43 ⟨(by first | (simp only [headSpec]; omega) | omega | (dsimp only; omega)), (by first | (simp only [headSpec]; omega) | omega | (dsimp only; omega))⟩) hS (fun σ_s_162 H locs hw_161 hH hS => ?_)
            obtain ⟨hO9, hF9, hw_161⟩ := hw_161
            have e_163 : gI σ_s_162 (ad E a 0) 7 = 0 := (fr.ki hO hF9 hkt (by decide) (by decide) _).trans e_157
            have hT_164 : TSt E σ_s_162 (ad E a 0) T 0 jj_150 := TSt.mv hO hF9 hkt (by decide) hT_151
            have hUhT_164 := hT_164.2.2
            replace hO := hO9
            replace hF := hF.tu hF9 (by decide)
            replace hw_161 : gI σ_s_162 b 13 = gI σ_s_148 b 13 ∧ gI σ_s_162 b 3 = gI σ_s_148 b 3 := hw_161
            try replace hUhT_151 := hid.mk hUhT_151
            try replace hw_147 := hid.mk hw_147
            try simp only [ne_eq, not_true_eq_false, not_false_eq_true, false_implies, true_implies, true_and, and_true, eq_self, false_or, or_false, false_and, and_false] at hUhT_164
            have e_165 : gI σ_s_162 (ad E a 0) 7 = 0 := by omega
            have hk_166 : gI σ_s_162 (ad E a 0) 6 = tK T jj_150 := by omega
            have e_167 : gI σ_s_162 b 3 = z_152 := by omega
            have e_168 : gI σ_s_162 b 13 = z_154 := by omega
            refine lv_iinc (v := I (v3q119 + 1)) (lv' := [(3, .int (I (v3q119 + 1))), (0, .ref a), (1, .ref b), (2, .int (I lv))]) hx hb dX5_readAll_46 hl (k := 3) rfl (I_add _ _) (by decide) rfl (fun ls hl => ?_)
            refine lv_goto (tgt := 8) hx hb dX5_readAll_49 (by decide) ?_
            exact ihJ_120 (v3q119 + 1, jj_150) σ_s_162 _ _ _ (by first | (dsimp only; omega) | omega) ⟨hO, hF, hH, hS, lv_sub hl [1, 2, 3, 0] rfl, ⟨by first | (dsimp only; omega) | omega, by first | (dsimp only; omega) | omega⟩, by first | (dsimp only; omega) | omega, by first | (dsimp only; omega) | omega, by first | (dsimp only; omega) | omega, by first | (dsimp only; omega) | omega, by first | (dsimp only; omega) | omega, by first | (dsimp only; omega) | omega, by first | (dsimp only; omega) | omega, hT_164, (hG_159.ec rfl rfl (fun _ => by omega))⟩
          · try simp only [h0_156, ne_eq, not_true_eq_false, not_false_eq_true, false_implies, true_implies, true_and, and_true, eq_self, false_or, or_false, false_and, and_false] at hUhT_151
            have e_169 : gI σ_s_148 (ad E a 0) 6 = 260 := by omega
            have hG_170 := hG_145.call (c2 := cc_149) (j2 := jj_150) (t2 := gI σ_s_148 b 13) (fun _ => GS.cg1 (hw_147.2.1 rfl).2.2 (by omega) rfl (by omega)) (fun h9 => absurd rfl h9)
            have hqhw_147 := (hw_147.2.1 rfl).1
            have hQhw_147 := (hw_147.2.1 rfl).2.1
            have hRhw_147 := hw_147.2.2
            try replace hw_147 := hid.mk hw_147
            refine lv_aload_n hx hb dX5_readAll_40 rfl (lv_at hl 1 rfl) ?_
            refine lv_bipush (v := I (-2)) hx hb dX5_readAll_41 (by decide) ?_
            obtain ⟨_, hc_171⟩ := hO.cell h_b (by decide) (ci := 4) rfl
            refine th_callv (va_runV (As := [.int (I (-2))]) (rest := []) ⟨hx, hb, hml, hown, hts⟩ (p6_addCode l G y b0 σ_s_148 E hO b h_b (-2) (show rng (-2) from (show rng (-2) from ⟨by decide, by decide⟩))) (cwV 1 hts gX5_readAll_X4_addCode rfl rfl rfl (by decide +kernel) ⟨(by first | (simp only [headSpec]; omega) | omega | (dsimp only; omega)), (by first | (simp only [headSpec]; omega) | omega | (dsimp only; omega))⟩) (th_PV hK hH rfl hc_171) rfl rfl hl.1 rfl (lv_room (Nat.le_of_ble_eq_true rfl)) dX5_readAll_43 ⟨(by first | (simp only [headSpec]; omega) | omega | (dsimp only; omega)), (by first | (simp only [headSpec]; omega) | omega | (dsimp only; omega))⟩) hS (fun σ_s_173 H locs hw_172 hH hS => ?_)
            obtain ⟨hO9, hF9, hw_172⟩ := hw_172
            have e_174 : gI σ_s_173 (ad E a 0) 6 = 260 := (fr.ki hO hF9 hkt (by decide) (by decide) _).trans e_169
            have hT_175 : TSt E σ_s_173 (ad E a 0) T cc_149 jj_150 := TSt.mv hO hF9 hkt (by decide) hT_151
            have hUhT_175 := hT_175.2.2
            replace hO := hO9
            replace hF := hF.tu hF9 (by decide)
            replace hw_172 : gI σ_s_173 b 13 = gI σ_s_148 b 13 ∧ gI σ_s_173 b 3 = gI σ_s_148 b 3 := hw_172
            try replace hUhT_151 := hid.mk hUhT_151
            try replace hw_147 := hid.mk hw_147
            try simp only [h0_156, ne_eq, not_true_eq_false, not_false_eq_true, false_implies, true_implies, true_and, and_true, eq_self, false_or, or_false, false_and, and_false] at hUhT_175
            have e_176 : gI σ_s_173 (ad E a 0) 6 = 260 := by omega
            have e_177 : gI σ_s_173 b 3 = z_152 := by omega
            have e_178 : gI σ_s_173 b 13 = z_154 := by omega
            refine lv_iinc (v := I (v3q119 + 1)) (lv' := [(3, .int (I (v3q119 + 1))), (0, .ref a), (1, .ref b), (2, .int (I lv))]) hx hb dX5_readAll_46 hl (k := 3) rfl (I_add _ _) (by decide) rfl (fun ls hl => ?_)
            refine lv_goto (tgt := 8) hx hb dX5_readAll_49 (by decide) ?_
            refine lv_aload_n hx hb dX5_readAll_8 rfl (lv_at hl 1 rfl) ?_
            refine ok.getR hO h_a (by decide) k11_0 (by decide) (fun _ _ he hv kk => th_get (ci := 5) (C := RX5) (T := TX5) (N := 1) hx hb hts inX5 hown hK hH he rfl 0 (by decide) fl0 hv dX5_readAll_9 kk) ?_
            refine ok.getIc hO hp_127 (by decide) k3_6 e_176 (fun _ _ he hv kk => th_getN (ci := 8) (C := RX8) (T := TX8) (N := 9) hx hb hts inX8 hown hK hH he rfl 6 (by decide) (nl_5 hK) hv dX5_readAll_12 kk) ?_
            refine lv_bipush (v := I 38) hx hb dX5_readAll_15 (by decide) ?_
            refine lv_icmp_ne (tgt := 52) hx hb dX5_readAll_17 (by decide) (fun _ => ?_) (fun c_179 => absurd c_179 (by decide))
            exact th_vret hx hb hr hlocks hH hS ⟨hO, hF, ⟨cc_149, jj_150, hT_175, (fun h9 => absurd rfl h9), fun _ => ⟨by omega, fun h9 => absurd h9 h0_156, hG_170.was h0_156⟩, fun h9 => absurd h9 h0_156, by omega⟩⟩ dX5_readAll_52
    · try simp only [h0_16, ne_eq, not_true_eq_false, not_false_eq_true, false_implies, true_implies, true_and, and_true, eq_self, false_or, or_false, false_and, and_false] at hUhT_11
      have e_180 : gI σ_s_8 (ad E a 0) 6 = 260 := by omega
      have hG_181 := hG_5.call (c2 := cc_9) (j2 := jj_10) (t2 := gI σ_s_8 b 13) (fun _ => GS.cg1 (hw_7.2.1 rfl).2.2 (by omega) rfl (by omega)) (fun h9 => absurd rfl h9)
      have hqhw_7 := (hw_7.2.1 rfl).1
      have hQhw_7 := (hw_7.2.1 rfl).2.1
      have hRhw_7 := hw_7.2.2
      try replace hw_7 := hid.mk hw_7
      refine lv_iconst (v := I 0) hx hb dX5_readAll_6 (by decide) ?_
      refine lv_istore_n (lv' := [(3, .int (I 0)), (0, .ref a), (1, .ref b), (2, .int (I lv))]) hx hb dX5_readAll_7 rfl hl (by decide) rfl (fun ls hl => ?_)
      refine lv_aload_n hx hb dX5_readAll_8 rfl (lv_at hl 1 rfl) ?_
      have hp_182 : kd E (ad E a 0) = 3 := ok.pk hO h_a (by decide) k11_0 rfl
      refine ok.getR hO h_a (by decide) k11_0 (by decide) (fun _ _ he hv kk => th_get (ci := 5) (C := RX5) (T := TX5) (N := 1) hx hb hts inX5 hown hK hH he rfl 0 (by decide) fl0 hv dX5_readAll_9 kk) ?_
      refine ok.getIc hO hp_182 (by decide) k3_6 e_180 (fun _ _ he hv kk => th_getN (ci := 8) (C := RX8) (T := TX8) (N := 9) hx hb hts inX8 hown hK hH he rfl 6 (by decide) (nl_5 hK) hv dX5_readAll_12 kk) ?_
      refine lv_bipush (v := I 38) hx hb dX5_readAll_15 (by decide) ?_
      refine lv_icmp_ne (tgt := 52) hx hb dX5_readAll_17 (by decide) (fun _ => ?_) (fun c_183 => absurd c_183 (by decide))
      exact th_vret hx hb hr hlocks hH hS ⟨hO, hF, ⟨cc_9, jj_10, hT_11, (fun h9 => absurd rfl h9), fun _ => ⟨by omega, fun h9 => absurd h9 h0_16, hG_181.was h0_16⟩, fun h9 => absurd h9 h0_16, by omega⟩⟩ dX5_readAll_52
  · try simp only [h0_1, ne_eq, not_true_eq_false, not_false_eq_true, false_implies, true_implies, true_and, and_true, eq_self, false_or, or_false, false_and, and_false] at hU0
    have e_184 : gI σ (ad E a 0) 6 = 260 := by omega
    refine lv_aload_n hx hb dX5_readAll_0 rfl (lv_at hl 0 rfl) ?_
    refine lv_aload_n hx hb dX5_readAll_1 rfl (lv_at hl 1 rfl) ?_
    refine lv_iload_n hx hb dX5_readAll_2 rfl (lv_at hl 2 rfl) ?_
    obtain ⟨_, hc_185⟩ := hO.cell h_a (by decide) (ci := 5) rfl
    refine th_callv (va_runV (As := [.ref b, .int (I lv)]) (rest := []) ⟨hx, hb, hml, hown, hts⟩ (ih l G y b0 σ E hO a h_a b h_b lv (show rng lv from rlv) (by omega) (by omega) T fc jt hT0 (by omega) (by omega)) (cwV 2 hts gX5_readAll_X5_readAtom rfl rfl rfl (by decide +kernel) ⟨(by first | (simp only [headSpec]; omega) | omega | (dsimp only; omega)), (by first | (simp only [headSpec]; omega) | omega | (dsimp only; omega))⟩) (th_PV hK hH rfl hc_185) rfl rfl hl.1 rfl (lv_room (Nat.le_of_ble_eq_true rfl)) dX5_readAll_3 ⟨(by first | (simp only [headSpec]; omega) | omega | (dsimp only; omega)), (by first | (simp only [headSpec]; omega) | omega | (dsimp only; omega))⟩) hS (fun σ_s_187 H locs hw_186 hH hS => ?_)
    obtain ⟨hO9, hF9, hw_186⟩ := hw_186
    replace hO := hO9
    replace hF := hF.tu hF9 (by decide)
    replace hw_186 : ∃ c1 j1, TSt E σ_s_187 (ad E a 0) T c1 j1 ∧ (fc ≠ 0 → c1 = fc ∧ j1 = jt) ∧ (fc = 0 → jt ≤ j1 ∧ (c1 = 0 → jt < j1) ∧ GS T [(1, lv)] jt (gI σ b 13) [] c1 j1 (gI σ_s_187 b 13)) ∧ (c1 = 0 → 0 ≤ gI σ_s_187 b 13 ∧ gI σ_s_187 b 13 ≤ 12) ∧ gI σ_s_187 b 3 = gI σ b 3 := hw_186
    obtain ⟨cc_188, jj_189, hT_190, hw_186⟩ := hw_186
    have hUhT_190 := hT_190.2.2
    try replace hU0 := hid.mk hU0
    have hc_191 : fc = cc_188 := by omega
    subst hc_191
    have hc_192 : jt = jj_189 := by omega
    subst hc_192
    try simp only [h0_1, ne_eq, not_true_eq_false, not_false_eq_true, false_implies, true_implies, true_and, and_true, eq_self, false_or, or_false, false_and, and_false] at hUhT_190
    have e_193 : gI σ_s_187 (ad E a 0) 6 = 260 := by omega
    obtain ⟨z_194, e_195, rz_194, lz_194, uz_194⟩ := hO.gi h_b (by decide) k4_3
    obtain ⟨z_196, e_197, rz_196, lz_196, uz_196⟩ := hO.gi h_b (by decide) k4_13
    refine lv_iconst (v := I 0) hx hb dX5_readAll_6 (by decide) ?_
    refine lv_istore_n (lv' := [(3, .int (I 0)), (0, .ref a), (1, .ref b), (2, .int (I lv))]) hx hb dX5_readAll_7 rfl hl (by decide) rfl (fun ls hl => ?_)
    refine lv_aload_n hx hb dX5_readAll_8 rfl (lv_at hl 1 rfl) ?_
    have hp_198 : kd E (ad E a 0) = 3 := ok.pk hO h_a (by decide) k11_0 rfl
    refine ok.getR hO h_a (by decide) k11_0 (by decide) (fun _ _ he hv kk => th_get (ci := 5) (C := RX5) (T := TX5) (N := 1) hx hb hts inX5 hown hK hH he rfl 0 (by decide) fl0 hv dX5_readAll_9 kk) ?_
    refine ok.getIc hO hp_198 (by decide) k3_6 e_193 (fun _ _ he hv kk => th_getN (ci := 8) (C := RX8) (T := TX8) (N := 9) hx hb hts inX8 hown hK hH he rfl 6 (by decide) (nl_5 hK) hv dX5_readAll_12 kk) ?_
    refine lv_bipush (v := I 38) hx hb dX5_readAll_15 (by decide) ?_
    refine lv_icmp_ne (tgt := 52) hx hb dX5_readAll_17 (by decide) (fun _ => ?_) (fun c_199 => absurd c_199 (by decide))
    exact th_vret hx hb hr hlocks hH hS ⟨hO, hF, ⟨fc, jt, hT_190, fun _ => ⟨rfl, rfl⟩, fun h9 => absurd h9 h0_1, fun h9 => absurd h9 h0_1, by omega⟩⟩ dX5_readAll_52

set_option maxHeartbeats 20000000 in
set_option maxRecDepth 100000 in
theorem s6_readCond (n : Nat) (ih : ∀ (l : Launch) (G : va_G) (y : Nat → ClassId) (b0 : Nat) (σ : th_M) (E : th_E) (hO : ok y E σ) (a : Nat) (h_a : kd E a = 11) (b : Nat) (h_b : kd E b = 4) (lv : Int) (rlv : rng lv) (l_lv : 0 ≤ lv) (u_lv : lv ≤ 5) (T : tkT) (fc jt : Int) (hT0 : TSt E σ (ad E a 0) T fc jt) (hy0 : fc = 0 → 0 ≤ gI σ b 13 ∧ gI σ b 13 ≤ 12) (hn : (5 - lv).toNat < n), Met l yX5_readAtom wsX5_readAtom ({ frames := 6*n+8, cells := 0, slots := 0, locals := (200*n+600) }) (th_P G y b0 σ [.ref a, .ref b, .int (I lv)]) (th_Qv G b0 (fun σ1 => ok y E σ1 ∧ fr [3, 4] E σ σ1 ∧ (∃ c1 j1, TSt E σ1 (ad E a 0) T c1 j1 ∧ (fc ≠ 0 → c1 = fc ∧ j1 = jt) ∧ (fc = 0 → jt ≤ j1 ∧ (c1 = 0 → jt < j1) ∧ GS T [(1, lv)] jt (gI σ b 13) [] c1 j1 (gI σ1 b 13)) ∧ (c1 = 0 → 0 ≤ gI σ1 b 13 ∧ gI σ1 b 13 ≤ 12) ∧ gI σ1 b 3 = gI σ b 3))) 0 0 (th_A b0)) (l : Launch) (G : va_G) (y : Nat → ClassId) (b0 : Nat) (σ : th_M) (E : th_E) (hO : ok y E σ) (a : Nat) (h_a : kd E a = 11) (b : Nat) (h_b : kd E b = 4) (lv : Int) (rlv : rng lv) (l_lv : 0 ≤ lv) (u_lv : lv ≤ 5) (T : tkT) (fc jt : Int) (hT0 : TSt E σ (ad E a 0) T fc jt) (hy0 : (5 - lv).toNat < n) (hy1 : fc = 0 → 0 ≤ gI σ b 13 ∧ gI σ b 13 ≤ 12) : Met l yX5_readCond wsX5_readCond ({ frames := 6*n+12, cells := 0, slots := 0, locals := (200*n+700) }) (th_P G y b0 σ [.ref a, .ref b, .int (I lv)]) (th_Qv G b0 (fun σ1 => ok y E σ1 ∧ fr [3, 4] E σ σ1 ∧ (∃ c1 j1, TSt E σ1 (ad E a 0) T c1 j1 ∧ (fc ≠ 0 → c1 = fc ∧ j1 = jt) ∧ (fc = 0 → jt ≤ j1 ∧ (c1 = 0 → jt < j1) ∧ GS T [(2, lv)] jt (gI σ b 13) [] c1 j1 (gI σ1 b 13)) ∧ (c1 = 0 → 0 ≤ gI σ1 b 13 ∧ gI σ1 b 13 ≤ 12) ∧ gI σ1 b 3 = gI σ b 3))) 0 0 (th_A b0) := by
  refine Met.ofW (cc := cX5_readCond) (maxL := 4) (ret := none) (by decide) rfl ?_
  intro p e s m args below meth c s₁ B hml hv
  obtain ⟨rfl, hH, hK⟩ := hv
  have hx := B.exec
  have hb := B.bytes
  have hr := B.returns
  have hts := atoms_spec (ws := wsX5_readCond) B.pre
  have hown : s.vm.findClass RX5 = some m.cls := findClass_of_methodNamed B.named
  have hlocks := B.notSynchronized
  have h00 : b0 ≤ s.heap.size := hH.1
  have hS : va_S (th_A b0) s.heap s.heap [] := va_S.rf
  have hF : fr [3, 4] E σ σ := fr.rf
  have inX5 : ∀ w ∈ wsX50, w ∈ wsX5_readCond := by decide +kernel
  have inX8 : ∀ w ∈ wsX80, w ∈ wsX5_readCond := by decide +kernel
  have fl0 := hts (.fieldLink RX5 9 "NestQuery$PathReader" "tokens" "LNestQuery$Tokens;") (by decide +kernel)
  have hl := lv_entry ([.ref a, .ref b, .int (I lv)]) (n := 4) (Nat.le_of_ble_eq_true rfl)
  rw [lg_entry_eq]
  generalize (lg_sl ([.ref a, .ref b, .int (I lv)]) ++ List.replicate (4 - (lg_sl ([.ref a, .ref b, .int (I lv)])).length) Slot.unset).toArray = ls at hl ⊢
  have hl : lv_has ls 4 [(0, .ref a), (1, .ref b), (2, .int (I lv))] := hl
  obtain ⟨b30, eb30, rb30, lb30, ub30⟩ := hO.gi h_b (by decide) k4_3
  obtain ⟨b130, eb130, rb130, lb130, ub130⟩ := hO.gi h_b (by decide) k4_13
  have hU0 := hT0.2.2
  have hkt : kd E (ad E a 0) = 3 := ok.pk hO h_a (by decide) k11_0 rfl
  rcases Classical.em (fc = 0) with h0_1 | h0_1
  · subst h0_1
    try simp only [ne_eq, not_true_eq_false, not_false_eq_true, false_implies, true_implies, true_and, and_true, eq_self, false_or, or_false, false_and, and_false] at hU0
    have e_2 : gI σ (ad E a 0) 7 = 0 := by omega
    have hk_3 : gI σ (ad E a 0) 6 = tK T jt := by omega
    have hG_4 := GS.start (T := T) (e := [(2, lv)]) (j := jt) (t := gI σ b 13)
    have hG_5 := hG_4.cond
    refine lv_aload_n hx hb dX5_readCond_0 rfl (lv_at hl 0 rfl) ?_
    refine lv_aload_n hx hb dX5_readCond_1 rfl (lv_at hl 1 rfl) ?_
    refine lv_iload_n hx hb dX5_readCond_2 rfl (lv_at hl 2 rfl) ?_
    obtain ⟨_, hc_6⟩ := hO.cell h_a (by decide) (ci := 5) rfl
    refine th_callv (va_runV (As := [.ref b, .int (I lv)]) (rest := []) ⟨hx, hb, hml, hown, hts⟩ (s6_readAll n ih l G y b0 σ E hO a h_a b h_b lv (show rng lv from rlv) (by omega) (by omega) T 0 jt hT0 (by omega) (by omega)) (cwV 2 hts gX5_readCond_X5_readAll rfl rfl rfl (by decide +kernel) ⟨(by first | (simp only [headSpec]; omega) | omega | (dsimp only; omega)), (by first | (simp only [headSpec]; omega) | omega | (dsimp only; omega))⟩) (th_PV hK hH rfl hc_6) rfl rfl hl.1 rfl (lv_room (Nat.le_of_ble_eq_true rfl)) dX5_readCond_3 ⟨(by first | (simp only [headSpec]; omega) | omega | (dsimp only; omega)), (by first | (simp only [headSpec]; omega) | omega | (dsimp only; omega))⟩) hS (fun σ_s_8 H locs hw_7 hH hS => ?_)
    obtain ⟨hO9, hF9, hw_7⟩ := hw_7
    replace hO := hO9
    replace hF := hF.tu hF9 (by decide)
    replace hw_7 : ∃ c1 j1, TSt E σ_s_8 (ad E a 0) T c1 j1 ∧ ((0 : Int) ≠ 0 → c1 = 0 ∧ j1 = jt) ∧ ((0 : Int) = 0 → jt ≤ j1 ∧ (c1 = 0 → jt < j1) ∧ GS T [(3, lv)] jt (gI σ b 13) [] c1 j1 (gI σ_s_8 b 13)) ∧ (c1 = 0 → 0 ≤ gI σ_s_8 b 13 ∧ gI σ_s_8 b 13 ≤ 12) ∧ gI σ_s_8 b 3 = gI σ b 3 := hw_7
    obtain ⟨cc_9, jj_10, hT_11, hw_7⟩ := hw_7
    have hUhT_11 := hT_11.2.2
    try replace hU0 := hid.mk hU0
    obtain ⟨z_12, e_13, rz_12, lz_12, uz_12⟩ := hO.gi h_b (by decide) k4_3
    obtain ⟨z_14, e_15, rz_14, lz_14, uz_14⟩ := hO.gi h_b (by decide) k4_13
    rcases Classical.em (cc_9 = 0) with h0_16 | h0_16
    · subst h0_16
      try simp only [ne_eq, not_true_eq_false, not_false_eq_true, false_implies, true_implies, true_and, and_true, eq_self, false_or, or_false, false_and, and_false] at hUhT_11
      have e_17 : gI σ_s_8 (ad E a 0) 7 = 0 := by omega
      have hk_18 : gI σ_s_8 (ad E a 0) 6 = tK T jj_10 := by omega
      have hG_19 := hG_5.call (c2 := 0) (j2 := jj_10) (t2 := gI σ_s_8 b 13) (fun _ => GS.cg1 (hw_7.2.1 rfl).2.2 (by omega) rfl (by omega)) (fun h9 => absurd rfl h9)
      have hqhw_7 := (hw_7.2.1 rfl).1
      have hQhw_7 := (hw_7.2.1 rfl).2.1
      have hRhw_7 := hw_7.2.2
      try replace hw_7 := hid.mk hw_7
      refine lv_iconst (v := I 0) hx hb dX5_readCond_6 (by decide) ?_
      refine lv_istore_n (lv' := [(3, .int (I 0)), (0, .ref a), (1, .ref b), (2, .int (I lv))]) hx hb dX5_readCond_7 rfl hl (by decide) rfl (fun ls hl => ?_)
      refine th_loop (α := Int × Int) (pc := 8) (fun x9 => (tm T - x9.2).toNat) (fun x9 σ9 H9 l9 ls9 => ok y E σ9 ∧ fr [3, 4] E σ σ9 ∧ th_H G b0 σ9 H9 ∧ va_S (th_A b0) s.heap H9 l9 ∧ lv_has ls9 4 [(0, .ref a), (1, .ref b), (2, .int (I lv)), (3, .int (I x9.1))] ∧ rng x9.1 ∧ (0 ≤ x9.1) ∧ (x9.1 ≤ 400) ∧ (x9.1 ≤ x9.2) ∧ (jt ≤ x9.2) ∧ (jt < x9.2) ∧ (gI σ9 b 3 = gI σ b 3) ∧ (0 ≤ gI σ9 b 13 ∧ gI σ9 b 13 ≤ 12) ∧ (TSt E σ9 (ad E a 0) T 0 x9.2) ∧ (GS T [(2, lv)] jt (gI σ b 13) [(6, lv)] 0 x9.2 (gI σ9 b 13))) ?_ (0, jj_10) σ_s_8 _ _ _ ⟨hO, hF, hH, hS, lv_sub hl [1, 2, 3, 0] rfl, (show rng 0 from ⟨by decide, by decide⟩), by first | (dsimp only; omega) | omega, by first | (dsimp only; omega) | omega, by first | (dsimp only; omega) | omega, by first | (dsimp only; omega) | omega, by first | (dsimp only; omega) | omega, by first | (dsimp only; omega) | omega, by first | (dsimp only; omega) | omega, hT_11, (hG_19.ec rfl rfl (fun _ => by omega))⟩
      intro x9 σ_J_120 H locs ls hI9 ihJ_120
      obtain ⟨v3q119, jqq118⟩ := x9
      obtain ⟨hO, hF, hH, hS, hl, rv3q119, J_120_0, J_120_1, J_120_2, J_120_3, J_120_4, J_120_5, J_120_6, J_120_7, J_120_8⟩ := hI9
      replace hl : lv_has ls 4 [(0, .ref a), (1, .ref b), (2, .int (I lv)), (3, .int (I v3q119))] := hl
      replace rv3q119 : rng v3q119 := rv3q119
      replace J_120_0 : 0 ≤ v3q119 := J_120_0
      replace J_120_1 : v3q119 ≤ 400 := J_120_1
      replace J_120_2 : v3q119 ≤ jqq118 := J_120_2
      replace J_120_3 : jt ≤ jqq118 := J_120_3
      replace J_120_4 : jt < jqq118 := J_120_4
      replace J_120_5 : gI σ_J_120 b 3 = gI σ b 3 := J_120_5
      replace J_120_6 : 0 ≤ gI σ_J_120 b 13 ∧ gI σ_J_120 b 13 ≤ 12 := J_120_6
      replace J_120_7 : TSt E σ_J_120 (ad E a 0) T 0 jqq118 := J_120_7
      replace J_120_8 : GS T [(2, lv)] jt (gI σ b 13) [(6, lv)] 0 jqq118 (gI σ_J_120 b 13) := J_120_8
      try replace hUhT_11 := hid.mk hUhT_11
      try replace hw_7 := hid.mk hw_7
      have hUJ_120_7 := J_120_7.2.2
      have hfJ_120_7 := J_120_7.2.1 jqq118 (by have h9 := hUJ_120_7; omega) (by have h9 := hUJ_120_7; omega)
      try simp only [ne_eq, not_true_eq_false, not_false_eq_true, false_implies, true_implies, true_and, and_true, eq_self, false_or, or_false, false_and, and_false] at hUJ_120_7
      have e_121 : gI σ_J_120 (ad E a 0) 7 = 0 := by omega
      have hk_122 : gI σ_J_120 (ad E a 0) 6 = tK T jqq118 := by omega
      obtain ⟨z_123, e_124, rz_123, lz_123, uz_123⟩ := hO.gi h_b (by decide) k4_3
      obtain ⟨z_125, e_126, rz_125, lz_125, uz_125⟩ := hO.gi h_b (by decide) k4_13
      refine lv_aload_n hx hb dX5_readCond_8 rfl (lv_at hl 0 rfl) ?_
      have hp_127 : kd E (ad E a 0) = 3 := ok.pk hO h_a (by decide) k11_0 rfl
      refine ok.getR hO h_a (by decide) k11_0 (by decide) (fun _ _ he hv kk => th_get (ci := 5) (C := RX5) (T := TX5) (N := 1) hx hb hts inX5 hown hK hH he rfl 0 (by decide) fl0 hv dX5_readCond_9 kk) ?_
      refine ok.getI hO hp_127 (by decide) k3_6 (fun _ _ he hv kk => th_getN (ci := 8) (C := RX8) (T := TX8) (N := 9) hx hb hts inX8 hown hK hH he rfl 6 (by decide) (nl_5 hK) hv dX5_readCond_12 kk) (fun z_128 e_129 rz_128 lz_128 uz_128 => ?_)
      refine lv_bipush (v := I 124) hx hb dX5_readCond_15 (by decide) ?_
      refine lv_icmp_ne (tgt := 52) hx hb dX5_readCond_17 (by decide) (fun c_130 => ?_) (fun c_130 => ?_)
      · replace c_130 := mt (I_eq (a := z_128) (b := 124) rz_128 (show rng 124 from ⟨by decide, by decide⟩)).mpr c_130
        have hG_131 := J_120_8.orE (fun _ => by omega)
        exact th_vret hx hb hr hlocks hH hS ⟨hO, hF, ⟨0, jqq118, J_120_7, (fun h9 => absurd rfl h9), fun _ => ⟨by omega, by omega, hG_131.ec rfl rfl (fun _ => by omega)⟩, by omega, by omega⟩⟩ dX5_readCond_52
      · replace c_130 := (I_eq (a := z_128) (b := 124) rz_128 (show rng 124 from ⟨by decide, by decide⟩)).mp c_130
        refine lv_iload_n hx hb dX5_readCond_20 rfl (lv_at hl 3 rfl) ?_
        refine lv_sipush (v := I 400) hx hb dX5_readCond_21 (by decide) ?_
        refine lv_icmp_ge (tgt := 52) hx hb dX5_readCond_24 (by decide) (fun c_132 => ?_) (fun c_132 => ?_)
        · replace c_132 := (I_le (a := 400) (b := v3q119) (show rng 400 from ⟨by decide, by decide⟩) rv3q119).mp c_132
          exfalso; omega
        · replace c_132 := mt (I_le (a := 400) (b := v3q119) (show rng 400 from ⟨by decide, by decide⟩) rv3q119).mpr c_132
          refine lv_aload_n hx hb dX5_readCond_27 rfl (lv_at hl 0 rfl) ?_
          refine ok.getR hO h_a (by decide) k11_0 (by decide) (fun _ _ he hv kk => th_get (ci := 5) (C := RX5) (T := TX5) (N := 1) hx hb hts inX5 hown hK hH he rfl 0 (by decide) fl0 hv dX5_readCond_28 kk) ?_
          obtain ⟨_, hc_133⟩ := hO.cell hp_127 (by decide) (ci := 8) rfl
          refine th_callv (va_runV (As := []) (rest := []) ⟨hx, hb, hml, hown, hts⟩ (f_step l G y b0 σ_J_120 E hO (ad E a 0) hp_127 T 0 jqq118 J_120_7) (cwV 0 hts gX5_readCond_X8_step rfl rfl rfl (by decide +kernel) ⟨(by first | (simp only [headSpec]; omega) | omega | (dsimp only; omega)), (by first | (simp only [headSpec]; omega) | omega | (dsimp only; omega))⟩) (th_PV hK hH rfl hc_133) rfl rfl hl.1 rfl (lv_room (Nat.le_of_ble_eq_true rfl)) dX5_readCond_31 ⟨(by first | (simp only [headSpec]; omega) | omega | (dsimp only; omega)), (by first | (simp only [headSpec]; omega) | omega | (dsimp only; omega))⟩) hS (fun σ_s_135 H locs hw_134 hH hS => ?_)
          obtain ⟨hO9, hF9, hw_134⟩ := hw_134
          have e_136 : gI σ_s_135 b 3 = z_123 := (fr.ki hO hF9 h_b (by decide) (by decide) _).trans e_124
          have e_137 : gI σ_s_135 b 13 = z_125 := (fr.ki hO hF9 h_b (by decide) (by decide) _).trans e_126
          replace hO := hO9
          replace hF := hF.tu hF9 (by decide)
          replace hw_134 : ∃ c1 j1, TSt E σ_s_135 (ad E a 0) T c1 j1 ∧ c1 = 0 ∧ ((0 : Int) ≠ 0 → j1 = jqq118) ∧ ((0 : Int) = 0 → tK T jqq118 ≠ 259 → j1 = jqq118 + 1) := hw_134
          obtain ⟨cc_138, jj_139, hT_140, hw_134⟩ := hw_134
          have hUhT_140 := hT_140.2.2
          try replace hUJ_120_7 := hid.mk hUJ_120_7
          have h0_141 : cc_138 = 0 := by omega
          subst h0_141
          try simp only [ne_eq, not_true_eq_false, not_false_eq_true, false_implies, true_implies, true_and, and_true, eq_self, false_or, or_false, false_and, and_false] at hUhT_140
          have e_142 : gI σ_s_135 (ad E a 0) 7 = 0 := by omega
          have hk_143 : gI σ_s_135 (ad E a 0) 6 = tK T jj_139 := by omega
          have hj_144 : jqq118 + 1 = jj_139 := by omega
          subst hj_144
          have hG_145 := J_120_8.or (by omega)
          refine lv_aload_n hx hb dX5_readCond_34 rfl (lv_at hl 0 rfl) ?_
          refine lv_aload_n hx hb dX5_readCond_35 rfl (lv_at hl 1 rfl) ?_
          refine lv_iload_n hx hb dX5_readCond_36 rfl (lv_at hl 2 rfl) ?_
          obtain ⟨_, hc_146⟩ := hO.cell h_a (by decide) (ci := 5) rfl
          refine th_callv (va_runV (As := [.ref b, .int (I lv)]) (rest := []) ⟨hx, hb, hml, hown, hts⟩ (s6_readAll n ih l G y b0 σ_s_135 E hO a h_a b h_b lv (show rng lv from rlv) (by omega) (by omega) T 0 (jqq118 + 1) hT_140 (by omega) (by omega)) (cwV 2 hts gX5_readCond_X5_readAll rfl rfl rfl (by decide +kernel) ⟨(by first | (simp only [headSpec]; omega) | omega | (dsimp only; omega)), (by first | (simp only [headSpec]; omega) | omega | (dsimp only; omega))⟩) (th_PV hK hH rfl hc_146) rfl rfl hl.1 rfl (lv_room (Nat.le_of_ble_eq_true rfl)) dX5_readCond_37 ⟨(by first | (simp only [headSpec]; omega) | omega | (dsimp only; omega)), (by first | (simp only [headSpec]; omega) | omega | (dsimp only; omega))⟩) hS (fun σ_s_148 H locs hw_147 hH hS => ?_)
          obtain ⟨hO9, hF9, hw_147⟩ := hw_147
          replace hO := hO9
          replace hF := hF.tu hF9 (by decide)
          replace hw_147 : ∃ c1 j1, TSt E σ_s_148 (ad E a 0) T c1 j1 ∧ ((0 : Int) ≠ 0 → c1 = 0 ∧ j1 = (jqq118 + 1)) ∧ ((0 : Int) = 0 → (jqq118 + 1) ≤ j1 ∧ (c1 = 0 → (jqq118 + 1) < j1) ∧ GS T [(3, lv)] (jqq118 + 1) (gI σ_s_135 b 13) [] c1 j1 (gI σ_s_148 b 13)) ∧ (c1 = 0 → 0 ≤ gI σ_s_148 b 13 ∧ gI σ_s_148 b 13 ≤ 12) ∧ gI σ_s_148 b 3 = gI σ_s_135 b 3 := hw_147
          obtain ⟨cc_149, jj_150, hT_151, hw_147⟩ := hw_147
          have hUhT_151 := hT_151.2.2
          try replace hUhT_140 := hid.mk hUhT_140
          try replace hw_134 := hid.mk hw_134
          obtain ⟨z_152, e_153, rz_152, lz_152, uz_152⟩ := hO.gi h_b (by decide) k4_3
          obtain ⟨z_154, e_155, rz_154, lz_154, uz_154⟩ := hO.gi h_b (by decide) k4_13
          rcases Classical.em (cc_149 = 0) with h0_156 | h0_156
          · subst h0_156
            try simp only [ne_eq, not_true_eq_false, not_false_eq_true, false_implies, true_implies, true_and, and_true, eq_self, false_or, or_false, false_and, and_false] at hUhT_151
            have e_157 : gI σ_s_148 (ad E a 0) 7 = 0 := by omega
            have hk_158 : gI σ_s_148 (ad E a 0) 6 = tK T jj_150 := by omega
            have hG_159 := hG_145.call (c2 := 0) (j2 := jj_150) (t2 := gI σ_s_148 b 13) (fun _ => GS.cg1 (hw_147.2.1 rfl).2.2 (by omega) rfl (by omega)) (fun h9 => absurd rfl h9)
            have hqhw_147 := (hw_147.2.1 rfl).1
            have hQhw_147 := (hw_147.2.1 rfl).2.1
            have hRhw_147 := hw_147.2.2
            try replace hw_147 := hid.mk hw_147
            refine lv_aload_n hx hb dX5_readCond_40 rfl (lv_at hl 1 rfl) ?_
            refine lv_bipush (v := I (-3)) hx hb dX5_readCond_41 (by decide) ?_
            obtain ⟨_, hc_160⟩ := hO.cell h_b (by decide) (ci := 4) rfl
            refine th_callv (va_runV (As := [.int (I (-3))]) (rest := []) ⟨hx, hb, hml, hown, hts⟩ (p6_addCode l G y b0 σ_s_148 E hO b h_b (-3) (show rng (-3) from (show rng (-3) from ⟨by decide, by decide⟩))) (cwV 1 hts gX5_readCond_X4_addCode rfl rfl rfl (by decide +kernel) ⟨(by first | (simp only [headSpec]; omega) | omega | (dsimp only; omega)), (by first | (simp only [headSpec]; omega) | omega | (dsimp only; omega))⟩) (th_PV hK hH rfl hc_160) rfl rfl hl.1 rfl (lv_room (Nat.le_of_ble_eq_true rfl)) dX5_readCond_43 ⟨(by first | (simp only [headSpec]; omega) | omega | (dsimp only; omega)), (by first | (simp only [headSpec]; omega) | omega | (dsimp only; omega))⟩) hS (fun σ_s_162 H locs hw_161 hH hS => ?_)
            obtain ⟨hO9, hF9, hw_161⟩ := hw_161
            have e_163 : gI σ_s_162 (ad E a 0) 7 = 0 := (fr.ki hO hF9 hkt (by decide) (by decide) _).trans e_157
            have hT_164 : TSt E σ_s_162 (ad E a 0) T 0 jj_150 := TSt.mv hO hF9 hkt (by decide) hT_151
            have hUhT_164 := hT_164.2.2
            replace hO := hO9
            replace hF := hF.tu hF9 (by decide)
            replace hw_161 : gI σ_s_162 b 13 = gI σ_s_148 b 13 ∧ gI σ_s_162 b 3 = gI σ_s_148 b 3 := hw_161
            try replace hUhT_151 := hid.mk hUhT_151
            try replace hw_147 := hid.mk hw_147
            try simp only [ne_eq, not_true_eq_false, not_false_eq_true, false_implies, true_implies, true_and, and_true, eq_self, false_or, or_false, false_and, and_false] at hUhT_164
            have e_165 : gI σ_s_162 (ad E a 0) 7 = 0 := by omega
            have hk_166 : gI σ_s_162 (ad E a 0) 6 = tK T jj_150 := by omega
            have e_167 : gI σ_s_162 b 3 = z_152 := by omega
            have e_168 : gI σ_s_162 b 13 = z_154 := by omega
            refine lv_iinc (v := I (v3q119 + 1)) (lv' := [(3, .int (I (v3q119 + 1))), (0, .ref a), (1, .ref b), (2, .int (I lv))]) hx hb dX5_readCond_46 hl (k := 3) rfl (I_add _ _) (by decide) rfl (fun ls hl => ?_)
            refine lv_goto (tgt := 8) hx hb dX5_readCond_49 (by decide) ?_
            exact ihJ_120 (v3q119 + 1, jj_150) σ_s_162 _ _ _ (by first | (dsimp only; omega) | omega) ⟨hO, hF, hH, hS, lv_sub hl [1, 2, 3, 0] rfl, ⟨by first | (dsimp only; omega) | omega, by first | (dsimp only; omega) | omega⟩, by first | (dsimp only; omega) | omega, by first | (dsimp only; omega) | omega, by first | (dsimp only; omega) | omega, by first | (dsimp only; omega) | omega, by first | (dsimp only; omega) | omega, by first | (dsimp only; omega) | omega, by first | (dsimp only; omega) | omega, hT_164, (hG_159.ec rfl rfl (fun _ => by omega))⟩
          · try simp only [h0_156, ne_eq, not_true_eq_false, not_false_eq_true, false_implies, true_implies, true_and, and_true, eq_self, false_or, or_false, false_and, and_false] at hUhT_151
            have e_169 : gI σ_s_148 (ad E a 0) 6 = 260 := by omega
            have hG_170 := hG_145.call (c2 := cc_149) (j2 := jj_150) (t2 := gI σ_s_148 b 13) (fun _ => GS.cg1 (hw_147.2.1 rfl).2.2 (by omega) rfl (by omega)) (fun h9 => absurd rfl h9)
            have hqhw_147 := (hw_147.2.1 rfl).1
            have hQhw_147 := (hw_147.2.1 rfl).2.1
            have hRhw_147 := hw_147.2.2
            try replace hw_147 := hid.mk hw_147
            refine lv_aload_n hx hb dX5_readCond_40 rfl (lv_at hl 1 rfl) ?_
            refine lv_bipush (v := I (-3)) hx hb dX5_readCond_41 (by decide) ?_
            obtain ⟨_, hc_171⟩ := hO.cell h_b (by decide) (ci := 4) rfl
            refine th_callv (va_runV (As := [.int (I (-3))]) (rest := []) ⟨hx, hb, hml, hown, hts⟩ (p6_addCode l G y b0 σ_s_148 E hO b h_b (-3) (show rng (-3) from (show rng (-3) from ⟨by decide, by decide⟩))) (cwV 1 hts gX5_readCond_X4_addCode rfl rfl rfl (by decide +kernel) ⟨(by first | (simp only [headSpec]; omega) | omega | (dsimp only; omega)), (by first | (simp only [headSpec]; omega) | omega | (dsimp only; omega))⟩) (th_PV hK hH rfl hc_171) rfl rfl hl.1 rfl (lv_room (Nat.le_of_ble_eq_true rfl)) dX5_readCond_43 ⟨(by first | (simp only [headSpec]; omega) | omega | (dsimp only; omega)), (by first | (simp only [headSpec]; omega) | omega | (dsimp only; omega))⟩) hS (fun σ_s_173 H locs hw_172 hH hS => ?_)
            obtain ⟨hO9, hF9, hw_172⟩ := hw_172
            have e_174 : gI σ_s_173 (ad E a 0) 6 = 260 := (fr.ki hO hF9 hkt (by decide) (by decide) _).trans e_169
            have hT_175 : TSt E σ_s_173 (ad E a 0) T cc_149 jj_150 := TSt.mv hO hF9 hkt (by decide) hT_151
            have hUhT_175 := hT_175.2.2
            replace hO := hO9
            replace hF := hF.tu hF9 (by decide)
            replace hw_172 : gI σ_s_173 b 13 = gI σ_s_148 b 13 ∧ gI σ_s_173 b 3 = gI σ_s_148 b 3 := hw_172
            try replace hUhT_151 := hid.mk hUhT_151
            try replace hw_147 := hid.mk hw_147
            try simp only [h0_156, ne_eq, not_true_eq_false, not_false_eq_true, false_implies, true_implies, true_and, and_true, eq_self, false_or, or_false, false_and, and_false] at hUhT_175
            have e_176 : gI σ_s_173 (ad E a 0) 6 = 260 := by omega
            have e_177 : gI σ_s_173 b 3 = z_152 := by omega
            have e_178 : gI σ_s_173 b 13 = z_154 := by omega
            refine lv_iinc (v := I (v3q119 + 1)) (lv' := [(3, .int (I (v3q119 + 1))), (0, .ref a), (1, .ref b), (2, .int (I lv))]) hx hb dX5_readCond_46 hl (k := 3) rfl (I_add _ _) (by decide) rfl (fun ls hl => ?_)
            refine lv_goto (tgt := 8) hx hb dX5_readCond_49 (by decide) ?_
            refine lv_aload_n hx hb dX5_readCond_8 rfl (lv_at hl 1 rfl) ?_
            refine ok.getR hO h_a (by decide) k11_0 (by decide) (fun _ _ he hv kk => th_get (ci := 5) (C := RX5) (T := TX5) (N := 1) hx hb hts inX5 hown hK hH he rfl 0 (by decide) fl0 hv dX5_readCond_9 kk) ?_
            refine ok.getIc hO hp_127 (by decide) k3_6 e_176 (fun _ _ he hv kk => th_getN (ci := 8) (C := RX8) (T := TX8) (N := 9) hx hb hts inX8 hown hK hH he rfl 6 (by decide) (nl_5 hK) hv dX5_readCond_12 kk) ?_
            refine lv_bipush (v := I 124) hx hb dX5_readCond_15 (by decide) ?_
            refine lv_icmp_ne (tgt := 52) hx hb dX5_readCond_17 (by decide) (fun _ => ?_) (fun c_179 => absurd c_179 (by decide))
            exact th_vret hx hb hr hlocks hH hS ⟨hO, hF, ⟨cc_149, jj_150, hT_175, (fun h9 => absurd rfl h9), fun _ => ⟨by omega, fun h9 => absurd h9 h0_156, hG_170.was h0_156⟩, fun h9 => absurd h9 h0_156, by omega⟩⟩ dX5_readCond_52
    · try simp only [h0_16, ne_eq, not_true_eq_false, not_false_eq_true, false_implies, true_implies, true_and, and_true, eq_self, false_or, or_false, false_and, and_false] at hUhT_11
      have e_180 : gI σ_s_8 (ad E a 0) 6 = 260 := by omega
      have hG_181 := hG_5.call (c2 := cc_9) (j2 := jj_10) (t2 := gI σ_s_8 b 13) (fun _ => GS.cg1 (hw_7.2.1 rfl).2.2 (by omega) rfl (by omega)) (fun h9 => absurd rfl h9)
      have hqhw_7 := (hw_7.2.1 rfl).1
      have hQhw_7 := (hw_7.2.1 rfl).2.1
      have hRhw_7 := hw_7.2.2
      try replace hw_7 := hid.mk hw_7
      refine lv_iconst (v := I 0) hx hb dX5_readCond_6 (by decide) ?_
      refine lv_istore_n (lv' := [(3, .int (I 0)), (0, .ref a), (1, .ref b), (2, .int (I lv))]) hx hb dX5_readCond_7 rfl hl (by decide) rfl (fun ls hl => ?_)
      refine lv_aload_n hx hb dX5_readCond_8 rfl (lv_at hl 1 rfl) ?_
      have hp_182 : kd E (ad E a 0) = 3 := ok.pk hO h_a (by decide) k11_0 rfl
      refine ok.getR hO h_a (by decide) k11_0 (by decide) (fun _ _ he hv kk => th_get (ci := 5) (C := RX5) (T := TX5) (N := 1) hx hb hts inX5 hown hK hH he rfl 0 (by decide) fl0 hv dX5_readCond_9 kk) ?_
      refine ok.getIc hO hp_182 (by decide) k3_6 e_180 (fun _ _ he hv kk => th_getN (ci := 8) (C := RX8) (T := TX8) (N := 9) hx hb hts inX8 hown hK hH he rfl 6 (by decide) (nl_5 hK) hv dX5_readCond_12 kk) ?_
      refine lv_bipush (v := I 124) hx hb dX5_readCond_15 (by decide) ?_
      refine lv_icmp_ne (tgt := 52) hx hb dX5_readCond_17 (by decide) (fun _ => ?_) (fun c_183 => absurd c_183 (by decide))
      exact th_vret hx hb hr hlocks hH hS ⟨hO, hF, ⟨cc_9, jj_10, hT_11, (fun h9 => absurd rfl h9), fun _ => ⟨by omega, fun h9 => absurd h9 h0_16, hG_181.was h0_16⟩, fun h9 => absurd h9 h0_16, by omega⟩⟩ dX5_readCond_52
  · try simp only [h0_1, ne_eq, not_true_eq_false, not_false_eq_true, false_implies, true_implies, true_and, and_true, eq_self, false_or, or_false, false_and, and_false] at hU0
    have e_184 : gI σ (ad E a 0) 6 = 260 := by omega
    refine lv_aload_n hx hb dX5_readCond_0 rfl (lv_at hl 0 rfl) ?_
    refine lv_aload_n hx hb dX5_readCond_1 rfl (lv_at hl 1 rfl) ?_
    refine lv_iload_n hx hb dX5_readCond_2 rfl (lv_at hl 2 rfl) ?_
    obtain ⟨_, hc_185⟩ := hO.cell h_a (by decide) (ci := 5) rfl
    refine th_callv (va_runV (As := [.ref b, .int (I lv)]) (rest := []) ⟨hx, hb, hml, hown, hts⟩ (s6_readAll n ih l G y b0 σ E hO a h_a b h_b lv (show rng lv from rlv) (by omega) (by omega) T fc jt hT0 (by omega) (by omega)) (cwV 2 hts gX5_readCond_X5_readAll rfl rfl rfl (by decide +kernel) ⟨(by first | (simp only [headSpec]; omega) | omega | (dsimp only; omega)), (by first | (simp only [headSpec]; omega) | omega | (dsimp only; omega))⟩) (th_PV hK hH rfl hc_185) rfl rfl hl.1 rfl (lv_room (Nat.le_of_ble_eq_true rfl)) dX5_readCond_3 ⟨(by first | (simp only [headSpec]; omega) | omega | (dsimp only; omega)), (by first | (simp only [headSpec]; omega) | omega | (dsimp only; omega))⟩) hS (fun σ_s_187 H locs hw_186 hH hS => ?_)
    obtain ⟨hO9, hF9, hw_186⟩ := hw_186
    replace hO := hO9
    replace hF := hF.tu hF9 (by decide)
    replace hw_186 : ∃ c1 j1, TSt E σ_s_187 (ad E a 0) T c1 j1 ∧ (fc ≠ 0 → c1 = fc ∧ j1 = jt) ∧ (fc = 0 → jt ≤ j1 ∧ (c1 = 0 → jt < j1) ∧ GS T [(3, lv)] jt (gI σ b 13) [] c1 j1 (gI σ_s_187 b 13)) ∧ (c1 = 0 → 0 ≤ gI σ_s_187 b 13 ∧ gI σ_s_187 b 13 ≤ 12) ∧ gI σ_s_187 b 3 = gI σ b 3 := hw_186
    obtain ⟨cc_188, jj_189, hT_190, hw_186⟩ := hw_186
    have hUhT_190 := hT_190.2.2
    try replace hU0 := hid.mk hU0
    have hc_191 : fc = cc_188 := by omega
    subst hc_191
    have hc_192 : jt = jj_189 := by omega
    subst hc_192
    try simp only [h0_1, ne_eq, not_true_eq_false, not_false_eq_true, false_implies, true_implies, true_and, and_true, eq_self, false_or, or_false, false_and, and_false] at hUhT_190
    have e_193 : gI σ_s_187 (ad E a 0) 6 = 260 := by omega
    obtain ⟨z_194, e_195, rz_194, lz_194, uz_194⟩ := hO.gi h_b (by decide) k4_3
    obtain ⟨z_196, e_197, rz_196, lz_196, uz_196⟩ := hO.gi h_b (by decide) k4_13
    refine lv_iconst (v := I 0) hx hb dX5_readCond_6 (by decide) ?_
    refine lv_istore_n (lv' := [(3, .int (I 0)), (0, .ref a), (1, .ref b), (2, .int (I lv))]) hx hb dX5_readCond_7 rfl hl (by decide) rfl (fun ls hl => ?_)
    refine lv_aload_n hx hb dX5_readCond_8 rfl (lv_at hl 1 rfl) ?_
    have hp_198 : kd E (ad E a 0) = 3 := ok.pk hO h_a (by decide) k11_0 rfl
    refine ok.getR hO h_a (by decide) k11_0 (by decide) (fun _ _ he hv kk => th_get (ci := 5) (C := RX5) (T := TX5) (N := 1) hx hb hts inX5 hown hK hH he rfl 0 (by decide) fl0 hv dX5_readCond_9 kk) ?_
    refine ok.getIc hO hp_198 (by decide) k3_6 e_193 (fun _ _ he hv kk => th_getN (ci := 8) (C := RX8) (T := TX8) (N := 9) hx hb hts inX8 hown hK hH he rfl 6 (by decide) (nl_5 hK) hv dX5_readCond_12 kk) ?_
    refine lv_bipush (v := I 124) hx hb dX5_readCond_15 (by decide) ?_
    refine lv_icmp_ne (tgt := 52) hx hb dX5_readCond_17 (by decide) (fun _ => ?_) (fun c_199 => absurd c_199 (by decide))
    exact th_vret hx hb hr hlocks hH hS ⟨hO, hF, ⟨fc, jt, hT_190, fun _ => ⟨rfl, rfl⟩, fun h9 => absurd h9 h0_1, fun h9 => absurd h9 h0_1, by omega⟩⟩ dX5_readCond_52

set_option maxHeartbeats 20000000 in
set_option maxRecDepth 100000 in
theorem s6_readAtom (n : Nat) : ∀ (l : Launch) (G : va_G) (y : Nat → ClassId) (b0 : Nat) (σ : th_M) (E : th_E) (hO : ok y E σ) (a : Nat) (h_a : kd E a = 11) (b : Nat) (h_b : kd E b = 4) (lv : Int) (rlv : rng lv) (l_lv : 0 ≤ lv) (u_lv : lv ≤ 5) (T : tkT) (fc jt : Int) (hT0 : TSt E σ (ad E a 0) T fc jt) (hy0 : fc = 0 → 0 ≤ gI σ b 13 ∧ gI σ b 13 ≤ 12) (hn : (5 - lv).toNat < n), Met l yX5_readAtom wsX5_readAtom ({ frames := 6*n+8, cells := 0, slots := 0, locals := (200*n+600) }) (th_P G y b0 σ [.ref a, .ref b, .int (I lv)]) (th_Qv G b0 (fun σ1 => ok y E σ1 ∧ fr [3, 4] E σ σ1 ∧ (∃ c1 j1, TSt E σ1 (ad E a 0) T c1 j1 ∧ (fc ≠ 0 → c1 = fc ∧ j1 = jt) ∧ (fc = 0 → jt ≤ j1 ∧ (c1 = 0 → jt < j1) ∧ GS T [(1, lv)] jt (gI σ b 13) [] c1 j1 (gI σ1 b 13)) ∧ (c1 = 0 → 0 ≤ gI σ1 b 13 ∧ gI σ1 b 13 ≤ 12) ∧ gI σ1 b 3 = gI σ b 3))) 0 0 (th_A b0) := by
  induction n with
  | zero => intro l G y b0 σ E hO a h_a b h_b lv rlv l_lv u_lv T fc jt hT0 hy0 hn; exact absurd hn (Nat.not_lt_zero _)
  | succ n ih =>
    intro l G y b0 σ E hO a h_a b h_b lv rlv l_lv u_lv T fc jt hT0 hy0 hn
    refine Met.ofW (cc := cX5_readAtom) (maxL := 4) (ret := none) (by decide) rfl ?_
    intro p e s m args below meth c s₁ B hml hv
    obtain ⟨rfl, hH, hK⟩ := hv
    have hx := B.exec
    have hb := B.bytes
    have hr := B.returns
    have hts := atoms_spec (ws := wsX5_readAtom) B.pre
    have hown : s.vm.findClass RX5 = some m.cls := findClass_of_methodNamed B.named
    have hlocks := B.notSynchronized
    have h00 : b0 ≤ s.heap.size := hH.1
    have hS : va_S (th_A b0) s.heap s.heap [] := va_S.rf
    have hF : fr [3, 4] E σ σ := fr.rf
    have inX4 : ∀ w ∈ wsX40, w ∈ wsX5_readAtom := by decide +kernel
    have inX5 : ∀ w ∈ wsX50, w ∈ wsX5_readAtom := by decide +kernel
    have inX8 : ∀ w ∈ wsX80, w ∈ wsX5_readAtom := by decide +kernel
    have fl0 := hts (.fieldLink RX5 9 "NestQuery$PathReader" "tokens" "LNestQuery$Tokens;") (by decide +kernel)
    have hl := lv_entry ([.ref a, .ref b, .int (I lv)]) (n := 4) (Nat.le_of_ble_eq_true rfl)
    rw [lg_entry_eq]
    generalize (lg_sl ([.ref a, .ref b, .int (I lv)]) ++ List.replicate (4 - (lg_sl ([.ref a, .ref b, .int (I lv)])).length) Slot.unset).toArray = ls at hl ⊢
    have hl : lv_has ls 4 [(0, .ref a), (1, .ref b), (2, .int (I lv))] := hl
    obtain ⟨b30, eb30, rb30, lb30, ub30⟩ := hO.gi h_b (by decide) k4_3
    obtain ⟨b130, eb130, rb130, lb130, ub130⟩ := hO.gi h_b (by decide) k4_13
    have hU0 := hT0.2.2
    have hkt : kd E (ad E a 0) = 3 := ok.pk hO h_a (by decide) k11_0 rfl
    rcases Classical.em (fc = 0) with h0_1 | h0_1
    · subst h0_1
      try simp only [ne_eq, not_true_eq_false, not_false_eq_true, false_implies, true_implies, true_and, and_true, eq_self, false_or, or_false, false_and, and_false] at hU0
      have e_2 : gI σ (ad E a 0) 7 = 0 := by omega
      have hk_3 : gI σ (ad E a 0) 6 = tK T jt := by omega
      have hG_4 := GS.start (T := T) (e := [(1, lv)]) (j := jt) (t := gI σ b 13)
      refine lv_aload_n hx hb dX5_readAtom_0 rfl (lv_at hl 0 rfl) ?_
      have hp_5 : kd E (ad E a 0) = 3 := ok.pk hO h_a (by decide) k11_0 rfl
      refine ok.getR hO h_a (by decide) k11_0 (by decide) (fun _ _ he hv kk => th_get (ci := 5) (C := RX5) (T := TX5) (N := 1) hx hb hts inX5 hown hK hH he rfl 0 (by decide) fl0 hv dX5_readAtom_1 kk) ?_
      refine ok.getI hO hp_5 (by decide) k3_6 (fun _ _ he hv kk => th_getN (ci := 8) (C := RX8) (T := TX8) (N := 9) hx hb hts inX8 hown hK hH he rfl 6 (by decide) (nl_5 hK) hv dX5_readAtom_4 kk) (fun z_6 e_7 rz_6 lz_6 uz_6 => ?_)
      refine lv_istore_n (lv' := [(3, .int (I z_6)), (0, .ref a), (1, .ref b), (2, .int (I lv))]) hx hb dX5_readAtom_7 rfl hl (by decide) rfl (fun ls hl => ?_)
      refine lv_iload_n hx hb dX5_readAtom_8 rfl (lv_at hl 0 rfl) ?_
      refine lv_bipush (v := I 33) hx hb dX5_readAtom_9 (by decide) ?_
      refine lv_icmp_eq (tgt := 37) hx hb dX5_readAtom_11 (by decide) (fun c_8 => ?_) (fun c_8 => ?_)
      · replace c_8 := (I_eq (a := z_6) (b := 33) rz_6 (show rng 33 from ⟨by decide, by decide⟩)).mp c_8
        refine lv_iload_n hx hb dX5_readAtom_37 rfl (lv_at hl 0 rfl) ?_
        refine lv_bipush (v := I 64) hx hb dX5_readAtom_38 (by decide) ?_
        refine lv_icmp_ne (tgt := 55) hx hb dX5_readAtom_40 (by decide) (fun c_9 => ?_) (fun c_9 => ?_)
        · replace c_9 := mt (I_eq (a := z_6) (b := 64) rz_6 (show rng 64 from ⟨by decide, by decide⟩)).mpr c_9
          refine lv_iload_n hx hb dX5_readAtom_55 rfl (lv_at hl 3 rfl) ?_
          refine lv_iconst (v := I 5) hx hb dX5_readAtom_56 (by decide) ?_
          refine lv_icmp_lt (tgt := 71) hx hb dX5_readAtom_57 (by decide) (fun c_10 => ?_) (fun c_10 => ?_)
          · replace c_10 := (I_lt (a := lv) (b := 5) rlv (show rng 5 from ⟨by decide, by decide⟩)).mp c_10
            refine lv_aload_n hx hb dX5_readAtom_71 rfl (lv_at hl 1 rfl) ?_
            refine ok.getR hO h_a (by decide) k11_0 (by decide) (fun _ _ he hv kk => th_get (ci := 5) (C := RX5) (T := TX5) (N := 1) hx hb hts inX5 hown hK hH he rfl 0 (by decide) fl0 hv dX5_readAtom_72 kk) ?_
            obtain ⟨_, hc_11⟩ := hO.cell hp_5 (by decide) (ci := 8) rfl
            refine th_callv (va_runV (As := []) (rest := []) ⟨hx, hb, hml, hown, hts⟩ (f_step l G y b0 σ E hO (ad E a 0) hp_5 T 0 jt hT0) (cwV 0 hts gX5_readAtom_X8_step rfl rfl rfl (by decide +kernel) ⟨(by first | (simp only [headSpec]; omega) | omega | (dsimp only; omega)), (by first | (simp only [headSpec]; omega) | omega | (dsimp only; omega))⟩) (th_PV hK hH rfl hc_11) rfl rfl hl.1 rfl (lv_room (Nat.le_of_ble_eq_true rfl)) dX5_readAtom_75 ⟨(by first | (simp only [headSpec]; omega) | omega | (dsimp only; omega)), (by first | (simp only [headSpec]; omega) | omega | (dsimp only; omega))⟩) hS (fun σ_s_13 H locs hw_12 hH hS => ?_)
            obtain ⟨hO9, hF9, hw_12⟩ := hw_12
            have e_14 : gI σ_s_13 b 3 = b30 := (fr.ki hO hF9 h_b (by decide) (by decide) _).trans eb30
            have e_15 : gI σ_s_13 b 13 = b130 := (fr.ki hO hF9 h_b (by decide) (by decide) _).trans eb130
            replace hO := hO9
            replace hF := hF.tu hF9 (by decide)
            replace hw_12 : ∃ c1 j1, TSt E σ_s_13 (ad E a 0) T c1 j1 ∧ c1 = 0 ∧ ((0 : Int) ≠ 0 → j1 = jt) ∧ ((0 : Int) = 0 → tK T jt ≠ 259 → j1 = jt + 1) := hw_12
            obtain ⟨cc_16, jj_17, hT_18, hw_12⟩ := hw_12
            have hUhT_18 := hT_18.2.2
            try replace hU0 := hid.mk hU0
            have h0_19 : cc_16 = 0 := by omega
            subst h0_19
            try simp only [ne_eq, not_true_eq_false, not_false_eq_true, false_implies, true_implies, true_and, and_true, eq_self, false_or, or_false, false_and, and_false] at hUhT_18
            have e_20 : gI σ_s_13 (ad E a 0) 7 = 0 := by omega
            have hk_21 : gI σ_s_13 (ad E a 0) 6 = tK T jj_17 := by omega
            have hj_22 : jt + 1 = jj_17 := by omega
            subst hj_22
            refine lv_iload_n hx hb dX5_readAtom_78 rfl (lv_at hl 0 rfl) ?_
            refine lv_bipush (v := I 64) hx hb dX5_readAtom_79 (by decide) ?_
            refine lv_icmp_ne (tgt := 92) hx hb dX5_readAtom_81 (by decide) (fun c_23 => ?_) (fun c_23 => ?_)
            · replace c_23 := mt (I_eq (a := z_6) (b := 64) rz_6 (show rng 64 from ⟨by decide, by decide⟩)).mpr c_23
              refine lv_iload_n hx hb dX5_readAtom_92 rfl (lv_at hl 0 rfl) ?_
              refine lv_bipush (v := I 33) hx hb dX5_readAtom_93 (by decide) ?_
              refine lv_icmp_ne (tgt := 115) hx hb dX5_readAtom_95 (by decide) (fun c_24 => ?_) (fun c_24 => ?_)
              · replace c_24 := mt (I_eq (a := z_6) (b := 33) rz_6 (show rng 33 from ⟨by decide, by decide⟩)).mpr c_24
                have hG_25 := hG_4.open_ (by omega) (by omega)
                refine lv_aload_n hx hb dX5_readAtom_115 rfl (lv_at hl 1 rfl) ?_
                refine lv_aload_n hx hb dX5_readAtom_116 rfl (lv_at hl 2 rfl) ?_
                refine lv_iload_n hx hb dX5_readAtom_117 rfl (lv_at hl 3 rfl) ?_
                refine lv_iconst (v := I 1) hx hb dX5_readAtom_118 (by decide) ?_
                refine lv_iadd hx hb dX5_readAtom_119 ?_
                refine nq_top (I_add _ _) ?_
                obtain ⟨_, hc_26⟩ := hO.cell h_a (by decide) (ci := 5) rfl
                refine th_callv (va_runV (As := [.ref b, .int (I (lv + 1))]) (rest := []) ⟨hx, hb, hml, hown, hts⟩ (s6_readCond n ih l G y b0 σ_s_13 E hO a h_a b h_b (lv + 1) (show rng (lv + 1) from ⟨by omega, by omega⟩) (by omega) (by omega) T 0 (jt + 1) hT_18 (by omega) (by omega)) (cwV 2 hts gX5_readAtom_X5_readCond rfl rfl rfl (by decide +kernel) ⟨(by first | (simp only [headSpec]; omega) | omega | (dsimp only; omega)), (by first | (simp only [headSpec]; omega) | omega | (dsimp only; omega))⟩) (th_PV hK hH rfl hc_26) rfl rfl hl.1 rfl (lv_room (Nat.le_of_ble_eq_true rfl)) dX5_readAtom_120 ⟨(by first | (simp only [headSpec]; omega) | omega | (dsimp only; omega)), (by first | (simp only [headSpec]; omega) | omega | (dsimp only; omega))⟩) hS (fun σ_s_28 H locs hw_27 hH hS => ?_)
                obtain ⟨hO9, hF9, hw_27⟩ := hw_27
                replace hO := hO9
                replace hF := hF.tu hF9 (by decide)
                replace hw_27 : ∃ c1 j1, TSt E σ_s_28 (ad E a 0) T c1 j1 ∧ ((0 : Int) ≠ 0 → c1 = 0 ∧ j1 = (jt + 1)) ∧ ((0 : Int) = 0 → (jt + 1) ≤ j1 ∧ (c1 = 0 → (jt + 1) < j1) ∧ GS T [(2, (lv + 1))] (jt + 1) (gI σ_s_13 b 13) [] c1 j1 (gI σ_s_28 b 13)) ∧ (c1 = 0 → 0 ≤ gI σ_s_28 b 13 ∧ gI σ_s_28 b 13 ≤ 12) ∧ gI σ_s_28 b 3 = gI σ_s_13 b 3 := hw_27
                obtain ⟨cc_29, jj_30, hT_31, hw_27⟩ := hw_27
                have hUhT_31 := hT_31.2.2
                try replace hUhT_18 := hid.mk hUhT_18
                try replace hw_12 := hid.mk hw_12
                have hb_32 : (jt + 1) ≤ jj_30 := by omega
                try have hb_33 : cc_29 = 0 → 0 ≤ gI σ_s_28 b 13 ∧ gI σ_s_28 b 13 ≤ 12 := by omega
                obtain ⟨z_34, e_35, rz_34, lz_34, uz_34⟩ := hO.gi h_b (by decide) k4_3
                obtain ⟨z_36, e_37, rz_36, lz_36, uz_36⟩ := hO.gi h_b (by decide) k4_13
                have hG_38 := hG_25.call (c2 := cc_29) (j2 := jj_30) (t2 := gI σ_s_28 b 13) (fun _ => GS.cg1 (hw_27.2.1 rfl).2.2 (by omega) rfl (by omega)) (fun h9 => absurd rfl h9)
                have hqhw_27 := (hw_27.2.1 rfl).1
                have hQhw_27 := (hw_27.2.1 rfl).2.1
                have hRhw_27 := hw_27.2.2
                try replace hw_27 := hid.mk hw_27
                refine lv_aload_n hx hb dX5_readAtom_123 rfl (lv_at hl 1 rfl) ?_
                refine ok.getR hO h_a (by decide) k11_0 (by decide) (fun _ _ he hv kk => th_get (ci := 5) (C := RX5) (T := TX5) (N := 1) hx hb hts inX5 hown hK hH he rfl 0 (by decide) fl0 hv dX5_readAtom_124 kk) ?_
                refine lv_bipush (v := I 41) hx hb dX5_readAtom_127 (by decide) ?_
                obtain ⟨_, hc_39⟩ := hO.cell hp_5 (by decide) (ci := 8) rfl
                refine th_callv (va_runV (As := [.int (I 41)]) (rest := []) ⟨hx, hb, hml, hown, hts⟩ (f_expect l G y b0 σ_s_28 E hO (ad E a 0) hp_5 41 (show rng 41 from (show rng 41 from ⟨by decide, by decide⟩)) (by omega) (by omega) T cc_29 jj_30 hT_31) (cwV 1 hts gX5_readAtom_X8_expect rfl rfl rfl (by decide +kernel) ⟨(by first | (simp only [headSpec]; omega) | omega | (dsimp only; omega)), (by first | (simp only [headSpec]; omega) | omega | (dsimp only; omega))⟩) (th_PV hK hH rfl hc_39) rfl rfl hl.1 rfl (lv_room (Nat.le_of_ble_eq_true rfl)) dX5_readAtom_129 ⟨(by first | (simp only [headSpec]; omega) | omega | (dsimp only; omega)), (by first | (simp only [headSpec]; omega) | omega | (dsimp only; omega))⟩) hS (fun σ_s_41 H locs hw_40 hH hS => ?_)
                obtain ⟨hO9, hF9, hw_40⟩ := hw_40
                have e_42 : gI σ_s_41 b 3 = z_34 := (fr.ki hO hF9 h_b (by decide) (by decide) _).trans e_35
                have e_43 : gI σ_s_41 b 13 = z_36 := (fr.ki hO hF9 h_b (by decide) (by decide) _).trans e_37
                replace hO := hO9
                replace hF := hF.tu hF9 (by decide)
                replace hw_40 : ∃ c1 j1, TSt E σ_s_41 (ad E a 0) T c1 j1 ∧ (cc_29 ≠ 0 → c1 = cc_29 ∧ j1 = jj_30) ∧ (cc_29 = 0 → (tK T jj_30 = 41 ∧ c1 = 0 ∧ j1 = jj_30 + 1) ∨ (tK T jj_30 ≠ 41 ∧ c1 = 1 ∧ j1 = jj_30)) := hw_40
                obtain ⟨cc_44, jj_45, hT_46, hw_40⟩ := hw_40
                have hUhT_46 := hT_46.2.2
                try replace hUhT_31 := hid.mk hUhT_31
                try replace hw_27 := hid.mk hw_27
                have hb_47 : jj_30 ≤ jj_45 := by omega
                have hb_48 : cc_44 = 0 → jj_45 = jj_30 + 1 ∧ cc_29 = 0 := by omega
                have hG_49 := hG_38.need (c2 := cc_44) (j2 := jj_45) (fun h9 => by omega) (fun h9 => by omega)
                exact th_vret hx hb hr hlocks hH hS ⟨hO, hF, ⟨cc_44, jj_45, hT_46, (fun h9 => absurd rfl h9), fun _ => ⟨by omega, by omega, hG_49.ec rfl rfl (fun _ => by omega)⟩, by omega, by omega⟩⟩ dX5_readAtom_132
              · replace c_24 := (I_eq (a := z_6) (b := 33) rz_6 (show rng 33 from ⟨by decide, by decide⟩)).mp c_24
                have hG_50 := hG_4.not (by omega) (by omega)
                refine lv_aload_n hx hb dX5_readAtom_98 rfl (lv_at hl 1 rfl) ?_
                refine lv_aload_n hx hb dX5_readAtom_99 rfl (lv_at hl 2 rfl) ?_
                refine lv_iload_n hx hb dX5_readAtom_100 rfl (lv_at hl 3 rfl) ?_
                refine lv_iconst (v := I 1) hx hb dX5_readAtom_101 (by decide) ?_
                refine lv_iadd hx hb dX5_readAtom_102 ?_
                refine nq_top (I_add _ _) ?_
                obtain ⟨_, hc_51⟩ := hO.cell h_a (by decide) (ci := 5) rfl
                refine th_callv (va_runV (As := [.ref b, .int (I (lv + 1))]) (rest := []) ⟨hx, hb, hml, hown, hts⟩ (ih l G y b0 σ_s_13 E hO a h_a b h_b (lv + 1) (show rng (lv + 1) from ⟨by omega, by omega⟩) (by omega) (by omega) T 0 (jt + 1) hT_18 (by omega) (by omega)) (cwV 2 hts gX5_readAtom_X5_readAtom rfl rfl rfl (by decide +kernel) ⟨(by first | (simp only [headSpec]; omega) | omega | (dsimp only; omega)), (by first | (simp only [headSpec]; omega) | omega | (dsimp only; omega))⟩) (th_PV hK hH rfl hc_51) rfl rfl hl.1 rfl (lv_room (Nat.le_of_ble_eq_true rfl)) dX5_readAtom_103 ⟨(by first | (simp only [headSpec]; omega) | omega | (dsimp only; omega)), (by first | (simp only [headSpec]; omega) | omega | (dsimp only; omega))⟩) hS (fun σ_s_53 H locs hw_52 hH hS => ?_)
                obtain ⟨hO9, hF9, hw_52⟩ := hw_52
                replace hO := hO9
                replace hF := hF.tu hF9 (by decide)
                replace hw_52 : ∃ c1 j1, TSt E σ_s_53 (ad E a 0) T c1 j1 ∧ ((0 : Int) ≠ 0 → c1 = 0 ∧ j1 = (jt + 1)) ∧ ((0 : Int) = 0 → (jt + 1) ≤ j1 ∧ (c1 = 0 → (jt + 1) < j1) ∧ GS T [(1, (lv + 1))] (jt + 1) (gI σ_s_13 b 13) [] c1 j1 (gI σ_s_53 b 13)) ∧ (c1 = 0 → 0 ≤ gI σ_s_53 b 13 ∧ gI σ_s_53 b 13 ≤ 12) ∧ gI σ_s_53 b 3 = gI σ_s_13 b 3 := hw_52
                obtain ⟨cc_54, jj_55, hT_56, hw_52⟩ := hw_52
                have hUhT_56 := hT_56.2.2
                try replace hUhT_18 := hid.mk hUhT_18
                try replace hw_12 := hid.mk hw_12
                have hb_57 : (jt + 1) ≤ jj_55 := by omega
                try have hb_58 : cc_54 = 0 → 0 ≤ gI σ_s_53 b 13 ∧ gI σ_s_53 b 13 ≤ 12 := by omega
                obtain ⟨z_59, e_60, rz_59, lz_59, uz_59⟩ := hO.gi h_b (by decide) k4_3
                obtain ⟨z_61, e_62, rz_61, lz_61, uz_61⟩ := hO.gi h_b (by decide) k4_13
                have hG_63 := hG_50.call (c2 := cc_54) (j2 := jj_55) (t2 := gI σ_s_53 b 13) (fun _ => GS.cg1 (hw_52.2.1 rfl).2.2 (by omega) rfl (by omega)) (fun h9 => absurd rfl h9)
                have hqhw_52 := (hw_52.2.1 rfl).1
                have hQhw_52 := (hw_52.2.1 rfl).2.1
                have hRhw_52 := hw_52.2.2
                try replace hw_52 := hid.mk hw_52
                refine lv_aload_n hx hb dX5_readAtom_106 rfl (lv_at hl 2 rfl) ?_
                refine lv_bipush (v := I (-4)) hx hb dX5_readAtom_107 (by decide) ?_
                obtain ⟨_, hc_64⟩ := hO.cell h_b (by decide) (ci := 4) rfl
                refine th_callv (va_runV (As := [.int (I (-4))]) (rest := []) ⟨hx, hb, hml, hown, hts⟩ (p6_addCode l G y b0 σ_s_53 E hO b h_b (-4) (show rng (-4) from (show rng (-4) from ⟨by decide, by decide⟩))) (cwV 1 hts gX5_readAtom_X4_addCode rfl rfl rfl (by decide +kernel) ⟨(by first | (simp only [headSpec]; omega) | omega | (dsimp only; omega)), (by first | (simp only [headSpec]; omega) | omega | (dsimp only; omega))⟩) (th_PV hK hH rfl hc_64) rfl rfl hl.1 rfl (lv_room (Nat.le_of_ble_eq_true rfl)) dX5_readAtom_109 ⟨(by first | (simp only [headSpec]; omega) | omega | (dsimp only; omega)), (by first | (simp only [headSpec]; omega) | omega | (dsimp only; omega))⟩) hS (fun σ_s_66 H locs hw_65 hH hS => ?_)
                obtain ⟨hO9, hF9, hw_65⟩ := hw_65
                have hT_67 : TSt E σ_s_66 (ad E a 0) T cc_54 jj_55 := TSt.mv hO hF9 hkt (by decide) hT_56
                have hUhT_67 := hT_67.2.2
                replace hO := hO9
                replace hF := hF.tu hF9 (by decide)
                replace hw_65 : gI σ_s_66 b 13 = gI σ_s_53 b 13 ∧ gI σ_s_66 b 3 = gI σ_s_53 b 3 := hw_65
                try replace hUhT_56 := hid.mk hUhT_56
                try replace hw_52 := hid.mk hw_52
                try simp only [ne_eq, not_true_eq_false, not_false_eq_true, false_implies, true_implies, true_and, and_true, eq_self, false_or, or_false, false_and, and_false] at hUhT_67
                have e_68 : gI σ_s_66 b 3 = z_59 := by omega
                have e_69 : gI σ_s_66 b 13 = z_61 := by omega
                refine lv_goto (tgt := 132) hx hb dX5_readAtom_112 (by decide) ?_
                exact th_vret hx hb hr hlocks hH hS ⟨hO, hF, ⟨cc_54, jj_55, hT_67, (fun h9 => absurd rfl h9), fun _ => ⟨by omega, by omega, hG_63.ec rfl rfl (fun _ => by omega)⟩, by omega, by omega⟩⟩ dX5_readAtom_132
            · replace c_23 := (I_eq (a := z_6) (b := 64) rz_6 (show rng 64 from ⟨by decide, by decide⟩)).mp c_23
              have hG_70 := hG_4.test (by omega) (by omega)
              exfalso; omega
          · replace c_10 := mt (I_lt (a := lv) (b := 5) rlv (show rng 5 from ⟨by decide, by decide⟩)).mpr c_10
            refine lv_aload_n hx hb dX5_readAtom_60 rfl (lv_at hl 1 rfl) ?_
            refine ok.getR hO h_a (by decide) k11_0 (by decide) (fun _ _ he hv kk => th_get (ci := 5) (C := RX5) (T := TX5) (N := 1) hx hb hts inX5 hown hK hH he rfl 0 (by decide) fl0 hv dX5_readAtom_61 kk) ?_
            refine lv_iconst (v := I 2) hx hb dX5_readAtom_64 (by decide) ?_
            obtain ⟨_, hc_71⟩ := hO.cell hp_5 (by decide) (ci := 8) rfl
            refine th_callv (va_runV (As := [.int (I 2)]) (rest := []) ⟨hx, hb, hml, hown, hts⟩ (f_fail l G y b0 σ E hO (ad E a 0) hp_5 2 (show rng 2 from (show rng 2 from ⟨by decide, by decide⟩)) T 0 jt hT0 (by omega)) (cwV 1 hts gX5_readAtom_X8_fail rfl rfl rfl (by decide +kernel) ⟨(by first | (simp only [headSpec]; omega) | omega | (dsimp only; omega)), (by first | (simp only [headSpec]; omega) | omega | (dsimp only; omega))⟩) (th_PV hK hH rfl hc_71) rfl rfl hl.1 rfl (lv_room (Nat.le_of_ble_eq_true rfl)) dX5_readAtom_65 ⟨(by first | (simp only [headSpec]; omega) | omega | (dsimp only; omega)), (by first | (simp only [headSpec]; omega) | omega | (dsimp only; omega))⟩) hS (fun σ_s_73 H locs hw_72 hH hS => ?_)
            obtain ⟨hO9, hF9, hw_72⟩ := hw_72
            have e_74 : gI σ_s_73 b 3 = b30 := (fr.ki hO hF9 h_b (by decide) (by decide) _).trans eb30
            have e_75 : gI σ_s_73 b 13 = b130 := (fr.ki hO hF9 h_b (by decide) (by decide) _).trans eb130
            replace hO := hO9
            replace hF := hF.tu hF9 (by decide)
            replace hw_72 : ∃ c1 j1, TSt E σ_s_73 (ad E a 0) T c1 j1 ∧ j1 = jt ∧ ((0 : Int) = 0 → c1 = 2) ∧ ((0 : Int) ≠ 0 → c1 = 0) := hw_72
            obtain ⟨cc_76, jj_77, hT_78, hw_72⟩ := hw_72
            have hUhT_78 := hT_78.2.2
            try replace hU0 := hid.mk hU0
            have h0_79 : ¬ cc_76 = 0 := by omega
            try simp only [h0_79, ne_eq, not_true_eq_false, not_false_eq_true, false_implies, true_implies, true_and, and_true, eq_self, false_or, or_false, false_and, and_false] at hUhT_78
            have e_80 : gI σ_s_73 (ad E a 0) 6 = 260 := by omega
            have hj_81 : jt = jj_77 := by omega
            subst hj_81
            have hG_82 := hG_4.deep (c2 := cc_76) (j2 := jt) (l2 := []) (t2 := 0) (by omega) (by omega) (by omega) rfl
            refine lv_goto (tgt := 132) hx hb dX5_readAtom_68 (by decide) ?_
            exact th_vret hx hb hr hlocks hH hS ⟨hO, hF, ⟨cc_76, jt, hT_78, (fun h9 => absurd rfl h9), fun _ => ⟨by omega, fun h9 => absurd h9 h0_79, hG_82.was h0_79⟩, fun h9 => absurd h9 h0_79, by omega⟩⟩ dX5_readAtom_132
        · replace c_9 := (I_eq (a := z_6) (b := 64) rz_6 (show rng 64 from ⟨by decide, by decide⟩)).mp c_9
          refine lv_aload_n hx hb dX5_readAtom_43 rfl (lv_at hl 2 rfl) ?_
          refine ok.getIc hO h_b (by decide) k4_13 eb130 (fun _ _ he hv kk => th_getN (ci := 4) (C := RX4) (T := TX4) (N := 14) hx hb hts inX4 hown hK hH he rfl 13 (by decide) (nl_3 hK) hv dX5_readAtom_44 kk) ?_
          refine lv_bipush (v := I 12) hx hb dX5_readAtom_47 (by decide) ?_
          refine lv_icmp_lt (tgt := 71) hx hb dX5_readAtom_49 (by decide) (fun c_83 => ?_) (fun c_83 => ?_)
          · replace c_83 := (I_lt (a := b130) (b := 12) rb130 (show rng 12 from ⟨by decide, by decide⟩)).mp c_83
            refine lv_aload_n hx hb dX5_readAtom_71 rfl (lv_at hl 1 rfl) ?_
            refine ok.getR hO h_a (by decide) k11_0 (by decide) (fun _ _ he hv kk => th_get (ci := 5) (C := RX5) (T := TX5) (N := 1) hx hb hts inX5 hown hK hH he rfl 0 (by decide) fl0 hv dX5_readAtom_72 kk) ?_
            obtain ⟨_, hc_84⟩ := hO.cell hp_5 (by decide) (ci := 8) rfl
            refine th_callv (va_runV (As := []) (rest := []) ⟨hx, hb, hml, hown, hts⟩ (f_step l G y b0 σ E hO (ad E a 0) hp_5 T 0 jt hT0) (cwV 0 hts gX5_readAtom_X8_step rfl rfl rfl (by decide +kernel) ⟨(by first | (simp only [headSpec]; omega) | omega | (dsimp only; omega)), (by first | (simp only [headSpec]; omega) | omega | (dsimp only; omega))⟩) (th_PV hK hH rfl hc_84) rfl rfl hl.1 rfl (lv_room (Nat.le_of_ble_eq_true rfl)) dX5_readAtom_75 ⟨(by first | (simp only [headSpec]; omega) | omega | (dsimp only; omega)), (by first | (simp only [headSpec]; omega) | omega | (dsimp only; omega))⟩) hS (fun σ_s_86 H locs hw_85 hH hS => ?_)
            obtain ⟨hO9, hF9, hw_85⟩ := hw_85
            have e_87 : gI σ_s_86 b 3 = b30 := (fr.ki hO hF9 h_b (by decide) (by decide) _).trans eb30
            have e_88 : gI σ_s_86 b 13 = b130 := (fr.ki hO hF9 h_b (by decide) (by decide) _).trans eb130
            replace hO := hO9
            replace hF := hF.tu hF9 (by decide)
            replace hw_85 : ∃ c1 j1, TSt E σ_s_86 (ad E a 0) T c1 j1 ∧ c1 = 0 ∧ ((0 : Int) ≠ 0 → j1 = jt) ∧ ((0 : Int) = 0 → tK T jt ≠ 259 → j1 = jt + 1) := hw_85
            obtain ⟨cc_89, jj_90, hT_91, hw_85⟩ := hw_85
            have hUhT_91 := hT_91.2.2
            try replace hU0 := hid.mk hU0
            have h0_92 : cc_89 = 0 := by omega
            subst h0_92
            try simp only [ne_eq, not_true_eq_false, not_false_eq_true, false_implies, true_implies, true_and, and_true, eq_self, false_or, or_false, false_and, and_false] at hUhT_91
            have e_93 : gI σ_s_86 (ad E a 0) 7 = 0 := by omega
            have hk_94 : gI σ_s_86 (ad E a 0) 6 = tK T jj_90 := by omega
            have hj_95 : jt + 1 = jj_90 := by omega
            subst hj_95
            refine lv_iload_n hx hb dX5_readAtom_78 rfl (lv_at hl 0 rfl) ?_
            refine lv_bipush (v := I 64) hx hb dX5_readAtom_79 (by decide) ?_
            refine lv_icmp_ne (tgt := 92) hx hb dX5_readAtom_81 (by decide) (fun c_96 => ?_) (fun c_96 => ?_)
            · replace c_96 := mt (I_eq (a := z_6) (b := 64) rz_6 (show rng 64 from ⟨by decide, by decide⟩)).mpr c_96
              exfalso; omega
            · replace c_96 := (I_eq (a := z_6) (b := 64) rz_6 (show rng 64 from ⟨by decide, by decide⟩)).mp c_96
              have hG_97 := hG_4.test (by omega) (by omega)
              refine lv_aload_n hx hb dX5_readAtom_84 rfl (lv_at hl 1 rfl) ?_
              refine lv_aload_n hx hb dX5_readAtom_85 rfl (lv_at hl 2 rfl) ?_
              obtain ⟨_, hc_98⟩ := hO.cell h_a (by decide) (ci := 5) rfl
              refine th_callv (va_runV (As := [.ref b]) (rest := []) ⟨hx, hb, hml, hown, hts⟩ (s6_readTest l G y b0 σ_s_86 E hO a h_a b h_b T 0 (jt + 1) hT_91 (gI σ b 13 + 1) (by omega)) (cwV 1 hts gX5_readAtom_X5_readTest rfl rfl rfl (by decide +kernel) ⟨(by first | (simp only [headSpec]; omega) | omega | (dsimp only; omega)), (by first | (simp only [headSpec]; omega) | omega | (dsimp only; omega))⟩) (th_PV hK hH rfl hc_98) rfl rfl hl.1 rfl (lv_room (Nat.le_of_ble_eq_true rfl)) dX5_readAtom_86 ⟨(by first | (simp only [headSpec]; omega) | omega | (dsimp only; omega)), (by first | (simp only [headSpec]; omega) | omega | (dsimp only; omega))⟩) hS (fun σ_s_100 H locs hw_99 hH hS => ?_)
              obtain ⟨hO9, hF9, hw_99⟩ := hw_99
              replace hO := hO9
              replace hF := hF.tu hF9 (by decide)
              replace hw_99 : ∃ c1 j1, TSt E σ_s_100 (ad E a 0) T c1 j1 ∧ ((0 : Int) ≠ 0 → c1 = 0 ∧ j1 = (jt + 1)) ∧ ((0 : Int) = 0 → (jt + 1) ≤ j1 ∧ GS T [(4, 0)] (jt + 1) (gI σ b 13 + 1) [] c1 j1 (gI σ b 13 + 1)) ∧ (gI σ_s_86 b 13 < 12 → gI σ_s_100 b 13 = gI σ_s_86 b 13 + 1) ∧ gI σ_s_100 b 3 = gI σ_s_86 b 3 := hw_99
              obtain ⟨cc_101, jj_102, hT_103, hw_99⟩ := hw_99
              have hUhT_103 := hT_103.2.2
              try replace hUhT_91 := hid.mk hUhT_91
              try replace hw_85 := hid.mk hw_85
              have hb_104 : (jt + 1) ≤ jj_102 := by omega
              try have hb_105 : cc_101 = 0 → 0 ≤ gI σ_s_100 b 13 ∧ gI σ_s_100 b 13 ≤ 12 := by omega
              obtain ⟨z_106, e_107, rz_106, lz_106, uz_106⟩ := hO.gi h_b (by decide) k4_3
              obtain ⟨z_108, e_109, rz_108, lz_108, uz_108⟩ := hO.gi h_b (by decide) k4_13
              have hG_110 := hG_97.call (c2 := cc_101) (j2 := jj_102) (t2 := gI σ b 13 + 1) (fun _ => (hw_99.2.1 rfl).2) (fun h9 => absurd rfl h9)
              have hqhw_99 := (hw_99.2.1 rfl).1
              have hRhw_99 := hw_99.2.2
              try replace hw_99 := hid.mk hw_99
              refine lv_goto (tgt := 132) hx hb dX5_readAtom_89 (by decide) ?_
              exact th_vret hx hb hr hlocks hH hS ⟨hO, hF, ⟨cc_101, jj_102, hT_103, (fun h9 => absurd rfl h9), fun _ => ⟨by omega, by omega, hG_110.ec rfl rfl (fun _ => by omega)⟩, by omega, by omega⟩⟩ dX5_readAtom_132
          · replace c_83 := mt (I_lt (a := b130) (b := 12) rb130 (show rng 12 from ⟨by decide, by decide⟩)).mpr c_83
            refine lv_goto (tgt := 60) hx hb dX5_readAtom_52 (by decide) ?_
            refine lv_aload_n hx hb dX5_readAtom_60 rfl (lv_at hl 1 rfl) ?_
            refine ok.getR hO h_a (by decide) k11_0 (by decide) (fun _ _ he hv kk => th_get (ci := 5) (C := RX5) (T := TX5) (N := 1) hx hb hts inX5 hown hK hH he rfl 0 (by decide) fl0 hv dX5_readAtom_61 kk) ?_
            refine lv_iconst (v := I 2) hx hb dX5_readAtom_64 (by decide) ?_
            obtain ⟨_, hc_111⟩ := hO.cell hp_5 (by decide) (ci := 8) rfl
            refine th_callv (va_runV (As := [.int (I 2)]) (rest := []) ⟨hx, hb, hml, hown, hts⟩ (f_fail l G y b0 σ E hO (ad E a 0) hp_5 2 (show rng 2 from (show rng 2 from ⟨by decide, by decide⟩)) T 0 jt hT0 (by omega)) (cwV 1 hts gX5_readAtom_X8_fail rfl rfl rfl (by decide +kernel) ⟨(by first | (simp only [headSpec]; omega) | omega | (dsimp only; omega)), (by first | (simp only [headSpec]; omega) | omega | (dsimp only; omega))⟩) (th_PV hK hH rfl hc_111) rfl rfl hl.1 rfl (lv_room (Nat.le_of_ble_eq_true rfl)) dX5_readAtom_65 ⟨(by first | (simp only [headSpec]; omega) | omega | (dsimp only; omega)), (by first | (simp only [headSpec]; omega) | omega | (dsimp only; omega))⟩) hS (fun σ_s_113 H locs hw_112 hH hS => ?_)
            obtain ⟨hO9, hF9, hw_112⟩ := hw_112
            have e_114 : gI σ_s_113 b 3 = b30 := (fr.ki hO hF9 h_b (by decide) (by decide) _).trans eb30
            have e_115 : gI σ_s_113 b 13 = b130 := (fr.ki hO hF9 h_b (by decide) (by decide) _).trans eb130
            replace hO := hO9
            replace hF := hF.tu hF9 (by decide)
            replace hw_112 : ∃ c1 j1, TSt E σ_s_113 (ad E a 0) T c1 j1 ∧ j1 = jt ∧ ((0 : Int) = 0 → c1 = 2) ∧ ((0 : Int) ≠ 0 → c1 = 0) := hw_112
            obtain ⟨cc_116, jj_117, hT_118, hw_112⟩ := hw_112
            have hUhT_118 := hT_118.2.2
            try replace hU0 := hid.mk hU0
            have h0_119 : ¬ cc_116 = 0 := by omega
            try simp only [h0_119, ne_eq, not_true_eq_false, not_false_eq_true, false_implies, true_implies, true_and, and_true, eq_self, false_or, or_false, false_and, and_false] at hUhT_118
            have e_120 : gI σ_s_113 (ad E a 0) 6 = 260 := by omega
            have hj_121 : jt = jj_117 := by omega
            subst hj_121
            have hG_122 := hG_4.tests (c2 := cc_116) (j2 := jt) (l2 := []) (t2 := 0) (by omega) (by omega) (by omega) rfl
            refine lv_goto (tgt := 132) hx hb dX5_readAtom_68 (by decide) ?_
            exact th_vret hx hb hr hlocks hH hS ⟨hO, hF, ⟨cc_116, jt, hT_118, (fun h9 => absurd rfl h9), fun _ => ⟨by omega, fun h9 => absurd h9 h0_119, hG_122.was h0_119⟩, fun h9 => absurd h9 h0_119, by omega⟩⟩ dX5_readAtom_132
      · replace c_8 := mt (I_eq (a := z_6) (b := 33) rz_6 (show rng 33 from ⟨by decide, by decide⟩)).mpr c_8
        refine lv_iload_n hx hb dX5_readAtom_14 rfl (lv_at hl 0 rfl) ?_
        refine lv_bipush (v := I 40) hx hb dX5_readAtom_15 (by decide) ?_
        refine lv_icmp_eq (tgt := 37) hx hb dX5_readAtom_17 (by decide) (fun c_123 => ?_) (fun c_123 => ?_)
        · replace c_123 := (I_eq (a := z_6) (b := 40) rz_6 (show rng 40 from ⟨by decide, by decide⟩)).mp c_123
          refine lv_iload_n hx hb dX5_readAtom_37 rfl (lv_at hl 0 rfl) ?_
          refine lv_bipush (v := I 64) hx hb dX5_readAtom_38 (by decide) ?_
          refine lv_icmp_ne (tgt := 55) hx hb dX5_readAtom_40 (by decide) (fun c_124 => ?_) (fun c_124 => ?_)
          · replace c_124 := mt (I_eq (a := z_6) (b := 64) rz_6 (show rng 64 from ⟨by decide, by decide⟩)).mpr c_124
            refine lv_iload_n hx hb dX5_readAtom_55 rfl (lv_at hl 3 rfl) ?_
            refine lv_iconst (v := I 5) hx hb dX5_readAtom_56 (by decide) ?_
            refine lv_icmp_lt (tgt := 71) hx hb dX5_readAtom_57 (by decide) (fun c_125 => ?_) (fun c_125 => ?_)
            · replace c_125 := (I_lt (a := lv) (b := 5) rlv (show rng 5 from ⟨by decide, by decide⟩)).mp c_125
              refine lv_aload_n hx hb dX5_readAtom_71 rfl (lv_at hl 1 rfl) ?_
              refine ok.getR hO h_a (by decide) k11_0 (by decide) (fun _ _ he hv kk => th_get (ci := 5) (C := RX5) (T := TX5) (N := 1) hx hb hts inX5 hown hK hH he rfl 0 (by decide) fl0 hv dX5_readAtom_72 kk) ?_
              obtain ⟨_, hc_126⟩ := hO.cell hp_5 (by decide) (ci := 8) rfl
              refine th_callv (va_runV (As := []) (rest := []) ⟨hx, hb, hml, hown, hts⟩ (f_step l G y b0 σ E hO (ad E a 0) hp_5 T 0 jt hT0) (cwV 0 hts gX5_readAtom_X8_step rfl rfl rfl (by decide +kernel) ⟨(by first | (simp only [headSpec]; omega) | omega | (dsimp only; omega)), (by first | (simp only [headSpec]; omega) | omega | (dsimp only; omega))⟩) (th_PV hK hH rfl hc_126) rfl rfl hl.1 rfl (lv_room (Nat.le_of_ble_eq_true rfl)) dX5_readAtom_75 ⟨(by first | (simp only [headSpec]; omega) | omega | (dsimp only; omega)), (by first | (simp only [headSpec]; omega) | omega | (dsimp only; omega))⟩) hS (fun σ_s_128 H locs hw_127 hH hS => ?_)
              obtain ⟨hO9, hF9, hw_127⟩ := hw_127
              have e_129 : gI σ_s_128 b 3 = b30 := (fr.ki hO hF9 h_b (by decide) (by decide) _).trans eb30
              have e_130 : gI σ_s_128 b 13 = b130 := (fr.ki hO hF9 h_b (by decide) (by decide) _).trans eb130
              replace hO := hO9
              replace hF := hF.tu hF9 (by decide)
              replace hw_127 : ∃ c1 j1, TSt E σ_s_128 (ad E a 0) T c1 j1 ∧ c1 = 0 ∧ ((0 : Int) ≠ 0 → j1 = jt) ∧ ((0 : Int) = 0 → tK T jt ≠ 259 → j1 = jt + 1) := hw_127
              obtain ⟨cc_131, jj_132, hT_133, hw_127⟩ := hw_127
              have hUhT_133 := hT_133.2.2
              try replace hU0 := hid.mk hU0
              have h0_134 : cc_131 = 0 := by omega
              subst h0_134
              try simp only [ne_eq, not_true_eq_false, not_false_eq_true, false_implies, true_implies, true_and, and_true, eq_self, false_or, or_false, false_and, and_false] at hUhT_133
              have e_135 : gI σ_s_128 (ad E a 0) 7 = 0 := by omega
              have hk_136 : gI σ_s_128 (ad E a 0) 6 = tK T jj_132 := by omega
              have hj_137 : jt + 1 = jj_132 := by omega
              subst hj_137
              refine lv_iload_n hx hb dX5_readAtom_78 rfl (lv_at hl 0 rfl) ?_
              refine lv_bipush (v := I 64) hx hb dX5_readAtom_79 (by decide) ?_
              refine lv_icmp_ne (tgt := 92) hx hb dX5_readAtom_81 (by decide) (fun c_138 => ?_) (fun c_138 => ?_)
              · replace c_138 := mt (I_eq (a := z_6) (b := 64) rz_6 (show rng 64 from ⟨by decide, by decide⟩)).mpr c_138
                refine lv_iload_n hx hb dX5_readAtom_92 rfl (lv_at hl 0 rfl) ?_
                refine lv_bipush (v := I 33) hx hb dX5_readAtom_93 (by decide) ?_
                refine lv_icmp_ne (tgt := 115) hx hb dX5_readAtom_95 (by decide) (fun c_139 => ?_) (fun c_139 => ?_)
                · replace c_139 := mt (I_eq (a := z_6) (b := 33) rz_6 (show rng 33 from ⟨by decide, by decide⟩)).mpr c_139
                  have hG_140 := hG_4.open_ (by omega) (by omega)
                  refine lv_aload_n hx hb dX5_readAtom_115 rfl (lv_at hl 1 rfl) ?_
                  refine lv_aload_n hx hb dX5_readAtom_116 rfl (lv_at hl 2 rfl) ?_
                  refine lv_iload_n hx hb dX5_readAtom_117 rfl (lv_at hl 3 rfl) ?_
                  refine lv_iconst (v := I 1) hx hb dX5_readAtom_118 (by decide) ?_
                  refine lv_iadd hx hb dX5_readAtom_119 ?_
                  refine nq_top (I_add _ _) ?_
                  obtain ⟨_, hc_141⟩ := hO.cell h_a (by decide) (ci := 5) rfl
                  refine th_callv (va_runV (As := [.ref b, .int (I (lv + 1))]) (rest := []) ⟨hx, hb, hml, hown, hts⟩ (s6_readCond n ih l G y b0 σ_s_128 E hO a h_a b h_b (lv + 1) (show rng (lv + 1) from ⟨by omega, by omega⟩) (by omega) (by omega) T 0 (jt + 1) hT_133 (by omega) (by omega)) (cwV 2 hts gX5_readAtom_X5_readCond rfl rfl rfl (by decide +kernel) ⟨(by first | (simp only [headSpec]; omega) | omega | (dsimp only; omega)), (by first | (simp only [headSpec]; omega) | omega | (dsimp only; omega))⟩) (th_PV hK hH rfl hc_141) rfl rfl hl.1 rfl (lv_room (Nat.le_of_ble_eq_true rfl)) dX5_readAtom_120 ⟨(by first | (simp only [headSpec]; omega) | omega | (dsimp only; omega)), (by first | (simp only [headSpec]; omega) | omega | (dsimp only; omega))⟩) hS (fun σ_s_143 H locs hw_142 hH hS => ?_)
                  obtain ⟨hO9, hF9, hw_142⟩ := hw_142
                  replace hO := hO9
                  replace hF := hF.tu hF9 (by decide)
                  replace hw_142 : ∃ c1 j1, TSt E σ_s_143 (ad E a 0) T c1 j1 ∧ ((0 : Int) ≠ 0 → c1 = 0 ∧ j1 = (jt + 1)) ∧ ((0 : Int) = 0 → (jt + 1) ≤ j1 ∧ (c1 = 0 → (jt + 1) < j1) ∧ GS T [(2, (lv + 1))] (jt + 1) (gI σ_s_128 b 13) [] c1 j1 (gI σ_s_143 b 13)) ∧ (c1 = 0 → 0 ≤ gI σ_s_143 b 13 ∧ gI σ_s_143 b 13 ≤ 12) ∧ gI σ_s_143 b 3 = gI σ_s_128 b 3 := hw_142
                  obtain ⟨cc_144, jj_145, hT_146, hw_142⟩ := hw_142
                  have hUhT_146 := hT_146.2.2
                  try replace hUhT_133 := hid.mk hUhT_133
                  try replace hw_127 := hid.mk hw_127
                  have hb_147 : (jt + 1) ≤ jj_145 := by omega
                  try have hb_148 : cc_144 = 0 → 0 ≤ gI σ_s_143 b 13 ∧ gI σ_s_143 b 13 ≤ 12 := by omega
                  obtain ⟨z_149, e_150, rz_149, lz_149, uz_149⟩ := hO.gi h_b (by decide) k4_3
                  obtain ⟨z_151, e_152, rz_151, lz_151, uz_151⟩ := hO.gi h_b (by decide) k4_13
                  have hG_153 := hG_140.call (c2 := cc_144) (j2 := jj_145) (t2 := gI σ_s_143 b 13) (fun _ => GS.cg1 (hw_142.2.1 rfl).2.2 (by omega) rfl (by omega)) (fun h9 => absurd rfl h9)
                  have hqhw_142 := (hw_142.2.1 rfl).1
                  have hQhw_142 := (hw_142.2.1 rfl).2.1
                  have hRhw_142 := hw_142.2.2
                  try replace hw_142 := hid.mk hw_142
                  refine lv_aload_n hx hb dX5_readAtom_123 rfl (lv_at hl 1 rfl) ?_
                  refine ok.getR hO h_a (by decide) k11_0 (by decide) (fun _ _ he hv kk => th_get (ci := 5) (C := RX5) (T := TX5) (N := 1) hx hb hts inX5 hown hK hH he rfl 0 (by decide) fl0 hv dX5_readAtom_124 kk) ?_
                  refine lv_bipush (v := I 41) hx hb dX5_readAtom_127 (by decide) ?_
                  obtain ⟨_, hc_154⟩ := hO.cell hp_5 (by decide) (ci := 8) rfl
                  refine th_callv (va_runV (As := [.int (I 41)]) (rest := []) ⟨hx, hb, hml, hown, hts⟩ (f_expect l G y b0 σ_s_143 E hO (ad E a 0) hp_5 41 (show rng 41 from (show rng 41 from ⟨by decide, by decide⟩)) (by omega) (by omega) T cc_144 jj_145 hT_146) (cwV 1 hts gX5_readAtom_X8_expect rfl rfl rfl (by decide +kernel) ⟨(by first | (simp only [headSpec]; omega) | omega | (dsimp only; omega)), (by first | (simp only [headSpec]; omega) | omega | (dsimp only; omega))⟩) (th_PV hK hH rfl hc_154) rfl rfl hl.1 rfl (lv_room (Nat.le_of_ble_eq_true rfl)) dX5_readAtom_129 ⟨(by first | (simp only [headSpec]; omega) | omega | (dsimp only; omega)), (by first | (simp only [headSpec]; omega) | omega | (dsimp only; omega))⟩) hS (fun σ_s_156 H locs hw_155 hH hS => ?_)
                  obtain ⟨hO9, hF9, hw_155⟩ := hw_155
                  have e_157 : gI σ_s_156 b 3 = z_149 := (fr.ki hO hF9 h_b (by decide) (by decide) _).trans e_150
                  have e_158 : gI σ_s_156 b 13 = z_151 := (fr.ki hO hF9 h_b (by decide) (by decide) _).trans e_152
                  replace hO := hO9
                  replace hF := hF.tu hF9 (by decide)
                  replace hw_155 : ∃ c1 j1, TSt E σ_s_156 (ad E a 0) T c1 j1 ∧ (cc_144 ≠ 0 → c1 = cc_144 ∧ j1 = jj_145) ∧ (cc_144 = 0 → (tK T jj_145 = 41 ∧ c1 = 0 ∧ j1 = jj_145 + 1) ∨ (tK T jj_145 ≠ 41 ∧ c1 = 1 ∧ j1 = jj_145)) := hw_155
                  obtain ⟨cc_159, jj_160, hT_161, hw_155⟩ := hw_155
                  have hUhT_161 := hT_161.2.2
                  try replace hUhT_146 := hid.mk hUhT_146
                  try replace hw_142 := hid.mk hw_142
                  have hb_162 : jj_145 ≤ jj_160 := by omega
                  have hb_163 : cc_159 = 0 → jj_160 = jj_145 + 1 ∧ cc_144 = 0 := by omega
                  have hG_164 := hG_153.need (c2 := cc_159) (j2 := jj_160) (fun h9 => by omega) (fun h9 => by omega)
                  exact th_vret hx hb hr hlocks hH hS ⟨hO, hF, ⟨cc_159, jj_160, hT_161, (fun h9 => absurd rfl h9), fun _ => ⟨by omega, by omega, hG_164.ec rfl rfl (fun _ => by omega)⟩, by omega, by omega⟩⟩ dX5_readAtom_132
                · replace c_139 := (I_eq (a := z_6) (b := 33) rz_6 (show rng 33 from ⟨by decide, by decide⟩)).mp c_139
                  have hG_165 := hG_4.not (by omega) (by omega)
                  refine lv_aload_n hx hb dX5_readAtom_98 rfl (lv_at hl 1 rfl) ?_
                  refine lv_aload_n hx hb dX5_readAtom_99 rfl (lv_at hl 2 rfl) ?_
                  refine lv_iload_n hx hb dX5_readAtom_100 rfl (lv_at hl 3 rfl) ?_
                  refine lv_iconst (v := I 1) hx hb dX5_readAtom_101 (by decide) ?_
                  refine lv_iadd hx hb dX5_readAtom_102 ?_
                  refine nq_top (I_add _ _) ?_
                  obtain ⟨_, hc_166⟩ := hO.cell h_a (by decide) (ci := 5) rfl
                  refine th_callv (va_runV (As := [.ref b, .int (I (lv + 1))]) (rest := []) ⟨hx, hb, hml, hown, hts⟩ (ih l G y b0 σ_s_128 E hO a h_a b h_b (lv + 1) (show rng (lv + 1) from ⟨by omega, by omega⟩) (by omega) (by omega) T 0 (jt + 1) hT_133 (by omega) (by omega)) (cwV 2 hts gX5_readAtom_X5_readAtom rfl rfl rfl (by decide +kernel) ⟨(by first | (simp only [headSpec]; omega) | omega | (dsimp only; omega)), (by first | (simp only [headSpec]; omega) | omega | (dsimp only; omega))⟩) (th_PV hK hH rfl hc_166) rfl rfl hl.1 rfl (lv_room (Nat.le_of_ble_eq_true rfl)) dX5_readAtom_103 ⟨(by first | (simp only [headSpec]; omega) | omega | (dsimp only; omega)), (by first | (simp only [headSpec]; omega) | omega | (dsimp only; omega))⟩) hS (fun σ_s_168 H locs hw_167 hH hS => ?_)
                  obtain ⟨hO9, hF9, hw_167⟩ := hw_167
                  replace hO := hO9
                  replace hF := hF.tu hF9 (by decide)
                  replace hw_167 : ∃ c1 j1, TSt E σ_s_168 (ad E a 0) T c1 j1 ∧ ((0 : Int) ≠ 0 → c1 = 0 ∧ j1 = (jt + 1)) ∧ ((0 : Int) = 0 → (jt + 1) ≤ j1 ∧ (c1 = 0 → (jt + 1) < j1) ∧ GS T [(1, (lv + 1))] (jt + 1) (gI σ_s_128 b 13) [] c1 j1 (gI σ_s_168 b 13)) ∧ (c1 = 0 → 0 ≤ gI σ_s_168 b 13 ∧ gI σ_s_168 b 13 ≤ 12) ∧ gI σ_s_168 b 3 = gI σ_s_128 b 3 := hw_167
                  obtain ⟨cc_169, jj_170, hT_171, hw_167⟩ := hw_167
                  have hUhT_171 := hT_171.2.2
                  try replace hUhT_133 := hid.mk hUhT_133
                  try replace hw_127 := hid.mk hw_127
                  have hb_172 : (jt + 1) ≤ jj_170 := by omega
                  try have hb_173 : cc_169 = 0 → 0 ≤ gI σ_s_168 b 13 ∧ gI σ_s_168 b 13 ≤ 12 := by omega
                  obtain ⟨z_174, e_175, rz_174, lz_174, uz_174⟩ := hO.gi h_b (by decide) k4_3
                  obtain ⟨z_176, e_177, rz_176, lz_176, uz_176⟩ := hO.gi h_b (by decide) k4_13
                  have hG_178 := hG_165.call (c2 := cc_169) (j2 := jj_170) (t2 := gI σ_s_168 b 13) (fun _ => GS.cg1 (hw_167.2.1 rfl).2.2 (by omega) rfl (by omega)) (fun h9 => absurd rfl h9)
                  have hqhw_167 := (hw_167.2.1 rfl).1
                  have hQhw_167 := (hw_167.2.1 rfl).2.1
                  have hRhw_167 := hw_167.2.2
                  try replace hw_167 := hid.mk hw_167
                  refine lv_aload_n hx hb dX5_readAtom_106 rfl (lv_at hl 2 rfl) ?_
                  refine lv_bipush (v := I (-4)) hx hb dX5_readAtom_107 (by decide) ?_
                  obtain ⟨_, hc_179⟩ := hO.cell h_b (by decide) (ci := 4) rfl
                  refine th_callv (va_runV (As := [.int (I (-4))]) (rest := []) ⟨hx, hb, hml, hown, hts⟩ (p6_addCode l G y b0 σ_s_168 E hO b h_b (-4) (show rng (-4) from (show rng (-4) from ⟨by decide, by decide⟩))) (cwV 1 hts gX5_readAtom_X4_addCode rfl rfl rfl (by decide +kernel) ⟨(by first | (simp only [headSpec]; omega) | omega | (dsimp only; omega)), (by first | (simp only [headSpec]; omega) | omega | (dsimp only; omega))⟩) (th_PV hK hH rfl hc_179) rfl rfl hl.1 rfl (lv_room (Nat.le_of_ble_eq_true rfl)) dX5_readAtom_109 ⟨(by first | (simp only [headSpec]; omega) | omega | (dsimp only; omega)), (by first | (simp only [headSpec]; omega) | omega | (dsimp only; omega))⟩) hS (fun σ_s_181 H locs hw_180 hH hS => ?_)
                  obtain ⟨hO9, hF9, hw_180⟩ := hw_180
                  have hT_182 : TSt E σ_s_181 (ad E a 0) T cc_169 jj_170 := TSt.mv hO hF9 hkt (by decide) hT_171
                  have hUhT_182 := hT_182.2.2
                  replace hO := hO9
                  replace hF := hF.tu hF9 (by decide)
                  replace hw_180 : gI σ_s_181 b 13 = gI σ_s_168 b 13 ∧ gI σ_s_181 b 3 = gI σ_s_168 b 3 := hw_180
                  try replace hUhT_171 := hid.mk hUhT_171
                  try replace hw_167 := hid.mk hw_167
                  try simp only [ne_eq, not_true_eq_false, not_false_eq_true, false_implies, true_implies, true_and, and_true, eq_self, false_or, or_false, false_and, and_false] at hUhT_182
                  have e_183 : gI σ_s_181 b 3 = z_174 := by omega
                  have e_184 : gI σ_s_181 b 13 = z_176 := by omega
                  refine lv_goto (tgt := 132) hx hb dX5_readAtom_112 (by decide) ?_
                  exact th_vret hx hb hr hlocks hH hS ⟨hO, hF, ⟨cc_169, jj_170, hT_182, (fun h9 => absurd rfl h9), fun _ => ⟨by omega, by omega, hG_178.ec rfl rfl (fun _ => by omega)⟩, by omega, by omega⟩⟩ dX5_readAtom_132
              · replace c_138 := (I_eq (a := z_6) (b := 64) rz_6 (show rng 64 from ⟨by decide, by decide⟩)).mp c_138
                have hG_185 := hG_4.test (by omega) (by omega)
                exfalso; omega
            · replace c_125 := mt (I_lt (a := lv) (b := 5) rlv (show rng 5 from ⟨by decide, by decide⟩)).mpr c_125
              refine lv_aload_n hx hb dX5_readAtom_60 rfl (lv_at hl 1 rfl) ?_
              refine ok.getR hO h_a (by decide) k11_0 (by decide) (fun _ _ he hv kk => th_get (ci := 5) (C := RX5) (T := TX5) (N := 1) hx hb hts inX5 hown hK hH he rfl 0 (by decide) fl0 hv dX5_readAtom_61 kk) ?_
              refine lv_iconst (v := I 2) hx hb dX5_readAtom_64 (by decide) ?_
              obtain ⟨_, hc_186⟩ := hO.cell hp_5 (by decide) (ci := 8) rfl
              refine th_callv (va_runV (As := [.int (I 2)]) (rest := []) ⟨hx, hb, hml, hown, hts⟩ (f_fail l G y b0 σ E hO (ad E a 0) hp_5 2 (show rng 2 from (show rng 2 from ⟨by decide, by decide⟩)) T 0 jt hT0 (by omega)) (cwV 1 hts gX5_readAtom_X8_fail rfl rfl rfl (by decide +kernel) ⟨(by first | (simp only [headSpec]; omega) | omega | (dsimp only; omega)), (by first | (simp only [headSpec]; omega) | omega | (dsimp only; omega))⟩) (th_PV hK hH rfl hc_186) rfl rfl hl.1 rfl (lv_room (Nat.le_of_ble_eq_true rfl)) dX5_readAtom_65 ⟨(by first | (simp only [headSpec]; omega) | omega | (dsimp only; omega)), (by first | (simp only [headSpec]; omega) | omega | (dsimp only; omega))⟩) hS (fun σ_s_188 H locs hw_187 hH hS => ?_)
              obtain ⟨hO9, hF9, hw_187⟩ := hw_187
              have e_189 : gI σ_s_188 b 3 = b30 := (fr.ki hO hF9 h_b (by decide) (by decide) _).trans eb30
              have e_190 : gI σ_s_188 b 13 = b130 := (fr.ki hO hF9 h_b (by decide) (by decide) _).trans eb130
              replace hO := hO9
              replace hF := hF.tu hF9 (by decide)
              replace hw_187 : ∃ c1 j1, TSt E σ_s_188 (ad E a 0) T c1 j1 ∧ j1 = jt ∧ ((0 : Int) = 0 → c1 = 2) ∧ ((0 : Int) ≠ 0 → c1 = 0) := hw_187
              obtain ⟨cc_191, jj_192, hT_193, hw_187⟩ := hw_187
              have hUhT_193 := hT_193.2.2
              try replace hU0 := hid.mk hU0
              have h0_194 : ¬ cc_191 = 0 := by omega
              try simp only [h0_194, ne_eq, not_true_eq_false, not_false_eq_true, false_implies, true_implies, true_and, and_true, eq_self, false_or, or_false, false_and, and_false] at hUhT_193
              have e_195 : gI σ_s_188 (ad E a 0) 6 = 260 := by omega
              have hj_196 : jt = jj_192 := by omega
              subst hj_196
              have hG_197 := hG_4.deep (c2 := cc_191) (j2 := jt) (l2 := []) (t2 := 0) (by omega) (by omega) (by omega) rfl
              refine lv_goto (tgt := 132) hx hb dX5_readAtom_68 (by decide) ?_
              exact th_vret hx hb hr hlocks hH hS ⟨hO, hF, ⟨cc_191, jt, hT_193, (fun h9 => absurd rfl h9), fun _ => ⟨by omega, fun h9 => absurd h9 h0_194, hG_197.was h0_194⟩, fun h9 => absurd h9 h0_194, by omega⟩⟩ dX5_readAtom_132
          · replace c_124 := (I_eq (a := z_6) (b := 64) rz_6 (show rng 64 from ⟨by decide, by decide⟩)).mp c_124
            refine lv_aload_n hx hb dX5_readAtom_43 rfl (lv_at hl 2 rfl) ?_
            refine ok.getIc hO h_b (by decide) k4_13 eb130 (fun _ _ he hv kk => th_getN (ci := 4) (C := RX4) (T := TX4) (N := 14) hx hb hts inX4 hown hK hH he rfl 13 (by decide) (nl_3 hK) hv dX5_readAtom_44 kk) ?_
            refine lv_bipush (v := I 12) hx hb dX5_readAtom_47 (by decide) ?_
            refine lv_icmp_lt (tgt := 71) hx hb dX5_readAtom_49 (by decide) (fun c_198 => ?_) (fun c_198 => ?_)
            · replace c_198 := (I_lt (a := b130) (b := 12) rb130 (show rng 12 from ⟨by decide, by decide⟩)).mp c_198
              refine lv_aload_n hx hb dX5_readAtom_71 rfl (lv_at hl 1 rfl) ?_
              refine ok.getR hO h_a (by decide) k11_0 (by decide) (fun _ _ he hv kk => th_get (ci := 5) (C := RX5) (T := TX5) (N := 1) hx hb hts inX5 hown hK hH he rfl 0 (by decide) fl0 hv dX5_readAtom_72 kk) ?_
              obtain ⟨_, hc_199⟩ := hO.cell hp_5 (by decide) (ci := 8) rfl
              refine th_callv (va_runV (As := []) (rest := []) ⟨hx, hb, hml, hown, hts⟩ (f_step l G y b0 σ E hO (ad E a 0) hp_5 T 0 jt hT0) (cwV 0 hts gX5_readAtom_X8_step rfl rfl rfl (by decide +kernel) ⟨(by first | (simp only [headSpec]; omega) | omega | (dsimp only; omega)), (by first | (simp only [headSpec]; omega) | omega | (dsimp only; omega))⟩) (th_PV hK hH rfl hc_199) rfl rfl hl.1 rfl (lv_room (Nat.le_of_ble_eq_true rfl)) dX5_readAtom_75 ⟨(by first | (simp only [headSpec]; omega) | omega | (dsimp only; omega)), (by first | (simp only [headSpec]; omega) | omega | (dsimp only; omega))⟩) hS (fun σ_s_201 H locs hw_200 hH hS => ?_)
              obtain ⟨hO9, hF9, hw_200⟩ := hw_200
              have e_202 : gI σ_s_201 b 3 = b30 := (fr.ki hO hF9 h_b (by decide) (by decide) _).trans eb30
              have e_203 : gI σ_s_201 b 13 = b130 := (fr.ki hO hF9 h_b (by decide) (by decide) _).trans eb130
              replace hO := hO9
              replace hF := hF.tu hF9 (by decide)
              replace hw_200 : ∃ c1 j1, TSt E σ_s_201 (ad E a 0) T c1 j1 ∧ c1 = 0 ∧ ((0 : Int) ≠ 0 → j1 = jt) ∧ ((0 : Int) = 0 → tK T jt ≠ 259 → j1 = jt + 1) := hw_200
              obtain ⟨cc_204, jj_205, hT_206, hw_200⟩ := hw_200
              have hUhT_206 := hT_206.2.2
              try replace hU0 := hid.mk hU0
              have h0_207 : cc_204 = 0 := by omega
              subst h0_207
              try simp only [ne_eq, not_true_eq_false, not_false_eq_true, false_implies, true_implies, true_and, and_true, eq_self, false_or, or_false, false_and, and_false] at hUhT_206
              have e_208 : gI σ_s_201 (ad E a 0) 7 = 0 := by omega
              have hk_209 : gI σ_s_201 (ad E a 0) 6 = tK T jj_205 := by omega
              have hj_210 : jt + 1 = jj_205 := by omega
              subst hj_210
              refine lv_iload_n hx hb dX5_readAtom_78 rfl (lv_at hl 0 rfl) ?_
              refine lv_bipush (v := I 64) hx hb dX5_readAtom_79 (by decide) ?_
              refine lv_icmp_ne (tgt := 92) hx hb dX5_readAtom_81 (by decide) (fun c_211 => ?_) (fun c_211 => ?_)
              · replace c_211 := mt (I_eq (a := z_6) (b := 64) rz_6 (show rng 64 from ⟨by decide, by decide⟩)).mpr c_211
                exfalso; omega
              · replace c_211 := (I_eq (a := z_6) (b := 64) rz_6 (show rng 64 from ⟨by decide, by decide⟩)).mp c_211
                have hG_212 := hG_4.test (by omega) (by omega)
                refine lv_aload_n hx hb dX5_readAtom_84 rfl (lv_at hl 1 rfl) ?_
                refine lv_aload_n hx hb dX5_readAtom_85 rfl (lv_at hl 2 rfl) ?_
                obtain ⟨_, hc_213⟩ := hO.cell h_a (by decide) (ci := 5) rfl
                refine th_callv (va_runV (As := [.ref b]) (rest := []) ⟨hx, hb, hml, hown, hts⟩ (s6_readTest l G y b0 σ_s_201 E hO a h_a b h_b T 0 (jt + 1) hT_206 (gI σ b 13 + 1) (by omega)) (cwV 1 hts gX5_readAtom_X5_readTest rfl rfl rfl (by decide +kernel) ⟨(by first | (simp only [headSpec]; omega) | omega | (dsimp only; omega)), (by first | (simp only [headSpec]; omega) | omega | (dsimp only; omega))⟩) (th_PV hK hH rfl hc_213) rfl rfl hl.1 rfl (lv_room (Nat.le_of_ble_eq_true rfl)) dX5_readAtom_86 ⟨(by first | (simp only [headSpec]; omega) | omega | (dsimp only; omega)), (by first | (simp only [headSpec]; omega) | omega | (dsimp only; omega))⟩) hS (fun σ_s_215 H locs hw_214 hH hS => ?_)
                obtain ⟨hO9, hF9, hw_214⟩ := hw_214
                replace hO := hO9
                replace hF := hF.tu hF9 (by decide)
                replace hw_214 : ∃ c1 j1, TSt E σ_s_215 (ad E a 0) T c1 j1 ∧ ((0 : Int) ≠ 0 → c1 = 0 ∧ j1 = (jt + 1)) ∧ ((0 : Int) = 0 → (jt + 1) ≤ j1 ∧ GS T [(4, 0)] (jt + 1) (gI σ b 13 + 1) [] c1 j1 (gI σ b 13 + 1)) ∧ (gI σ_s_201 b 13 < 12 → gI σ_s_215 b 13 = gI σ_s_201 b 13 + 1) ∧ gI σ_s_215 b 3 = gI σ_s_201 b 3 := hw_214
                obtain ⟨cc_216, jj_217, hT_218, hw_214⟩ := hw_214
                have hUhT_218 := hT_218.2.2
                try replace hUhT_206 := hid.mk hUhT_206
                try replace hw_200 := hid.mk hw_200
                have hb_219 : (jt + 1) ≤ jj_217 := by omega
                try have hb_220 : cc_216 = 0 → 0 ≤ gI σ_s_215 b 13 ∧ gI σ_s_215 b 13 ≤ 12 := by omega
                obtain ⟨z_221, e_222, rz_221, lz_221, uz_221⟩ := hO.gi h_b (by decide) k4_3
                obtain ⟨z_223, e_224, rz_223, lz_223, uz_223⟩ := hO.gi h_b (by decide) k4_13
                have hG_225 := hG_212.call (c2 := cc_216) (j2 := jj_217) (t2 := gI σ b 13 + 1) (fun _ => (hw_214.2.1 rfl).2) (fun h9 => absurd rfl h9)
                have hqhw_214 := (hw_214.2.1 rfl).1
                have hRhw_214 := hw_214.2.2
                try replace hw_214 := hid.mk hw_214
                refine lv_goto (tgt := 132) hx hb dX5_readAtom_89 (by decide) ?_
                exact th_vret hx hb hr hlocks hH hS ⟨hO, hF, ⟨cc_216, jj_217, hT_218, (fun h9 => absurd rfl h9), fun _ => ⟨by omega, by omega, hG_225.ec rfl rfl (fun _ => by omega)⟩, by omega, by omega⟩⟩ dX5_readAtom_132
            · replace c_198 := mt (I_lt (a := b130) (b := 12) rb130 (show rng 12 from ⟨by decide, by decide⟩)).mpr c_198
              refine lv_goto (tgt := 60) hx hb dX5_readAtom_52 (by decide) ?_
              refine lv_aload_n hx hb dX5_readAtom_60 rfl (lv_at hl 1 rfl) ?_
              refine ok.getR hO h_a (by decide) k11_0 (by decide) (fun _ _ he hv kk => th_get (ci := 5) (C := RX5) (T := TX5) (N := 1) hx hb hts inX5 hown hK hH he rfl 0 (by decide) fl0 hv dX5_readAtom_61 kk) ?_
              refine lv_iconst (v := I 2) hx hb dX5_readAtom_64 (by decide) ?_
              obtain ⟨_, hc_226⟩ := hO.cell hp_5 (by decide) (ci := 8) rfl
              refine th_callv (va_runV (As := [.int (I 2)]) (rest := []) ⟨hx, hb, hml, hown, hts⟩ (f_fail l G y b0 σ E hO (ad E a 0) hp_5 2 (show rng 2 from (show rng 2 from ⟨by decide, by decide⟩)) T 0 jt hT0 (by omega)) (cwV 1 hts gX5_readAtom_X8_fail rfl rfl rfl (by decide +kernel) ⟨(by first | (simp only [headSpec]; omega) | omega | (dsimp only; omega)), (by first | (simp only [headSpec]; omega) | omega | (dsimp only; omega))⟩) (th_PV hK hH rfl hc_226) rfl rfl hl.1 rfl (lv_room (Nat.le_of_ble_eq_true rfl)) dX5_readAtom_65 ⟨(by first | (simp only [headSpec]; omega) | omega | (dsimp only; omega)), (by first | (simp only [headSpec]; omega) | omega | (dsimp only; omega))⟩) hS (fun σ_s_228 H locs hw_227 hH hS => ?_)
              obtain ⟨hO9, hF9, hw_227⟩ := hw_227
              have e_229 : gI σ_s_228 b 3 = b30 := (fr.ki hO hF9 h_b (by decide) (by decide) _).trans eb30
              have e_230 : gI σ_s_228 b 13 = b130 := (fr.ki hO hF9 h_b (by decide) (by decide) _).trans eb130
              replace hO := hO9
              replace hF := hF.tu hF9 (by decide)
              replace hw_227 : ∃ c1 j1, TSt E σ_s_228 (ad E a 0) T c1 j1 ∧ j1 = jt ∧ ((0 : Int) = 0 → c1 = 2) ∧ ((0 : Int) ≠ 0 → c1 = 0) := hw_227
              obtain ⟨cc_231, jj_232, hT_233, hw_227⟩ := hw_227
              have hUhT_233 := hT_233.2.2
              try replace hU0 := hid.mk hU0
              have h0_234 : ¬ cc_231 = 0 := by omega
              try simp only [h0_234, ne_eq, not_true_eq_false, not_false_eq_true, false_implies, true_implies, true_and, and_true, eq_self, false_or, or_false, false_and, and_false] at hUhT_233
              have e_235 : gI σ_s_228 (ad E a 0) 6 = 260 := by omega
              have hj_236 : jt = jj_232 := by omega
              subst hj_236
              have hG_237 := hG_4.tests (c2 := cc_231) (j2 := jt) (l2 := []) (t2 := 0) (by omega) (by omega) (by omega) rfl
              refine lv_goto (tgt := 132) hx hb dX5_readAtom_68 (by decide) ?_
              exact th_vret hx hb hr hlocks hH hS ⟨hO, hF, ⟨cc_231, jt, hT_233, (fun h9 => absurd rfl h9), fun _ => ⟨by omega, fun h9 => absurd h9 h0_234, hG_237.was h0_234⟩, fun h9 => absurd h9 h0_234, by omega⟩⟩ dX5_readAtom_132
        · replace c_123 := mt (I_eq (a := z_6) (b := 40) rz_6 (show rng 40 from ⟨by decide, by decide⟩)).mpr c_123
          refine lv_iload_n hx hb dX5_readAtom_20 rfl (lv_at hl 0 rfl) ?_
          refine lv_bipush (v := I 64) hx hb dX5_readAtom_21 (by decide) ?_
          refine lv_icmp_eq (tgt := 37) hx hb dX5_readAtom_23 (by decide) (fun c_238 => ?_) (fun c_238 => ?_)
          · replace c_238 := (I_eq (a := z_6) (b := 64) rz_6 (show rng 64 from ⟨by decide, by decide⟩)).mp c_238
            refine lv_iload_n hx hb dX5_readAtom_37 rfl (lv_at hl 0 rfl) ?_
            refine lv_bipush (v := I 64) hx hb dX5_readAtom_38 (by decide) ?_
            refine lv_icmp_ne (tgt := 55) hx hb dX5_readAtom_40 (by decide) (fun c_239 => ?_) (fun c_239 => ?_)
            · replace c_239 := mt (I_eq (a := z_6) (b := 64) rz_6 (show rng 64 from ⟨by decide, by decide⟩)).mpr c_239
              refine lv_iload_n hx hb dX5_readAtom_55 rfl (lv_at hl 3 rfl) ?_
              refine lv_iconst (v := I 5) hx hb dX5_readAtom_56 (by decide) ?_
              refine lv_icmp_lt (tgt := 71) hx hb dX5_readAtom_57 (by decide) (fun c_240 => ?_) (fun c_240 => ?_)
              · replace c_240 := (I_lt (a := lv) (b := 5) rlv (show rng 5 from ⟨by decide, by decide⟩)).mp c_240
                refine lv_aload_n hx hb dX5_readAtom_71 rfl (lv_at hl 1 rfl) ?_
                refine ok.getR hO h_a (by decide) k11_0 (by decide) (fun _ _ he hv kk => th_get (ci := 5) (C := RX5) (T := TX5) (N := 1) hx hb hts inX5 hown hK hH he rfl 0 (by decide) fl0 hv dX5_readAtom_72 kk) ?_
                obtain ⟨_, hc_241⟩ := hO.cell hp_5 (by decide) (ci := 8) rfl
                refine th_callv (va_runV (As := []) (rest := []) ⟨hx, hb, hml, hown, hts⟩ (f_step l G y b0 σ E hO (ad E a 0) hp_5 T 0 jt hT0) (cwV 0 hts gX5_readAtom_X8_step rfl rfl rfl (by decide +kernel) ⟨(by first | (simp only [headSpec]; omega) | omega | (dsimp only; omega)), (by first | (simp only [headSpec]; omega) | omega | (dsimp only; omega))⟩) (th_PV hK hH rfl hc_241) rfl rfl hl.1 rfl (lv_room (Nat.le_of_ble_eq_true rfl)) dX5_readAtom_75 ⟨(by first | (simp only [headSpec]; omega) | omega | (dsimp only; omega)), (by first | (simp only [headSpec]; omega) | omega | (dsimp only; omega))⟩) hS (fun σ_s_243 H locs hw_242 hH hS => ?_)
                obtain ⟨hO9, hF9, hw_242⟩ := hw_242
                have e_244 : gI σ_s_243 b 3 = b30 := (fr.ki hO hF9 h_b (by decide) (by decide) _).trans eb30
                have e_245 : gI σ_s_243 b 13 = b130 := (fr.ki hO hF9 h_b (by decide) (by decide) _).trans eb130
                replace hO := hO9
                replace hF := hF.tu hF9 (by decide)
                replace hw_242 : ∃ c1 j1, TSt E σ_s_243 (ad E a 0) T c1 j1 ∧ c1 = 0 ∧ ((0 : Int) ≠ 0 → j1 = jt) ∧ ((0 : Int) = 0 → tK T jt ≠ 259 → j1 = jt + 1) := hw_242
                obtain ⟨cc_246, jj_247, hT_248, hw_242⟩ := hw_242
                have hUhT_248 := hT_248.2.2
                try replace hU0 := hid.mk hU0
                have h0_249 : cc_246 = 0 := by omega
                subst h0_249
                try simp only [ne_eq, not_true_eq_false, not_false_eq_true, false_implies, true_implies, true_and, and_true, eq_self, false_or, or_false, false_and, and_false] at hUhT_248
                have e_250 : gI σ_s_243 (ad E a 0) 7 = 0 := by omega
                have hk_251 : gI σ_s_243 (ad E a 0) 6 = tK T jj_247 := by omega
                have hj_252 : jt + 1 = jj_247 := by omega
                subst hj_252
                refine lv_iload_n hx hb dX5_readAtom_78 rfl (lv_at hl 0 rfl) ?_
                refine lv_bipush (v := I 64) hx hb dX5_readAtom_79 (by decide) ?_
                refine lv_icmp_ne (tgt := 92) hx hb dX5_readAtom_81 (by decide) (fun c_253 => ?_) (fun c_253 => ?_)
                · replace c_253 := mt (I_eq (a := z_6) (b := 64) rz_6 (show rng 64 from ⟨by decide, by decide⟩)).mpr c_253
                  refine lv_iload_n hx hb dX5_readAtom_92 rfl (lv_at hl 0 rfl) ?_
                  refine lv_bipush (v := I 33) hx hb dX5_readAtom_93 (by decide) ?_
                  refine lv_icmp_ne (tgt := 115) hx hb dX5_readAtom_95 (by decide) (fun c_254 => ?_) (fun c_254 => ?_)
                  · replace c_254 := mt (I_eq (a := z_6) (b := 33) rz_6 (show rng 33 from ⟨by decide, by decide⟩)).mpr c_254
                    have hG_255 := hG_4.open_ (by omega) (by omega)
                    refine lv_aload_n hx hb dX5_readAtom_115 rfl (lv_at hl 1 rfl) ?_
                    refine lv_aload_n hx hb dX5_readAtom_116 rfl (lv_at hl 2 rfl) ?_
                    refine lv_iload_n hx hb dX5_readAtom_117 rfl (lv_at hl 3 rfl) ?_
                    refine lv_iconst (v := I 1) hx hb dX5_readAtom_118 (by decide) ?_
                    refine lv_iadd hx hb dX5_readAtom_119 ?_
                    refine nq_top (I_add _ _) ?_
                    obtain ⟨_, hc_256⟩ := hO.cell h_a (by decide) (ci := 5) rfl
                    refine th_callv (va_runV (As := [.ref b, .int (I (lv + 1))]) (rest := []) ⟨hx, hb, hml, hown, hts⟩ (s6_readCond n ih l G y b0 σ_s_243 E hO a h_a b h_b (lv + 1) (show rng (lv + 1) from ⟨by omega, by omega⟩) (by omega) (by omega) T 0 (jt + 1) hT_248 (by omega) (by omega)) (cwV 2 hts gX5_readAtom_X5_readCond rfl rfl rfl (by decide +kernel) ⟨(by first | (simp only [headSpec]; omega) | omega | (dsimp only; omega)), (by first | (simp only [headSpec]; omega) | omega | (dsimp only; omega))⟩) (th_PV hK hH rfl hc_256) rfl rfl hl.1 rfl (lv_room (Nat.le_of_ble_eq_true rfl)) dX5_readAtom_120 ⟨(by first | (simp only [headSpec]; omega) | omega | (dsimp only; omega)), (by first | (simp only [headSpec]; omega) | omega | (dsimp only; omega))⟩) hS (fun σ_s_258 H locs hw_257 hH hS => ?_)
                    obtain ⟨hO9, hF9, hw_257⟩ := hw_257
                    replace hO := hO9
                    replace hF := hF.tu hF9 (by decide)
                    replace hw_257 : ∃ c1 j1, TSt E σ_s_258 (ad E a 0) T c1 j1 ∧ ((0 : Int) ≠ 0 → c1 = 0 ∧ j1 = (jt + 1)) ∧ ((0 : Int) = 0 → (jt + 1) ≤ j1 ∧ (c1 = 0 → (jt + 1) < j1) ∧ GS T [(2, (lv + 1))] (jt + 1) (gI σ_s_243 b 13) [] c1 j1 (gI σ_s_258 b 13)) ∧ (c1 = 0 → 0 ≤ gI σ_s_258 b 13 ∧ gI σ_s_258 b 13 ≤ 12) ∧ gI σ_s_258 b 3 = gI σ_s_243 b 3 := hw_257
                    obtain ⟨cc_259, jj_260, hT_261, hw_257⟩ := hw_257
                    have hUhT_261 := hT_261.2.2
                    try replace hUhT_248 := hid.mk hUhT_248
                    try replace hw_242 := hid.mk hw_242
                    have hb_262 : (jt + 1) ≤ jj_260 := by omega
                    try have hb_263 : cc_259 = 0 → 0 ≤ gI σ_s_258 b 13 ∧ gI σ_s_258 b 13 ≤ 12 := by omega
                    obtain ⟨z_264, e_265, rz_264, lz_264, uz_264⟩ := hO.gi h_b (by decide) k4_3
                    obtain ⟨z_266, e_267, rz_266, lz_266, uz_266⟩ := hO.gi h_b (by decide) k4_13
                    have hG_268 := hG_255.call (c2 := cc_259) (j2 := jj_260) (t2 := gI σ_s_258 b 13) (fun _ => GS.cg1 (hw_257.2.1 rfl).2.2 (by omega) rfl (by omega)) (fun h9 => absurd rfl h9)
                    have hqhw_257 := (hw_257.2.1 rfl).1
                    have hQhw_257 := (hw_257.2.1 rfl).2.1
                    have hRhw_257 := hw_257.2.2
                    try replace hw_257 := hid.mk hw_257
                    refine lv_aload_n hx hb dX5_readAtom_123 rfl (lv_at hl 1 rfl) ?_
                    refine ok.getR hO h_a (by decide) k11_0 (by decide) (fun _ _ he hv kk => th_get (ci := 5) (C := RX5) (T := TX5) (N := 1) hx hb hts inX5 hown hK hH he rfl 0 (by decide) fl0 hv dX5_readAtom_124 kk) ?_
                    refine lv_bipush (v := I 41) hx hb dX5_readAtom_127 (by decide) ?_
                    obtain ⟨_, hc_269⟩ := hO.cell hp_5 (by decide) (ci := 8) rfl
                    refine th_callv (va_runV (As := [.int (I 41)]) (rest := []) ⟨hx, hb, hml, hown, hts⟩ (f_expect l G y b0 σ_s_258 E hO (ad E a 0) hp_5 41 (show rng 41 from (show rng 41 from ⟨by decide, by decide⟩)) (by omega) (by omega) T cc_259 jj_260 hT_261) (cwV 1 hts gX5_readAtom_X8_expect rfl rfl rfl (by decide +kernel) ⟨(by first | (simp only [headSpec]; omega) | omega | (dsimp only; omega)), (by first | (simp only [headSpec]; omega) | omega | (dsimp only; omega))⟩) (th_PV hK hH rfl hc_269) rfl rfl hl.1 rfl (lv_room (Nat.le_of_ble_eq_true rfl)) dX5_readAtom_129 ⟨(by first | (simp only [headSpec]; omega) | omega | (dsimp only; omega)), (by first | (simp only [headSpec]; omega) | omega | (dsimp only; omega))⟩) hS (fun σ_s_271 H locs hw_270 hH hS => ?_)
                    obtain ⟨hO9, hF9, hw_270⟩ := hw_270
                    have e_272 : gI σ_s_271 b 3 = z_264 := (fr.ki hO hF9 h_b (by decide) (by decide) _).trans e_265
                    have e_273 : gI σ_s_271 b 13 = z_266 := (fr.ki hO hF9 h_b (by decide) (by decide) _).trans e_267
                    replace hO := hO9
                    replace hF := hF.tu hF9 (by decide)
                    replace hw_270 : ∃ c1 j1, TSt E σ_s_271 (ad E a 0) T c1 j1 ∧ (cc_259 ≠ 0 → c1 = cc_259 ∧ j1 = jj_260) ∧ (cc_259 = 0 → (tK T jj_260 = 41 ∧ c1 = 0 ∧ j1 = jj_260 + 1) ∨ (tK T jj_260 ≠ 41 ∧ c1 = 1 ∧ j1 = jj_260)) := hw_270
                    obtain ⟨cc_274, jj_275, hT_276, hw_270⟩ := hw_270
                    have hUhT_276 := hT_276.2.2
                    try replace hUhT_261 := hid.mk hUhT_261
                    try replace hw_257 := hid.mk hw_257
                    have hb_277 : jj_260 ≤ jj_275 := by omega
                    have hb_278 : cc_274 = 0 → jj_275 = jj_260 + 1 ∧ cc_259 = 0 := by omega
                    have hG_279 := hG_268.need (c2 := cc_274) (j2 := jj_275) (fun h9 => by omega) (fun h9 => by omega)
                    exact th_vret hx hb hr hlocks hH hS ⟨hO, hF, ⟨cc_274, jj_275, hT_276, (fun h9 => absurd rfl h9), fun _ => ⟨by omega, by omega, hG_279.ec rfl rfl (fun _ => by omega)⟩, by omega, by omega⟩⟩ dX5_readAtom_132
                  · replace c_254 := (I_eq (a := z_6) (b := 33) rz_6 (show rng 33 from ⟨by decide, by decide⟩)).mp c_254
                    have hG_280 := hG_4.not (by omega) (by omega)
                    refine lv_aload_n hx hb dX5_readAtom_98 rfl (lv_at hl 1 rfl) ?_
                    refine lv_aload_n hx hb dX5_readAtom_99 rfl (lv_at hl 2 rfl) ?_
                    refine lv_iload_n hx hb dX5_readAtom_100 rfl (lv_at hl 3 rfl) ?_
                    refine lv_iconst (v := I 1) hx hb dX5_readAtom_101 (by decide) ?_
                    refine lv_iadd hx hb dX5_readAtom_102 ?_
                    refine nq_top (I_add _ _) ?_
                    obtain ⟨_, hc_281⟩ := hO.cell h_a (by decide) (ci := 5) rfl
                    refine th_callv (va_runV (As := [.ref b, .int (I (lv + 1))]) (rest := []) ⟨hx, hb, hml, hown, hts⟩ (ih l G y b0 σ_s_243 E hO a h_a b h_b (lv + 1) (show rng (lv + 1) from ⟨by omega, by omega⟩) (by omega) (by omega) T 0 (jt + 1) hT_248 (by omega) (by omega)) (cwV 2 hts gX5_readAtom_X5_readAtom rfl rfl rfl (by decide +kernel) ⟨(by first | (simp only [headSpec]; omega) | omega | (dsimp only; omega)), (by first | (simp only [headSpec]; omega) | omega | (dsimp only; omega))⟩) (th_PV hK hH rfl hc_281) rfl rfl hl.1 rfl (lv_room (Nat.le_of_ble_eq_true rfl)) dX5_readAtom_103 ⟨(by first | (simp only [headSpec]; omega) | omega | (dsimp only; omega)), (by first | (simp only [headSpec]; omega) | omega | (dsimp only; omega))⟩) hS (fun σ_s_283 H locs hw_282 hH hS => ?_)
                    obtain ⟨hO9, hF9, hw_282⟩ := hw_282
                    replace hO := hO9
                    replace hF := hF.tu hF9 (by decide)
                    replace hw_282 : ∃ c1 j1, TSt E σ_s_283 (ad E a 0) T c1 j1 ∧ ((0 : Int) ≠ 0 → c1 = 0 ∧ j1 = (jt + 1)) ∧ ((0 : Int) = 0 → (jt + 1) ≤ j1 ∧ (c1 = 0 → (jt + 1) < j1) ∧ GS T [(1, (lv + 1))] (jt + 1) (gI σ_s_243 b 13) [] c1 j1 (gI σ_s_283 b 13)) ∧ (c1 = 0 → 0 ≤ gI σ_s_283 b 13 ∧ gI σ_s_283 b 13 ≤ 12) ∧ gI σ_s_283 b 3 = gI σ_s_243 b 3 := hw_282
                    obtain ⟨cc_284, jj_285, hT_286, hw_282⟩ := hw_282
                    have hUhT_286 := hT_286.2.2
                    try replace hUhT_248 := hid.mk hUhT_248
                    try replace hw_242 := hid.mk hw_242
                    have hb_287 : (jt + 1) ≤ jj_285 := by omega
                    try have hb_288 : cc_284 = 0 → 0 ≤ gI σ_s_283 b 13 ∧ gI σ_s_283 b 13 ≤ 12 := by omega
                    obtain ⟨z_289, e_290, rz_289, lz_289, uz_289⟩ := hO.gi h_b (by decide) k4_3
                    obtain ⟨z_291, e_292, rz_291, lz_291, uz_291⟩ := hO.gi h_b (by decide) k4_13
                    have hG_293 := hG_280.call (c2 := cc_284) (j2 := jj_285) (t2 := gI σ_s_283 b 13) (fun _ => GS.cg1 (hw_282.2.1 rfl).2.2 (by omega) rfl (by omega)) (fun h9 => absurd rfl h9)
                    have hqhw_282 := (hw_282.2.1 rfl).1
                    have hQhw_282 := (hw_282.2.1 rfl).2.1
                    have hRhw_282 := hw_282.2.2
                    try replace hw_282 := hid.mk hw_282
                    refine lv_aload_n hx hb dX5_readAtom_106 rfl (lv_at hl 2 rfl) ?_
                    refine lv_bipush (v := I (-4)) hx hb dX5_readAtom_107 (by decide) ?_
                    obtain ⟨_, hc_294⟩ := hO.cell h_b (by decide) (ci := 4) rfl
                    refine th_callv (va_runV (As := [.int (I (-4))]) (rest := []) ⟨hx, hb, hml, hown, hts⟩ (p6_addCode l G y b0 σ_s_283 E hO b h_b (-4) (show rng (-4) from (show rng (-4) from ⟨by decide, by decide⟩))) (cwV 1 hts gX5_readAtom_X4_addCode rfl rfl rfl (by decide +kernel) ⟨(by first | (simp only [headSpec]; omega) | omega | (dsimp only; omega)), (by first | (simp only [headSpec]; omega) | omega | (dsimp only; omega))⟩) (th_PV hK hH rfl hc_294) rfl rfl hl.1 rfl (lv_room (Nat.le_of_ble_eq_true rfl)) dX5_readAtom_109 ⟨(by first | (simp only [headSpec]; omega) | omega | (dsimp only; omega)), (by first | (simp only [headSpec]; omega) | omega | (dsimp only; omega))⟩) hS (fun σ_s_296 H locs hw_295 hH hS => ?_)
                    obtain ⟨hO9, hF9, hw_295⟩ := hw_295
                    have hT_297 : TSt E σ_s_296 (ad E a 0) T cc_284 jj_285 := TSt.mv hO hF9 hkt (by decide) hT_286
                    have hUhT_297 := hT_297.2.2
                    replace hO := hO9
                    replace hF := hF.tu hF9 (by decide)
                    replace hw_295 : gI σ_s_296 b 13 = gI σ_s_283 b 13 ∧ gI σ_s_296 b 3 = gI σ_s_283 b 3 := hw_295
                    try replace hUhT_286 := hid.mk hUhT_286
                    try replace hw_282 := hid.mk hw_282
                    try simp only [ne_eq, not_true_eq_false, not_false_eq_true, false_implies, true_implies, true_and, and_true, eq_self, false_or, or_false, false_and, and_false] at hUhT_297
                    have e_298 : gI σ_s_296 b 3 = z_289 := by omega
                    have e_299 : gI σ_s_296 b 13 = z_291 := by omega
                    refine lv_goto (tgt := 132) hx hb dX5_readAtom_112 (by decide) ?_
                    exact th_vret hx hb hr hlocks hH hS ⟨hO, hF, ⟨cc_284, jj_285, hT_297, (fun h9 => absurd rfl h9), fun _ => ⟨by omega, by omega, hG_293.ec rfl rfl (fun _ => by omega)⟩, by omega, by omega⟩⟩ dX5_readAtom_132
                · replace c_253 := (I_eq (a := z_6) (b := 64) rz_6 (show rng 64 from ⟨by decide, by decide⟩)).mp c_253
                  have hG_300 := hG_4.test (by omega) (by omega)
                  exfalso; omega
              · replace c_240 := mt (I_lt (a := lv) (b := 5) rlv (show rng 5 from ⟨by decide, by decide⟩)).mpr c_240
                refine lv_aload_n hx hb dX5_readAtom_60 rfl (lv_at hl 1 rfl) ?_
                refine ok.getR hO h_a (by decide) k11_0 (by decide) (fun _ _ he hv kk => th_get (ci := 5) (C := RX5) (T := TX5) (N := 1) hx hb hts inX5 hown hK hH he rfl 0 (by decide) fl0 hv dX5_readAtom_61 kk) ?_
                refine lv_iconst (v := I 2) hx hb dX5_readAtom_64 (by decide) ?_
                obtain ⟨_, hc_301⟩ := hO.cell hp_5 (by decide) (ci := 8) rfl
                refine th_callv (va_runV (As := [.int (I 2)]) (rest := []) ⟨hx, hb, hml, hown, hts⟩ (f_fail l G y b0 σ E hO (ad E a 0) hp_5 2 (show rng 2 from (show rng 2 from ⟨by decide, by decide⟩)) T 0 jt hT0 (by omega)) (cwV 1 hts gX5_readAtom_X8_fail rfl rfl rfl (by decide +kernel) ⟨(by first | (simp only [headSpec]; omega) | omega | (dsimp only; omega)), (by first | (simp only [headSpec]; omega) | omega | (dsimp only; omega))⟩) (th_PV hK hH rfl hc_301) rfl rfl hl.1 rfl (lv_room (Nat.le_of_ble_eq_true rfl)) dX5_readAtom_65 ⟨(by first | (simp only [headSpec]; omega) | omega | (dsimp only; omega)), (by first | (simp only [headSpec]; omega) | omega | (dsimp only; omega))⟩) hS (fun σ_s_303 H locs hw_302 hH hS => ?_)
                obtain ⟨hO9, hF9, hw_302⟩ := hw_302
                have e_304 : gI σ_s_303 b 3 = b30 := (fr.ki hO hF9 h_b (by decide) (by decide) _).trans eb30
                have e_305 : gI σ_s_303 b 13 = b130 := (fr.ki hO hF9 h_b (by decide) (by decide) _).trans eb130
                replace hO := hO9
                replace hF := hF.tu hF9 (by decide)
                replace hw_302 : ∃ c1 j1, TSt E σ_s_303 (ad E a 0) T c1 j1 ∧ j1 = jt ∧ ((0 : Int) = 0 → c1 = 2) ∧ ((0 : Int) ≠ 0 → c1 = 0) := hw_302
                obtain ⟨cc_306, jj_307, hT_308, hw_302⟩ := hw_302
                have hUhT_308 := hT_308.2.2
                try replace hU0 := hid.mk hU0
                have h0_309 : ¬ cc_306 = 0 := by omega
                try simp only [h0_309, ne_eq, not_true_eq_false, not_false_eq_true, false_implies, true_implies, true_and, and_true, eq_self, false_or, or_false, false_and, and_false] at hUhT_308
                have e_310 : gI σ_s_303 (ad E a 0) 6 = 260 := by omega
                have hj_311 : jt = jj_307 := by omega
                subst hj_311
                have hG_312 := hG_4.deep (c2 := cc_306) (j2 := jt) (l2 := []) (t2 := 0) (by omega) (by omega) (by omega) rfl
                refine lv_goto (tgt := 132) hx hb dX5_readAtom_68 (by decide) ?_
                exact th_vret hx hb hr hlocks hH hS ⟨hO, hF, ⟨cc_306, jt, hT_308, (fun h9 => absurd rfl h9), fun _ => ⟨by omega, fun h9 => absurd h9 h0_309, hG_312.was h0_309⟩, fun h9 => absurd h9 h0_309, by omega⟩⟩ dX5_readAtom_132
            · replace c_239 := (I_eq (a := z_6) (b := 64) rz_6 (show rng 64 from ⟨by decide, by decide⟩)).mp c_239
              refine lv_aload_n hx hb dX5_readAtom_43 rfl (lv_at hl 2 rfl) ?_
              refine ok.getIc hO h_b (by decide) k4_13 eb130 (fun _ _ he hv kk => th_getN (ci := 4) (C := RX4) (T := TX4) (N := 14) hx hb hts inX4 hown hK hH he rfl 13 (by decide) (nl_3 hK) hv dX5_readAtom_44 kk) ?_
              refine lv_bipush (v := I 12) hx hb dX5_readAtom_47 (by decide) ?_
              refine lv_icmp_lt (tgt := 71) hx hb dX5_readAtom_49 (by decide) (fun c_313 => ?_) (fun c_313 => ?_)
              · replace c_313 := (I_lt (a := b130) (b := 12) rb130 (show rng 12 from ⟨by decide, by decide⟩)).mp c_313
                refine lv_aload_n hx hb dX5_readAtom_71 rfl (lv_at hl 1 rfl) ?_
                refine ok.getR hO h_a (by decide) k11_0 (by decide) (fun _ _ he hv kk => th_get (ci := 5) (C := RX5) (T := TX5) (N := 1) hx hb hts inX5 hown hK hH he rfl 0 (by decide) fl0 hv dX5_readAtom_72 kk) ?_
                obtain ⟨_, hc_314⟩ := hO.cell hp_5 (by decide) (ci := 8) rfl
                refine th_callv (va_runV (As := []) (rest := []) ⟨hx, hb, hml, hown, hts⟩ (f_step l G y b0 σ E hO (ad E a 0) hp_5 T 0 jt hT0) (cwV 0 hts gX5_readAtom_X8_step rfl rfl rfl (by decide +kernel) ⟨(by first | (simp only [headSpec]; omega) | omega | (dsimp only; omega)), (by first | (simp only [headSpec]; omega) | omega | (dsimp only; omega))⟩) (th_PV hK hH rfl hc_314) rfl rfl hl.1 rfl (lv_room (Nat.le_of_ble_eq_true rfl)) dX5_readAtom_75 ⟨(by first | (simp only [headSpec]; omega) | omega | (dsimp only; omega)), (by first | (simp only [headSpec]; omega) | omega | (dsimp only; omega))⟩) hS (fun σ_s_316 H locs hw_315 hH hS => ?_)
                obtain ⟨hO9, hF9, hw_315⟩ := hw_315
                have e_317 : gI σ_s_316 b 3 = b30 := (fr.ki hO hF9 h_b (by decide) (by decide) _).trans eb30
                have e_318 : gI σ_s_316 b 13 = b130 := (fr.ki hO hF9 h_b (by decide) (by decide) _).trans eb130
                replace hO := hO9
                replace hF := hF.tu hF9 (by decide)
                replace hw_315 : ∃ c1 j1, TSt E σ_s_316 (ad E a 0) T c1 j1 ∧ c1 = 0 ∧ ((0 : Int) ≠ 0 → j1 = jt) ∧ ((0 : Int) = 0 → tK T jt ≠ 259 → j1 = jt + 1) := hw_315
                obtain ⟨cc_319, jj_320, hT_321, hw_315⟩ := hw_315
                have hUhT_321 := hT_321.2.2
                try replace hU0 := hid.mk hU0
                have h0_322 : cc_319 = 0 := by omega
                subst h0_322
                try simp only [ne_eq, not_true_eq_false, not_false_eq_true, false_implies, true_implies, true_and, and_true, eq_self, false_or, or_false, false_and, and_false] at hUhT_321
                have e_323 : gI σ_s_316 (ad E a 0) 7 = 0 := by omega
                have hk_324 : gI σ_s_316 (ad E a 0) 6 = tK T jj_320 := by omega
                have hj_325 : jt + 1 = jj_320 := by omega
                subst hj_325
                refine lv_iload_n hx hb dX5_readAtom_78 rfl (lv_at hl 0 rfl) ?_
                refine lv_bipush (v := I 64) hx hb dX5_readAtom_79 (by decide) ?_
                refine lv_icmp_ne (tgt := 92) hx hb dX5_readAtom_81 (by decide) (fun c_326 => ?_) (fun c_326 => ?_)
                · replace c_326 := mt (I_eq (a := z_6) (b := 64) rz_6 (show rng 64 from ⟨by decide, by decide⟩)).mpr c_326
                  exfalso; omega
                · replace c_326 := (I_eq (a := z_6) (b := 64) rz_6 (show rng 64 from ⟨by decide, by decide⟩)).mp c_326
                  have hG_327 := hG_4.test (by omega) (by omega)
                  refine lv_aload_n hx hb dX5_readAtom_84 rfl (lv_at hl 1 rfl) ?_
                  refine lv_aload_n hx hb dX5_readAtom_85 rfl (lv_at hl 2 rfl) ?_
                  obtain ⟨_, hc_328⟩ := hO.cell h_a (by decide) (ci := 5) rfl
                  refine th_callv (va_runV (As := [.ref b]) (rest := []) ⟨hx, hb, hml, hown, hts⟩ (s6_readTest l G y b0 σ_s_316 E hO a h_a b h_b T 0 (jt + 1) hT_321 (gI σ b 13 + 1) (by omega)) (cwV 1 hts gX5_readAtom_X5_readTest rfl rfl rfl (by decide +kernel) ⟨(by first | (simp only [headSpec]; omega) | omega | (dsimp only; omega)), (by first | (simp only [headSpec]; omega) | omega | (dsimp only; omega))⟩) (th_PV hK hH rfl hc_328) rfl rfl hl.1 rfl (lv_room (Nat.le_of_ble_eq_true rfl)) dX5_readAtom_86 ⟨(by first | (simp only [headSpec]; omega) | omega | (dsimp only; omega)), (by first | (simp only [headSpec]; omega) | omega | (dsimp only; omega))⟩) hS (fun σ_s_330 H locs hw_329 hH hS => ?_)
                  obtain ⟨hO9, hF9, hw_329⟩ := hw_329
                  replace hO := hO9
                  replace hF := hF.tu hF9 (by decide)
                  replace hw_329 : ∃ c1 j1, TSt E σ_s_330 (ad E a 0) T c1 j1 ∧ ((0 : Int) ≠ 0 → c1 = 0 ∧ j1 = (jt + 1)) ∧ ((0 : Int) = 0 → (jt + 1) ≤ j1 ∧ GS T [(4, 0)] (jt + 1) (gI σ b 13 + 1) [] c1 j1 (gI σ b 13 + 1)) ∧ (gI σ_s_316 b 13 < 12 → gI σ_s_330 b 13 = gI σ_s_316 b 13 + 1) ∧ gI σ_s_330 b 3 = gI σ_s_316 b 3 := hw_329
                  obtain ⟨cc_331, jj_332, hT_333, hw_329⟩ := hw_329
                  have hUhT_333 := hT_333.2.2
                  try replace hUhT_321 := hid.mk hUhT_321
                  try replace hw_315 := hid.mk hw_315
                  have hb_334 : (jt + 1) ≤ jj_332 := by omega
                  try have hb_335 : cc_331 = 0 → 0 ≤ gI σ_s_330 b 13 ∧ gI σ_s_330 b 13 ≤ 12 := by omega
                  obtain ⟨z_336, e_337, rz_336, lz_336, uz_336⟩ := hO.gi h_b (by decide) k4_3
                  obtain ⟨z_338, e_339, rz_338, lz_338, uz_338⟩ := hO.gi h_b (by decide) k4_13
                  have hG_340 := hG_327.call (c2 := cc_331) (j2 := jj_332) (t2 := gI σ b 13 + 1) (fun _ => (hw_329.2.1 rfl).2) (fun h9 => absurd rfl h9)
                  have hqhw_329 := (hw_329.2.1 rfl).1
                  have hRhw_329 := hw_329.2.2
                  try replace hw_329 := hid.mk hw_329
                  refine lv_goto (tgt := 132) hx hb dX5_readAtom_89 (by decide) ?_
                  exact th_vret hx hb hr hlocks hH hS ⟨hO, hF, ⟨cc_331, jj_332, hT_333, (fun h9 => absurd rfl h9), fun _ => ⟨by omega, by omega, hG_340.ec rfl rfl (fun _ => by omega)⟩, by omega, by omega⟩⟩ dX5_readAtom_132
              · replace c_313 := mt (I_lt (a := b130) (b := 12) rb130 (show rng 12 from ⟨by decide, by decide⟩)).mpr c_313
                refine lv_goto (tgt := 60) hx hb dX5_readAtom_52 (by decide) ?_
                refine lv_aload_n hx hb dX5_readAtom_60 rfl (lv_at hl 1 rfl) ?_
                refine ok.getR hO h_a (by decide) k11_0 (by decide) (fun _ _ he hv kk => th_get (ci := 5) (C := RX5) (T := TX5) (N := 1) hx hb hts inX5 hown hK hH he rfl 0 (by decide) fl0 hv dX5_readAtom_61 kk) ?_
                refine lv_iconst (v := I 2) hx hb dX5_readAtom_64 (by decide) ?_
                obtain ⟨_, hc_341⟩ := hO.cell hp_5 (by decide) (ci := 8) rfl
                refine th_callv (va_runV (As := [.int (I 2)]) (rest := []) ⟨hx, hb, hml, hown, hts⟩ (f_fail l G y b0 σ E hO (ad E a 0) hp_5 2 (show rng 2 from (show rng 2 from ⟨by decide, by decide⟩)) T 0 jt hT0 (by omega)) (cwV 1 hts gX5_readAtom_X8_fail rfl rfl rfl (by decide +kernel) ⟨(by first | (simp only [headSpec]; omega) | omega | (dsimp only; omega)), (by first | (simp only [headSpec]; omega) | omega | (dsimp only; omega))⟩) (th_PV hK hH rfl hc_341) rfl rfl hl.1 rfl (lv_room (Nat.le_of_ble_eq_true rfl)) dX5_readAtom_65 ⟨(by first | (simp only [headSpec]; omega) | omega | (dsimp only; omega)), (by first | (simp only [headSpec]; omega) | omega | (dsimp only; omega))⟩) hS (fun σ_s_343 H locs hw_342 hH hS => ?_)
                obtain ⟨hO9, hF9, hw_342⟩ := hw_342
                have e_344 : gI σ_s_343 b 3 = b30 := (fr.ki hO hF9 h_b (by decide) (by decide) _).trans eb30
                have e_345 : gI σ_s_343 b 13 = b130 := (fr.ki hO hF9 h_b (by decide) (by decide) _).trans eb130
                replace hO := hO9
                replace hF := hF.tu hF9 (by decide)
                replace hw_342 : ∃ c1 j1, TSt E σ_s_343 (ad E a 0) T c1 j1 ∧ j1 = jt ∧ ((0 : Int) = 0 → c1 = 2) ∧ ((0 : Int) ≠ 0 → c1 = 0) := hw_342
                obtain ⟨cc_346, jj_347, hT_348, hw_342⟩ := hw_342
                have hUhT_348 := hT_348.2.2
                try replace hU0 := hid.mk hU0
                have h0_349 : ¬ cc_346 = 0 := by omega
                try simp only [h0_349, ne_eq, not_true_eq_false, not_false_eq_true, false_implies, true_implies, true_and, and_true, eq_self, false_or, or_false, false_and, and_false] at hUhT_348
                have e_350 : gI σ_s_343 (ad E a 0) 6 = 260 := by omega
                have hj_351 : jt = jj_347 := by omega
                subst hj_351
                have hG_352 := hG_4.tests (c2 := cc_346) (j2 := jt) (l2 := []) (t2 := 0) (by omega) (by omega) (by omega) rfl
                refine lv_goto (tgt := 132) hx hb dX5_readAtom_68 (by decide) ?_
                exact th_vret hx hb hr hlocks hH hS ⟨hO, hF, ⟨cc_346, jt, hT_348, (fun h9 => absurd rfl h9), fun _ => ⟨by omega, fun h9 => absurd h9 h0_349, hG_352.was h0_349⟩, fun h9 => absurd h9 h0_349, by omega⟩⟩ dX5_readAtom_132
          · replace c_238 := mt (I_eq (a := z_6) (b := 64) rz_6 (show rng 64 from ⟨by decide, by decide⟩)).mpr c_238
            refine lv_aload_n hx hb dX5_readAtom_26 rfl (lv_at hl 1 rfl) ?_
            refine ok.getR hO h_a (by decide) k11_0 (by decide) (fun _ _ he hv kk => th_get (ci := 5) (C := RX5) (T := TX5) (N := 1) hx hb hts inX5 hown hK hH he rfl 0 (by decide) fl0 hv dX5_readAtom_27 kk) ?_
            refine lv_iconst (v := I 1) hx hb dX5_readAtom_30 (by decide) ?_
            obtain ⟨_, hc_353⟩ := hO.cell hp_5 (by decide) (ci := 8) rfl
            refine th_callv (va_runV (As := [.int (I 1)]) (rest := []) ⟨hx, hb, hml, hown, hts⟩ (f_fail l G y b0 σ E hO (ad E a 0) hp_5 1 (show rng 1 from (show rng 1 from ⟨by decide, by decide⟩)) T 0 jt hT0 (by omega)) (cwV 1 hts gX5_readAtom_X8_fail rfl rfl rfl (by decide +kernel) ⟨(by first | (simp only [headSpec]; omega) | omega | (dsimp only; omega)), (by first | (simp only [headSpec]; omega) | omega | (dsimp only; omega))⟩) (th_PV hK hH rfl hc_353) rfl rfl hl.1 rfl (lv_room (Nat.le_of_ble_eq_true rfl)) dX5_readAtom_31 ⟨(by first | (simp only [headSpec]; omega) | omega | (dsimp only; omega)), (by first | (simp only [headSpec]; omega) | omega | (dsimp only; omega))⟩) hS (fun σ_s_355 H locs hw_354 hH hS => ?_)
            obtain ⟨hO9, hF9, hw_354⟩ := hw_354
            have e_356 : gI σ_s_355 b 3 = b30 := (fr.ki hO hF9 h_b (by decide) (by decide) _).trans eb30
            have e_357 : gI σ_s_355 b 13 = b130 := (fr.ki hO hF9 h_b (by decide) (by decide) _).trans eb130
            replace hO := hO9
            replace hF := hF.tu hF9 (by decide)
            replace hw_354 : ∃ c1 j1, TSt E σ_s_355 (ad E a 0) T c1 j1 ∧ j1 = jt ∧ ((0 : Int) = 0 → c1 = 1) ∧ ((0 : Int) ≠ 0 → c1 = 0) := hw_354
            obtain ⟨cc_358, jj_359, hT_360, hw_354⟩ := hw_354
            have hUhT_360 := hT_360.2.2
            try replace hU0 := hid.mk hU0
            have h0_361 : ¬ cc_358 = 0 := by omega
            try simp only [h0_361, ne_eq, not_true_eq_false, not_false_eq_true, false_implies, true_implies, true_and, and_true, eq_self, false_or, or_false, false_and, and_false] at hUhT_360
            have e_362 : gI σ_s_355 (ad E a 0) 6 = 260 := by omega
            have hj_363 : jt = jj_359 := by omega
            subst hj_363
            have hG_364 := hG_4.no (c2 := cc_358) (j2 := jt) (l2 := []) (t2 := 0) (by omega) (by omega) (by omega) (by omega) rfl
            refine lv_goto (tgt := 132) hx hb dX5_readAtom_34 (by decide) ?_
            exact th_vret hx hb hr hlocks hH hS ⟨hO, hF, ⟨cc_358, jt, hT_360, (fun h9 => absurd rfl h9), fun _ => ⟨by omega, fun h9 => absurd h9 h0_361, hG_364.was h0_361⟩, fun h9 => absurd h9 h0_361, by omega⟩⟩ dX5_readAtom_132
    · try simp only [h0_1, ne_eq, not_true_eq_false, not_false_eq_true, false_implies, true_implies, true_and, and_true, eq_self, false_or, or_false, false_and, and_false] at hU0
      have e_365 : gI σ (ad E a 0) 6 = 260 := by omega
      refine lv_aload_n hx hb dX5_readAtom_0 rfl (lv_at hl 0 rfl) ?_
      have hp_366 : kd E (ad E a 0) = 3 := ok.pk hO h_a (by decide) k11_0 rfl
      refine ok.getR hO h_a (by decide) k11_0 (by decide) (fun _ _ he hv kk => th_get (ci := 5) (C := RX5) (T := TX5) (N := 1) hx hb hts inX5 hown hK hH he rfl 0 (by decide) fl0 hv dX5_readAtom_1 kk) ?_
      refine ok.getIc hO hp_366 (by decide) k3_6 e_365 (fun _ _ he hv kk => th_getN (ci := 8) (C := RX8) (T := TX8) (N := 9) hx hb hts inX8 hown hK hH he rfl 6 (by decide) (nl_5 hK) hv dX5_readAtom_4 kk) ?_
      refine lv_istore_n (lv' := [(3, .int (I 260)), (0, .ref a), (1, .ref b), (2, .int (I lv))]) hx hb dX5_readAtom_7 rfl hl (by decide) rfl (fun ls hl => ?_)
      refine lv_iload_n hx hb dX5_readAtom_8 rfl (lv_at hl 0 rfl) ?_
      refine lv_bipush (v := I 33) hx hb dX5_readAtom_9 (by decide) ?_
      refine lv_icmp_eq (tgt := 37) hx hb dX5_readAtom_11 (by decide) (fun c_367 => absurd c_367 (by decide)) (fun _ => ?_)
      refine lv_iload_n hx hb dX5_readAtom_14 rfl (lv_at hl 0 rfl) ?_
      refine lv_bipush (v := I 40) hx hb dX5_readAtom_15 (by decide) ?_
      refine lv_icmp_eq (tgt := 37) hx hb dX5_readAtom_17 (by decide) (fun c_368 => absurd c_368 (by decide)) (fun _ => ?_)
      refine lv_iload_n hx hb dX5_readAtom_20 rfl (lv_at hl 0 rfl) ?_
      refine lv_bipush (v := I 64) hx hb dX5_readAtom_21 (by decide) ?_
      refine lv_icmp_eq (tgt := 37) hx hb dX5_readAtom_23 (by decide) (fun c_369 => absurd c_369 (by decide)) (fun _ => ?_)
      refine lv_aload_n hx hb dX5_readAtom_26 rfl (lv_at hl 1 rfl) ?_
      refine ok.getR hO h_a (by decide) k11_0 (by decide) (fun _ _ he hv kk => th_get (ci := 5) (C := RX5) (T := TX5) (N := 1) hx hb hts inX5 hown hK hH he rfl 0 (by decide) fl0 hv dX5_readAtom_27 kk) ?_
      refine lv_iconst (v := I 1) hx hb dX5_readAtom_30 (by decide) ?_
      obtain ⟨_, hc_370⟩ := hO.cell hp_366 (by decide) (ci := 8) rfl
      refine th_callv (va_runV (As := [.int (I 1)]) (rest := []) ⟨hx, hb, hml, hown, hts⟩ (f_fail l G y b0 σ E hO (ad E a 0) hp_366 1 (show rng 1 from (show rng 1 from ⟨by decide, by decide⟩)) T fc jt hT0 (by omega)) (cwV 1 hts gX5_readAtom_X8_fail rfl rfl rfl (by decide +kernel) ⟨(by first | (simp only [headSpec]; omega) | omega | (dsimp only; omega)), (by first | (simp only [headSpec]; omega) | omega | (dsimp only; omega))⟩) (th_PV hK hH rfl hc_370) rfl rfl hl.1 rfl (lv_room (Nat.le_of_ble_eq_true rfl)) dX5_readAtom_31 ⟨(by first | (simp only [headSpec]; omega) | omega | (dsimp only; omega)), (by first | (simp only [headSpec]; omega) | omega | (dsimp only; omega))⟩) hS (fun σ_s_372 H locs hw_371 hH hS => ?_)
      obtain ⟨hO9, hF9, hw_371⟩ := hw_371
      have e_373 : gI σ_s_372 b 3 = b30 := (fr.ki hO hF9 h_b (by decide) (by decide) _).trans eb30
      have e_374 : gI σ_s_372 b 13 = b130 := (fr.ki hO hF9 h_b (by decide) (by decide) _).trans eb130
      replace hO := hO9
      replace hF := hF.tu hF9 (by decide)
      replace hw_371 : ∃ c1 j1, TSt E σ_s_372 (ad E a 0) T c1 j1 ∧ j1 = jt ∧ (fc = 0 → c1 = 1) ∧ (fc ≠ 0 → c1 = fc) := hw_371
      obtain ⟨cc_375, jj_376, hT_377, hw_371⟩ := hw_371
      have hUhT_377 := hT_377.2.2
      try replace hU0 := hid.mk hU0
      have hc_378 : fc = cc_375 := by omega
      subst hc_378
      have hc_379 : jt = jj_376 := by omega
      subst hc_379
      try simp only [h0_1, ne_eq, not_true_eq_false, not_false_eq_true, false_implies, true_implies, true_and, and_true, eq_self, false_or, or_false, false_and, and_false] at hUhT_377
      have e_380 : gI σ_s_372 (ad E a 0) 6 = 260 := by omega
      refine lv_goto (tgt := 132) hx hb dX5_readAtom_34 (by decide) ?_
      exact th_vret hx hb hr hlocks hH hS ⟨hO, hF, ⟨fc, jt, hT_377, fun _ => ⟨rfl, rfl⟩, fun h9 => absurd h9 h0_1, fun h9 => absurd h9 h0_1, by omega⟩⟩ dX5_readAtom_132
