set_option maxHeartbeats 4000000 in
set_option maxRecDepth 100000 in
theorem r6_readMap (n : Nat) (ih : ∀ (l : Launch) (G : va_G) (y : Nat → ClassId) (b0 : Nat) (σ : th_M) (E : th_E) (hO : ok y E σ) (a : Nat) (h_a : kd E a = 10) (b : Nat) (h_b : kd E b = 1) (dp : Int) (rdp : rng dp) (l_dp : 0 ≤ dp) (u_dp : dp ≤ 8) (ky : Int) (rky : rng ky) (T : tkT) (fc jt : Int) (hT0 : TSt E σ (ad E a 0) T fc jt) (hn : (8 - dp).toNat < n), Met l yX1_readThing wsX1_readThing ({ frames := 4*n+8, cells := 0, slots := 0, locals := (120*n+600) }) (th_P G y b0 σ [.ref a, .ref b, .int (I dp), .int (I ky)]) (th_Qv G b0 (fun σ1 => ok y E σ1 ∧ fr [3, 1] E σ σ1 ∧ (∃ c1 j1, TSt E σ1 (ad E a 0) T c1 j1 ∧ (fc ≠ 0 → c1 = fc ∧ j1 = jt) ∧ (fc = 0 → PTh T dp jt (gI σ b 4) c1 j1 (gI σ1 b 4) ∧ (c1 = 0 → jt < j1 ∧ gr E σ σ1 b (gI σ b 4) dp ky))))) 0 0 (th_A b0)) (l : Launch) (G : va_G) (y : Nat → ClassId) (b0 : Nat) (σ : th_M) (E : th_E) (hO : ok y E σ) (a : Nat) (h_a : kd E a = 10) (b : Nat) (h_b : kd E b = 1) (dp : Int) (rdp : rng dp) (l_dp : 0 ≤ dp) (u_dp : dp ≤ 7) (ky : Int) (rky : rng ky) (T : tkT) (fc jt : Int) (hT0 : TSt E σ (ad E a 0) T fc jt) (hy0 : (8 - dp).toNat < n + 1) (hy1 : fc = 0) (hy2 : tK T jt = 123) (hy3 : gI σ b 4 < 60) : Met l yX1_readMap wsX1_readMap ({ frames := 4*n+10, cells := 0, slots := 0, locals := (120*n+650) }) (th_P G y b0 σ [.ref a, .ref b, .int (I dp), .int (I ky)]) (th_Qv G b0 (fun σ1 => ok y E σ1 ∧ fr [3, 1] E σ σ1 ∧ (∃ c1 j1, TSt E σ1 (ad E a 0) T c1 j1 ∧ PTh T dp jt (gI σ b 4) c1 j1 (gI σ1 b 4) ∧ (c1 = 0 → jt < j1 ∧ gr E σ σ1 b (gI σ b 4) dp ky)))) 0 0 (th_A b0) := by
  refine Met.ofW (cc := cX1_readMap) (maxL := 8) (ret := none) (by decide) rfl ?_
  intro p e s m args below meth c s₁ B hml hv
  obtain ⟨rfl, hH, hK⟩ := hv
  have hx := B.exec
  have hb := B.bytes
  have hr := B.returns
  have hts := atoms_spec (ws := wsX1_readMap) B.pre
  have hown : s.vm.findClass RX1 = some m.cls := findClass_of_methodNamed B.named
  have hlocks := B.notSynchronized
  have h00 : b0 ≤ s.heap.size := hH.1
  have hS : va_S (th_A b0) s.heap s.heap [] := va_S.rf
  have hF : fr [3, 1] E σ σ := fr.rf
  have inX1 : ∀ w ∈ wsX10, w ∈ wsX1_readMap := by decide +kernel
  have inX8 : ∀ w ∈ wsX80, w ∈ wsX1_readMap := by decide +kernel
  have fl0 := hts (.fieldLink RX1 9 "NestQuery$DataReader" "tokens" "LNestQuery$Tokens;") (by decide +kernel)
  have hl := lv_entry ([.ref a, .ref b, .int (I dp), .int (I ky)]) (n := 8) (Nat.le_of_ble_eq_true rfl)
  rw [lg_entry_eq]
  generalize (lg_sl ([.ref a, .ref b, .int (I dp), .int (I ky)]) ++ List.replicate (8 - (lg_sl ([.ref a, .ref b, .int (I dp), .int (I ky)])).length) Slot.unset).toArray = ls at hl ⊢
  have hl : lv_has ls 8 [(0, .ref a), (1, .ref b), (2, .int (I dp)), (3, .int (I ky))] := hl
  obtain ⟨b40, eb40, rb40, lb40, ub40⟩ := hO.gi h_b (by decide) k1_4
  have hU0 := hT0.2.2
  have hkt : kd E (ad E a 0) = 3 := ok.pk hO h_a (by decide) k10_0 rfl
  have h0_1 : fc = 0 := by omega
  have hp_2 := hT0.2.2.2.2.2.2.1 h0_1
  have hp_2j := And.intro hT0.2.2.1 (And.intro hT0.2.2.2.1 (And.intro hT0.2.2.2.2.1 hT0.2.2.2.2.2.1))
  clear hU0
  refine lv_aload_n hx hb dX1_readMap_0 rfl (lv_at hl 1 rfl) ?_
  refine lv_iconst (v := I 3) hx hb dX1_readMap_1 (by decide) ?_
  refine lv_iconst (v := I 0) hx hb dX1_readMap_2 (by decide) ?_
  refine lv_iload_n hx hb dX1_readMap_3 rfl (lv_at hl 3 rfl) ?_
  refine lv_iload_n hx hb dX1_readMap_4 rfl (lv_at hl 2 rfl) ?_
  obtain ⟨_, hc_3⟩ := hO.cell h_b (by decide) (ci := 9) rfl
  refine th_calli (va_runV (As := [.int (I 3), .int (I 0), .int (I ky), .int (I dp)]) (rest := []) ⟨hx, hb, hml, hown, hts⟩ (t6_add l G y b0 σ E hO b h_b 3 (show rng 3 from (show rng 3 from ⟨by decide, by decide⟩)) 0 (show rng 0 from (show rng 0 from ⟨by decide, by decide⟩)) ky (show rng ky from rky) dp (show rng dp from rdp) (by omega) (by omega)) (cwV 4 hts gX1_readMap_X9_addThing rfl rfl rfl (by decide +kernel) ⟨(by first | (simp only [headSpec]; omega) | omega | (dsimp only; omega)), (by first | (simp only [headSpec]; omega) | omega | (dsimp only; omega))⟩) (th_PV hK hH rfl hc_3) rfl rfl hl.1 rfl (lv_room (Nat.le_of_ble_eq_true rfl)) dX1_readMap_5 ⟨(by first | (simp only [headSpec]; omega) | omega | (dsimp only; omega)), (by first | (simp only [headSpec]; omega) | omega | (dsimp only; omega))⟩) hS (fun z_6 σ_s_5 H locs rz_6 hw_4 hH hS => ?_)
  obtain ⟨hO9, hF9, hw_4⟩ := hw_4
  have hT_7 : TSt E σ_s_5 (ad E a 0) T fc jt := TSt.mv hO hF9 hkt (by decide) hT0
  have hUhT_7 := hT_7.2.2
  have h0_8 : fc = 0 := by omega
  have hp_9 := hT_7.2.2.2.2.2.2.1 h0_8
  have hp_9j := And.intro hT_7.2.2.1 (And.intro hT_7.2.2.2.1 (And.intro hT_7.2.2.2.2.1 hT_7.2.2.2.2.2.1))
  clear hUhT_7
  replace hO := hO9
  replace hF := hF.tu hF9 (by decide)
  replace hw_4 : z_6 = gI σ b 4 ∧ gI σ_s_5 b 4 = gI σ b 4 + 1 ∧ gr E σ σ_s_5 b (gI σ b 4) dp ky ∧ nE E σ_s_5 b (gI σ b 4) = 3 := hw_4
  obtain ⟨z_10, e_11, rz_10, lz_10, uz_10⟩ := hO.gi h_b (by decide) k1_4
  have hg_12 : True → _ := fun _ => hw_4.2.2.1
  have hm_13 : True → _ := fun _ => mapst.start hw_4.2.2.1 hw_4.2.2.2 hw_4.2.1
  refine lv_istore (lv' := [(4, .int (I z_6)), (0, .ref a), (1, .ref b), (2, .int (I dp)), (3, .int (I ky))]) hx hb dX1_readMap_8 hl (by decide) rfl (fun ls hl => ?_)
  refine lv_aload_n hx hb dX1_readMap_10 rfl (lv_at hl 1 rfl) ?_
  have hp_14 : kd E (ad E a 0) = 3 := ok.pk hO h_a (by decide) k10_0 rfl
  refine ok.getR hO h_a (by decide) k10_0 (by decide) (fun _ _ he hv kk => th_get (ci := 1) (C := RX1) (T := TX1) (N := 1) hx hb hts inX1 hown hK hH he rfl 0 (by decide) fl0 hv dX1_readMap_11 kk) ?_
  obtain ⟨_, hc_15⟩ := hO.cell hp_14 (by decide) (ci := 8) rfl
  refine th_callv (va_runV (As := []) (rest := []) ⟨hx, hb, hml, hown, hts⟩ (f_step l G y b0 σ_s_5 E hO (ad E a 0) hp_14 T fc jt hT_7) (cwV 0 hts gX1_readMap_X8_step rfl rfl rfl (by decide +kernel) ⟨(by first | (simp only [headSpec]; omega) | omega | (dsimp only; omega)), (by first | (simp only [headSpec]; omega) | omega | (dsimp only; omega))⟩) (th_PV hK hH rfl hc_15) rfl rfl hl.1 rfl (lv_room (Nat.le_of_ble_eq_true rfl)) dX1_readMap_14 ⟨(by first | (simp only [headSpec]; omega) | omega | (dsimp only; omega)), (by first | (simp only [headSpec]; omega) | omega | (dsimp only; omega))⟩) hS (fun σ_s_17 H locs hw_16 hH hS => ?_)
  obtain ⟨hO9, hF9, hw_16⟩ := hw_16
  have e_18 : gI σ_s_17 b 4 = z_10 := (fr.ki hO hF9 h_b (by decide) (by decide) _).trans e_11
  have hk_19 := fun (h9 : True) => gr.mv hO hF9 h_b (by decide) (hg_12 h9)
  have hk_20 := fun (h9 : True) => mapst.mv hO hF9 h_b (by decide) (hm_13 h9)
  replace hO := hO9
  replace hF := hF.tu hF9 (by decide)
  replace hw_16 : ∃ c1 j1, TSt E σ_s_17 (ad E a 0) T c1 j1 ∧ c1 = fc ∧ (fc ≠ 0 → j1 = jt) ∧ (fc = 0 → tK T jt ≠ 259 → j1 = jt + 1) := hw_16
  obtain ⟨cc_21, jj_22, hT_23, hw_16⟩ := hw_16
  have hUhT_23 := hT_23.2.2
  have hw_16j : jj_22 = jt + 1 := by omega
  have h0_24 : cc_21 = 0 := by omega
  have hp_25 := hT_23.2.2.2.2.2.2.1 h0_24
  have hp_25j := And.intro hT_23.2.2.1 (And.intro hT_23.2.2.2.1 (And.intro hT_23.2.2.2.2.1 hT_23.2.2.2.2.2.1))
  clear hUhT_23
  clear hw_16
  refine lv_aload_n hx hb dX1_readMap_17 rfl (lv_at hl 1 rfl) ?_
  refine ok.getR hO h_a (by decide) k10_0 (by decide) (fun _ _ he hv kk => th_get (ci := 1) (C := RX1) (T := TX1) (N := 1) hx hb hts inX1 hown hK hH he rfl 0 (by decide) fl0 hv dX1_readMap_18 kk) ?_
  refine ok.getI hO hp_14 (by decide) k3_6 (fun _ _ he hv kk => th_getN (ci := 8) (C := RX8) (T := TX8) (N := 9) hx hb hts inX8 hown hK hH he rfl 6 (by decide) (nl_4 hK) hv dX1_readMap_21 kk) (fun z_26 e_27 rz_26 lz_26 uz_26 => ?_)
  refine lv_bipush (v := I 125) hx hb dX1_readMap_24 (by decide) ?_
  refine lv_icmp_eq (tgt := 33) hx hb dX1_readMap_26 (by decide) (fun c_28 => ?_) (fun c_28 => ?_)
  · replace c_28 := (I_eq (a := z_26) (b := 125) rz_26 (show rng 125 from ⟨by decide, by decide⟩)).mp c_28
    refine lv_iconst (v := I 0) hx hb dX1_readMap_33 (by decide) ?_
    refine lv_istore (lv' := [(5, .int (I 0)), (4, .int (I z_6)), (0, .ref a), (1, .ref b), (2, .int (I dp)), (3, .int (I ky))]) hx hb dX1_readMap_34 hl (by decide) rfl (fun ls hl => ?_)
    refine lv_iconst (v := I 0) hx hb dX1_readMap_36 (by decide) ?_
    refine lv_istore (lv' := [(6, .int (I 0)), (5, .int (I 0)), (4, .int (I z_6)), (0, .ref a), (1, .ref b), (2, .int (I dp)), (3, .int (I ky))]) hx hb dX1_readMap_37 hl (by decide) rfl (fun ls hl => ?_)
    replace hl : lv_has ls 8 [(6, .int (I 0)), (5, .int (I 0)), (4, .int (I z_6)), (0, .ref a), (1, .ref b), (2, .int (I dp))] := lv_sub hl [0, 1, 2, 3, 4, 5] rfl
    refine th_loop (α := Int × Int) (pc := 39) (fun x9 => (400 - x9.2).toNat) (fun x9 σ9 H9 l9 ls9 => ok y E σ9 ∧ fr [3, 1] E σ σ9 ∧ th_H G b0 σ9 H9 ∧ va_S (th_A b0) s.heap H9 l9 ∧ lv_has ls9 8 [(0, .ref a), (1, .ref b), (2, .int (I dp)), (4, .int (I z_6)), (5, .int (I x9.1)), (6, .int (I x9.2))] ∧ rng x9.1 ∧ rng x9.2 ∧ (0 ≤ x9.1) ∧ (x9.1 ≤ 1) ∧ (0 ≤ x9.2) ∧ (x9.2 ≤ 400) ∧ (∃ c2 j2 k2, TSt E σ9 (ad E a 0) T c2 j2 ∧ (c2 = 0 → gr E σ σ9 b (gI σ b 4) dp ky ∧ mapst E σ9 b (gI σ b 4) dp k2) ∧ (c2 = 0 → jt + 1 + x9.2 ≤ j2) ∧ lin T 2 125 dp jt (gI σ b 4) k2 x9.1 c2 j2 (gI σ9 b 4))) ?_ (0, 0) σ_s_17 _ _ _ ⟨hO, hF, hH, hS, lv_sub hl [3, 4, 5, 2, 1, 0] rfl, (show rng 0 from ⟨by decide, by decide⟩), (show rng 0 from ⟨by decide, by decide⟩), by first | omega | (dsimp only; omega), by first | omega | (dsimp only; omega), by first | omega | (dsimp only; omega), by first | omega | (dsimp only; omega), ⟨cc_21, jj_22, [], hT_23, fun _ => ⟨hk_19 trivial, hk_20 trivial⟩, fun _ => by omega, (lin.start (op := 123) (by unfold brk; omega) (by omega) (by omega) (by omega) (by omega) (by omega)).ec (by omega)⟩⟩
    intro x9 σ_J_140 H locs ls hI9 ihJ_140
    obtain ⟨v5q139, v6q139⟩ := x9
    obtain ⟨hO, hF, hH, hS, hl, rv5q139, rv6q139, J_140_0, J_140_1, J_140_2, J_140_3, J_140_4⟩ := hI9
    have hl : lv_has ls 8 [(0, .ref a), (1, .ref b), (2, .int (I dp)), (4, .int (I z_6)), (5, .int (I v5q139)), (6, .int (I v6q139))] := hl
    have rv5q139 : rng v5q139 := rv5q139
    have rv6q139 : rng v6q139 := rv6q139
    replace J_140_0 : 0 ≤ v5q139 := J_140_0
    replace J_140_1 : v5q139 ≤ 1 := J_140_1
    replace J_140_2 : 0 ≤ v6q139 := J_140_2
    replace J_140_3 : v6q139 ≤ 400 := J_140_3
    replace J_140_4 : ∃ c2 j2 k2, TSt E σ_J_140 (ad E a 0) T c2 j2 ∧ (c2 = 0 → gr E σ σ_J_140 b (gI σ b 4) dp ky ∧ mapst E σ_J_140 b (gI σ b 4) dp k2) ∧ (c2 = 0 → jt + 1 + v6q139 ≤ j2) ∧ lin T 2 125 dp jt (gI σ b 4) k2 v5q139 c2 j2 (gI σ_J_140 b 4) := J_140_4
    obtain ⟨cc_141, jj_142, kk_143, hT_144, hG_145, hP_146, hL_147⟩ := J_140_4
    have hUhT_144 := hT_144.2.2
    have h0hL_147 := hL_147.c0
    obtain ⟨z_148, e_149, rz_148, lz_148, uz_148⟩ := hO.gi h_b (by decide) k1_4
    have hg_150 := fun (h9 : cc_141 = 0) => (hG_145 h9).1
    have hm_151 := fun (h9 : cc_141 = 0) => (hG_145 h9).2
    refine lv_iload hx hb dX1_readMap_39 (lv_at hl 4 rfl) ?_
    refine lv_if_eq (tgt := 117) hx hb dX1_readMap_41 (by decide) (fun c_152 => ?_) (fun c_152 => ?_)
    · replace c_152 := (I_eq (a := v5q139) (b := 0) rv5q139 (show rng 0 from ⟨by decide, by decide⟩)).mp c_152
      refine lv_aload_n hx hb dX1_readMap_117 rfl (lv_at hl 0 rfl) ?_
      refine ok.getR hO h_a (by decide) k10_0 (by decide) (fun _ _ he hv kk => th_get (ci := 1) (C := RX1) (T := TX1) (N := 1) hx hb hts inX1 hown hK hH he rfl 0 (by decide) fl0 hv dX1_readMap_118 kk) ?_
      refine lv_bipush (v := I 125) hx hb dX1_readMap_121 (by decide) ?_
      obtain ⟨_, hc_153⟩ := hO.cell hp_14 (by decide) (ci := 8) rfl
      refine th_callv (va_runV (As := [.int (I 125)]) (rest := []) ⟨hx, hb, hml, hown, hts⟩ (f_expect l G y b0 σ_J_140 E hO (ad E a 0) hp_14 125 (show rng 125 from (show rng 125 from ⟨by decide, by decide⟩)) (by omega) (by omega) T cc_141 jj_142 hT_144) (cwV 1 hts gX1_readMap_X8_expect rfl rfl rfl (by decide +kernel) ⟨(by first | (simp only [headSpec]; omega) | omega | (dsimp only; omega)), (by first | (simp only [headSpec]; omega) | omega | (dsimp only; omega))⟩) (th_PV hK hH rfl hc_153) rfl rfl hl.1 rfl (lv_room (Nat.le_of_ble_eq_true rfl)) dX1_readMap_123 ⟨(by first | (simp only [headSpec]; omega) | omega | (dsimp only; omega)), (by first | (simp only [headSpec]; omega) | omega | (dsimp only; omega))⟩) hS (fun σ_s_155 H locs hw_154 hH hS => ?_)
      obtain ⟨hO9, hF9, hw_154⟩ := hw_154
      have e_156 : gI σ_s_155 b 4 = z_148 := (fr.ki hO hF9 h_b (by decide) (by decide) _).trans e_149
      have hk_157 := fun (h9 : cc_141 = 0) => gr.mv hO hF9 h_b (by decide) (hg_150 h9)
      have hk_158 := fun (h9 : cc_141 = 0) => mapst.mv hO hF9 h_b (by decide) (hm_151 h9)
      replace hO := hO9
      replace hF := hF.tu hF9 (by decide)
      replace hw_154 : ∃ c1 j1, TSt E σ_s_155 (ad E a 0) T c1 j1 ∧ (cc_141 ≠ 0 → c1 = cc_141 ∧ j1 = jj_142) ∧ (cc_141 = 0 → (tK T jj_142 = 125 ∧ c1 = 0 ∧ j1 = jj_142 + 1) ∨ (tK T jj_142 ≠ 125 ∧ c1 = 1 ∧ j1 = jj_142)) := hw_154
      obtain ⟨cc_159, jj_160, hT_161, hw_154⟩ := hw_154
      have hUhT_161 := hT_161.2.2
      exact th_vret hx hb hr hlocks hH hS ⟨hO, hF, (by first | (exfalso; omega) | exact ⟨cc_159, jj_160, hT_161, (by have h8 := (hL_147.em (mo2 := 0) (by omega)).done hw_154.1 hw_154.2; rw [show (gI σ_J_140 b 4) = gI σ_s_155 b 4 by omega] at h8; exact h8), fun h9 => ⟨by have h8 := hP_146 (by omega); omega, hk_157 (by omega)⟩⟩)⟩ dX1_readMap_126
    · replace c_152 := mt (I_eq (a := v5q139) (b := 0) rv5q139 (show rng 0 from ⟨by decide, by decide⟩)).mpr c_152
      refine lv_iload hx hb dX1_readMap_44 (lv_at hl 5 rfl) ?_
      refine lv_sipush (v := I 400) hx hb dX1_readMap_46 (by decide) ?_
      refine lv_icmp_ge (tgt := 117) hx hb dX1_readMap_49 (by decide) (fun c_162 => ?_) (fun c_162 => ?_)
      · replace c_162 := (I_le (a := 400) (b := v6q139) (show rng 400 from ⟨by decide, by decide⟩) rv6q139).mp c_162
        refine lv_aload_n hx hb dX1_readMap_117 rfl (lv_at hl 0 rfl) ?_
        refine ok.getR hO h_a (by decide) k10_0 (by decide) (fun _ _ he hv kk => th_get (ci := 1) (C := RX1) (T := TX1) (N := 1) hx hb hts inX1 hown hK hH he rfl 0 (by decide) fl0 hv dX1_readMap_118 kk) ?_
        refine lv_bipush (v := I 125) hx hb dX1_readMap_121 (by decide) ?_
        obtain ⟨_, hc_163⟩ := hO.cell hp_14 (by decide) (ci := 8) rfl
        refine th_callv (va_runV (As := [.int (I 125)]) (rest := []) ⟨hx, hb, hml, hown, hts⟩ (f_expect l G y b0 σ_J_140 E hO (ad E a 0) hp_14 125 (show rng 125 from (show rng 125 from ⟨by decide, by decide⟩)) (by omega) (by omega) T cc_141 jj_142 hT_144) (cwV 1 hts gX1_readMap_X8_expect rfl rfl rfl (by decide +kernel) ⟨(by first | (simp only [headSpec]; omega) | omega | (dsimp only; omega)), (by first | (simp only [headSpec]; omega) | omega | (dsimp only; omega))⟩) (th_PV hK hH rfl hc_163) rfl rfl hl.1 rfl (lv_room (Nat.le_of_ble_eq_true rfl)) dX1_readMap_123 ⟨(by first | (simp only [headSpec]; omega) | omega | (dsimp only; omega)), (by first | (simp only [headSpec]; omega) | omega | (dsimp only; omega))⟩) hS (fun σ_s_165 H locs hw_164 hH hS => ?_)
        obtain ⟨hO9, hF9, hw_164⟩ := hw_164
        have e_166 : gI σ_s_165 b 4 = z_148 := (fr.ki hO hF9 h_b (by decide) (by decide) _).trans e_149
        have hk_167 := fun (h9 : cc_141 = 0) => gr.mv hO hF9 h_b (by decide) (hg_150 h9)
        have hk_168 := fun (h9 : cc_141 = 0) => mapst.mv hO hF9 h_b (by decide) (hm_151 h9)
        replace hO := hO9
        replace hF := hF.tu hF9 (by decide)
        replace hw_164 : ∃ c1 j1, TSt E σ_s_165 (ad E a 0) T c1 j1 ∧ (cc_141 ≠ 0 → c1 = cc_141 ∧ j1 = jj_142) ∧ (cc_141 = 0 → (tK T jj_142 = 125 ∧ c1 = 0 ∧ j1 = jj_142 + 1) ∨ (tK T jj_142 ≠ 125 ∧ c1 = 1 ∧ j1 = jj_142)) := hw_164
        obtain ⟨cc_169, jj_170, hT_171, hw_164⟩ := hw_164
        have hUhT_171 := hT_171.2.2
        exact th_vret hx hb hr hlocks hH hS ⟨hO, hF, (by first | (exfalso; omega) | exact ⟨cc_169, jj_170, hT_171, (by have h8 := (hL_147.em (mo2 := 0) (by omega)).done hw_164.1 hw_164.2; rw [show (gI σ_J_140 b 4) = gI σ_s_165 b 4 by omega] at h8; exact h8), fun h9 => ⟨by have h8 := hP_146 (by omega); omega, hk_167 (by omega)⟩⟩)⟩ dX1_readMap_126
      · replace c_162 := mt (I_le (a := 400) (b := v6q139) (show rng 400 from ⟨by decide, by decide⟩) rv6q139).mpr c_162
        have h0_172 : cc_141 = 0 := by omega
        have hp_173 := hT_144.2.2.2.2.2.2.1 h0_172
        have hp_173j := And.intro hT_144.2.2.1 (And.intro hT_144.2.2.2.1 (And.intro hT_144.2.2.2.2.1 hT_144.2.2.2.2.2.1))
        clear hUhT_144
        refine lv_aload_n hx hb dX1_readMap_52 rfl (lv_at hl 0 rfl) ?_
        refine lv_aload_n hx hb dX1_readMap_53 rfl (lv_at hl 1 rfl) ?_
        refine lv_iload hx hb dX1_readMap_54 (lv_at hl 3 rfl) ?_
        obtain ⟨_, hc_174⟩ := hO.cell h_a (by decide) (ci := 1) rfl
        refine th_calli (va_runV (As := [.ref b, .int (I z_6)]) (rest := []) ⟨hx, hb, hml, hown, hts⟩ (r6_readKey l G y b0 σ_J_140 E hO a h_a b h_b z_6 (show rng z_6 from rz_6) T cc_141 jj_142 hT_144 dp kk_143 (by omega) ((by rw [show z_6 = gI σ b 4 by omega]; exact hm_151 (by omega)))) (cwV 2 hts gX1_readMap_X1_readKey rfl rfl rfl (by decide +kernel) ⟨(by first | (simp only [headSpec]; omega) | omega | (dsimp only; omega)), (by first | (simp only [headSpec]; omega) | omega | (dsimp only; omega))⟩) (th_PV hK hH rfl hc_174) rfl rfl hl.1 rfl (lv_room (Nat.le_of_ble_eq_true rfl)) dX1_readMap_56 ⟨(by first | (simp only [headSpec]; omega) | omega | (dsimp only; omega)), (by first | (simp only [headSpec]; omega) | omega | (dsimp only; omega))⟩) hS (fun z_177 σ_s_176 H locs rz_177 hw_175 hH hS => ?_)
        obtain ⟨hO9, hF9, hw_175⟩ := hw_175
        have e_178 : gI σ_s_176 b 4 = z_148 := (fr.ki hO hF9 h_b (by decide) (by decide) _).trans e_149
        have hk_179 := fun (h9 : cc_141 = 0) => gr.mv hO hF9 h_b (by decide) (hg_150 h9)
        have hk_180 := fun (h9 : cc_141 = 0) => mapst.mv hO hF9 h_b (by decide) (hm_151 h9)
        replace hO := hO9
        replace hF := hF.tu hF9 (by decide)
        replace hw_175 : ∃ c1 j1, TSt E σ_s_176 (ad E a 0) T c1 j1 ∧ kR T jj_142 kk_143 c1 j1 z_177 := hw_175
        obtain ⟨cc_181, jj_182, hT_183, hw_175⟩ := hw_175
        have hUhT_183 := hT_183.2.2
        refine lv_istore (lv' := [(7, .int (I z_177)), (0, .ref a), (1, .ref b), (2, .int (I dp)), (4, .int (I z_6)), (5, .int (I v5q139)), (6, .int (I v6q139))]) hx hb dX1_readMap_59 hl (by decide) rfl (fun ls hl => ?_)
        refine lv_aload_n hx hb dX1_readMap_61 rfl (lv_at hl 1 rfl) ?_
        refine ok.getR hO h_a (by decide) k10_0 (by decide) (fun _ _ he hv kk => th_get (ci := 1) (C := RX1) (T := TX1) (N := 1) hx hb hts inX1 hown hK hH he rfl 0 (by decide) fl0 hv dX1_readMap_62 kk) ?_
        refine lv_bipush (v := I 58) hx hb dX1_readMap_65 (by decide) ?_
        obtain ⟨_, hc_184⟩ := hO.cell hp_14 (by decide) (ci := 8) rfl
        refine th_callv (va_runV (As := [.int (I 58)]) (rest := []) ⟨hx, hb, hml, hown, hts⟩ (f_expect l G y b0 σ_s_176 E hO (ad E a 0) hp_14 58 (show rng 58 from (show rng 58 from ⟨by decide, by decide⟩)) (by omega) (by omega) T cc_181 jj_182 hT_183) (cwV 1 hts gX1_readMap_X8_expect rfl rfl rfl (by decide +kernel) ⟨(by first | (simp only [headSpec]; omega) | omega | (dsimp only; omega)), (by first | (simp only [headSpec]; omega) | omega | (dsimp only; omega))⟩) (th_PV hK hH rfl hc_184) rfl rfl hl.1 rfl (lv_room (Nat.le_of_ble_eq_true rfl)) dX1_readMap_67 ⟨(by first | (simp only [headSpec]; omega) | omega | (dsimp only; omega)), (by first | (simp only [headSpec]; omega) | omega | (dsimp only; omega))⟩) hS (fun σ_s_186 H locs hw_185 hH hS => ?_)
        obtain ⟨hO9, hF9, hw_185⟩ := hw_185
        have e_187 : gI σ_s_186 b 4 = z_148 := (fr.ki hO hF9 h_b (by decide) (by decide) _).trans e_178
        have hk_188 := fun (h9 : cc_141 = 0) => gr.mv hO hF9 h_b (by decide) (hk_179 h9)
        have hk_189 := fun (h9 : cc_141 = 0) => mapst.mv hO hF9 h_b (by decide) (hk_180 h9)
        replace hO := hO9
        replace hF := hF.tu hF9 (by decide)
        replace hw_185 : ∃ c1 j1, TSt E σ_s_186 (ad E a 0) T c1 j1 ∧ (cc_181 ≠ 0 → c1 = cc_181 ∧ j1 = jj_182) ∧ (cc_181 = 0 → (tK T jj_182 = 58 ∧ c1 = 0 ∧ j1 = jj_182 + 1) ∨ (tK T jj_182 ≠ 58 ∧ c1 = 1 ∧ j1 = jj_182)) := hw_185
        obtain ⟨cc_190, jj_191, hT_192, hw_185⟩ := hw_185
        have hUhT_192 := hT_192.2.2
        have hky_193 := kyR.mk2 hw_175 hw_185.1 hw_185.2
        have hle_194 := fun (h9 : cc_190 = 0) => kyR.le hky_193 h9
        refine lv_aload_n hx hb dX1_readMap_70 rfl (lv_at hl 1 rfl) ?_
        refine lv_aload_n hx hb dX1_readMap_71 rfl (lv_at hl 2 rfl) ?_
        refine lv_iload_n hx hb dX1_readMap_72 rfl (lv_at hl 3 rfl) ?_
        refine lv_iconst (v := I 1) hx hb dX1_readMap_73 (by decide) ?_
        refine lv_iadd hx hb dX1_readMap_74 ?_
        refine nq_top (I_add _ _) ?_
        refine lv_iload hx hb dX1_readMap_75 (lv_at hl 0 rfl) ?_
        obtain ⟨_, hc_195⟩ := hO.cell h_a (by decide) (ci := 1) rfl
        refine th_callv (va_runV (As := [.ref b, .int (I (dp + 1)), .int (I z_177)]) (rest := []) ⟨hx, hb, hml, hown, hts⟩ (ih l G y b0 σ_s_186 E hO a h_a b h_b (dp + 1) (show rng (dp + 1) from ⟨by omega, by omega⟩) (by omega) (by omega) z_177 (show rng z_177 from rz_177) T cc_190 jj_191 hT_192 (by omega)) (cwV 3 hts gX1_readMap_X1_readThing rfl rfl rfl (by decide +kernel) ⟨(by first | (simp only [headSpec]; omega) | omega | (dsimp only; omega)), (by first | (simp only [headSpec]; omega) | omega | (dsimp only; omega))⟩) (th_PV hK hH rfl hc_195) rfl rfl hl.1 rfl (lv_room (Nat.le_of_ble_eq_true rfl)) dX1_readMap_77 ⟨(by first | (simp only [headSpec]; omega) | omega | (dsimp only; omega)), (by first | (simp only [headSpec]; omega) | omega | (dsimp only; omega))⟩) hS (fun σ_s_197 H locs hw_196 hH hS => ?_)
        obtain ⟨hO9, hF9, hw_196⟩ := hw_196
        replace hO := hO9
        replace hF := hF.tu hF9 (by decide)
        replace hw_196 : ∃ c1 j1, TSt E σ_s_197 (ad E a 0) T c1 j1 ∧ (cc_190 ≠ 0 → c1 = cc_190 ∧ j1 = jj_191) ∧ (cc_190 = 0 → PTh T (dp + 1) jj_191 (gI σ_s_186 b 4) c1 j1 (gI σ_s_197 b 4) ∧ (c1 = 0 → jj_191 < j1 ∧ gr E σ_s_186 σ_s_197 b (gI σ_s_186 b 4) (dp + 1) z_177)) := hw_196
        obtain ⟨cc_198, jj_199, hT_200, hw_196⟩ := hw_196
        have hUhT_200 := hT_200.2.2
        obtain ⟨z_201, e_202, rz_201, lz_201, uz_201⟩ := hO.gi h_b (by decide) k1_4
        have hv_203 := hw_196.2
        have hpr_204 := fun (h8 : cc_190 = 0) h9 => ((hv_203 h8).2 h9).1
        have hg_205 := fun (h9 : cc_198 = 0) => (hk_188 (by omega)).child ((hv_203 (by omega)).2 h9).2 rfl
        have hm_206 := fun (h9 : cc_198 = 0) => (hk_189 (by omega)).snoc ((hv_203 (by omega)).2 h9).2 rfl
        refine lv_aload_n hx hb dX1_readMap_80 rfl (lv_at hl 1 rfl) ?_
        refine ok.getR hO h_a (by decide) k10_0 (by decide) (fun _ _ he hv kk => th_get (ci := 1) (C := RX1) (T := TX1) (N := 1) hx hb hts inX1 hown hK hH he rfl 0 (by decide) fl0 hv dX1_readMap_81 kk) ?_
        refine ok.getI hO hp_14 (by decide) k3_6 (fun _ _ he hv kk => th_getN (ci := 8) (C := RX8) (T := TX8) (N := 9) hx hb hts inX8 hown hK hH he rfl 6 (by decide) (nl_4 hK) hv dX1_readMap_84 kk) (fun z_207 e_208 rz_207 lz_207 uz_207 => ?_)
        refine lv_bipush (v := I 44) hx hb dX1_readMap_87 (by decide) ?_
        refine lv_icmp_ne (tgt := 96) hx hb dX1_readMap_89 (by decide) (fun c_209 => ?_) (fun c_209 => ?_)
        · replace c_209 := mt (I_eq (a := z_207) (b := 44) rz_207 (show rng 44 from ⟨by decide, by decide⟩)).mpr c_209
          refine lv_iconst (v := I 0) hx hb dX1_readMap_96 (by decide) ?_
          refine lv_istore (lv' := [(5, .int (I 0)), (7, .int (I z_177)), (0, .ref a), (1, .ref b), (2, .int (I dp)), (4, .int (I z_6)), (6, .int (I v6q139))]) hx hb dX1_readMap_97 hl (by decide) rfl (fun ls hl => ?_)
          refine lv_iload hx hb dX1_readMap_99 (lv_at hl 0 rfl) ?_
          refine lv_if_eq (tgt := 111) hx hb dX1_readMap_101 (by decide) (fun _ => ?_) (fun c_210 => absurd (by decide) c_210)
          refine lv_iinc (v := I (v6q139 + 1)) (lv' := [(6, .int (I (v6q139 + 1))), (5, .int (I 0)), (7, .int (I z_177)), (0, .ref a), (1, .ref b), (2, .int (I dp)), (4, .int (I z_6))]) hx hb dX1_readMap_111 hl (k := 6) rfl (I_add _ _) (by decide) rfl (fun ls hl => ?_)
          refine lv_goto (tgt := 39) hx hb dX1_readMap_114 (by decide) ?_
          replace hl : lv_has ls 8 [(6, .int (I (v6q139 + 1))), (5, .int (I 0)), (0, .ref a), (1, .ref b), (2, .int (I dp)), (4, .int (I z_6))] := lv_sub hl [0, 1, 3, 4, 5, 6] rfl
          exact ihJ_140 (0, v6q139 + 1) σ_s_197 _ _ _ (by first | omega | (dsimp only; omega)) ⟨hO, hF, hH, hS, lv_sub hl [2, 3, 4, 5, 1, 0] rfl, (show rng 0 from ⟨by decide, by decide⟩), ⟨by first | omega | (dsimp only; omega), by first | omega | (dsimp only; omega)⟩, by first | omega | (dsimp only; omega), by first | omega | (dsimp only; omega), by first | omega | (dsimp only; omega), by first | omega | (dsimp only; omega), (by
            by_cases hc9 : cc_190 = 0
            · exact ⟨cc_198, jj_199, kk_143 ++ [z_177], hT_200, fun h9 => ⟨hg_205 (by omega), hm_206 (by omega)⟩, fun h9 => by have h8 := hpr_204 hc9 (by omega); have h7 := hP_146 (by omega); have h6 := hle_194 hc9; first | omega | (dsimp only; omega), (by obtain ⟨z9, hP9, hz9⟩ := (hv_203 hc9).1; (try dsimp only); exact (lin.item (op := 123) (z := z9) (by unfold brk; omega) (hL_147.em (by omega)) (by have h8 := hky_193; rw [hc9] at h8; exact h8) hP9 (fun h9 => by have h8 := hz9 h9; omega) (by omega)).ec (by omega))⟩
            · first | (exfalso; omega) | exact ⟨cc_198, jj_199, kk_143, hT_200, fun h9 => absurd h9 (by omega), fun h9 => absurd h9 (by omega), (by rw [show jj_199 = jj_191 by omega]; exact ((lin.key (op := 123) (by unfold brk; omega) (hL_147.em (by omega)) hky_193 hc9).ec (c3 := cc_198) (by omega)).em (by first | omega | (dsimp only; omega)))⟩
            )⟩
        · replace c_209 := (I_eq (a := z_207) (b := 44) rz_207 (show rng 44 from ⟨by decide, by decide⟩)).mp c_209
          have h0_211 : cc_198 = 0 := by omega
          have hp_212 := hT_200.2.2.2.2.2.2.1 h0_211
          have hp_212j := And.intro hT_200.2.2.1 (And.intro hT_200.2.2.2.1 (And.intro hT_200.2.2.2.2.1 hT_200.2.2.2.2.2.1))
          clear hUhT_200
          refine lv_iconst (v := I 1) hx hb dX1_readMap_92 (by decide) ?_
          refine lv_goto (tgt := 97) hx hb dX1_readMap_93 (by decide) ?_
          refine lv_istore (lv' := [(5, .int (I 1)), (7, .int (I z_177)), (0, .ref a), (1, .ref b), (2, .int (I dp)), (4, .int (I z_6)), (6, .int (I v6q139))]) hx hb dX1_readMap_97 hl (by decide) rfl (fun ls hl => ?_)
          refine lv_iload hx hb dX1_readMap_99 (lv_at hl 0 rfl) ?_
          refine lv_if_eq (tgt := 111) hx hb dX1_readMap_101 (by decide) (fun c_213 => absurd c_213 (by decide)) (fun _ => ?_)
          refine lv_aload_n hx hb dX1_readMap_104 rfl (lv_at hl 2 rfl) ?_
          refine ok.getR hO h_a (by decide) k10_0 (by decide) (fun _ _ he hv kk => th_get (ci := 1) (C := RX1) (T := TX1) (N := 1) hx hb hts inX1 hown hK hH he rfl 0 (by decide) fl0 hv dX1_readMap_105 kk) ?_
          obtain ⟨_, hc_214⟩ := hO.cell hp_14 (by decide) (ci := 8) rfl
          refine th_callv (va_runV (As := []) (rest := []) ⟨hx, hb, hml, hown, hts⟩ (f_step l G y b0 σ_s_197 E hO (ad E a 0) hp_14 T cc_198 jj_199 hT_200) (cwV 0 hts gX1_readMap_X8_step rfl rfl rfl (by decide +kernel) ⟨(by first | (simp only [headSpec]; omega) | omega | (dsimp only; omega)), (by first | (simp only [headSpec]; omega) | omega | (dsimp only; omega))⟩) (th_PV hK hH rfl hc_214) rfl rfl hl.1 rfl (lv_room (Nat.le_of_ble_eq_true rfl)) dX1_readMap_108 ⟨(by first | (simp only [headSpec]; omega) | omega | (dsimp only; omega)), (by first | (simp only [headSpec]; omega) | omega | (dsimp only; omega))⟩) hS (fun σ_s_216 H locs hw_215 hH hS => ?_)
          obtain ⟨hO9, hF9, hw_215⟩ := hw_215
          have e_217 : gI σ_s_216 b 4 = z_201 := (fr.ki hO hF9 h_b (by decide) (by decide) _).trans e_202
          have hk_218 := fun (h9 : cc_198 = 0) => gr.mv hO hF9 h_b (by decide) (hg_205 h9)
          have hk_219 := fun (h9 : cc_198 = 0) => mapst.mv hO hF9 h_b (by decide) (hm_206 h9)
          replace hO := hO9
          replace hF := hF.tu hF9 (by decide)
          replace hw_215 : ∃ c1 j1, TSt E σ_s_216 (ad E a 0) T c1 j1 ∧ c1 = cc_198 ∧ (cc_198 ≠ 0 → j1 = jj_199) ∧ (cc_198 = 0 → tK T jj_199 ≠ 259 → j1 = jj_199 + 1) := hw_215
          obtain ⟨cc_220, jj_221, hT_222, hw_215⟩ := hw_215
          have hUhT_222 := hT_222.2.2
          have hw_215j : jj_221 = jj_199 + 1 := by omega
          have h0_223 : cc_220 = 0 := by omega
          have hp_224 := hT_222.2.2.2.2.2.2.1 h0_223
          have hp_224j := And.intro hT_222.2.2.1 (And.intro hT_222.2.2.2.1 (And.intro hT_222.2.2.2.2.1 hT_222.2.2.2.2.2.1))
          clear hUhT_222
          clear hw_215
          refine lv_iinc (v := I (v6q139 + 1)) (lv' := [(6, .int (I (v6q139 + 1))), (5, .int (I 1)), (7, .int (I z_177)), (0, .ref a), (1, .ref b), (2, .int (I dp)), (4, .int (I z_6))]) hx hb dX1_readMap_111 hl (k := 6) rfl (I_add _ _) (by decide) rfl (fun ls hl => ?_)
          refine lv_goto (tgt := 39) hx hb dX1_readMap_114 (by decide) ?_
          replace hl : lv_has ls 8 [(6, .int (I (v6q139 + 1))), (5, .int (I 1)), (0, .ref a), (1, .ref b), (2, .int (I dp)), (4, .int (I z_6))] := lv_sub hl [0, 1, 3, 4, 5, 6] rfl
          exact ihJ_140 (1, v6q139 + 1) σ_s_216 _ _ _ (by first | omega | (dsimp only; omega)) ⟨hO, hF, hH, hS, lv_sub hl [2, 3, 4, 5, 1, 0] rfl, (show rng 1 from ⟨by decide, by decide⟩), ⟨by first | omega | (dsimp only; omega), by first | omega | (dsimp only; omega)⟩, by first | omega | (dsimp only; omega), by first | omega | (dsimp only; omega), by first | omega | (dsimp only; omega), by first | omega | (dsimp only; omega), (by
            by_cases hc9 : cc_190 = 0
            · exact ⟨cc_220, jj_221, kk_143 ++ [z_177], hT_222, fun h9 => ⟨hk_218 (by omega), hk_219 (by omega)⟩, fun h9 => by have h8 := hpr_204 hc9 (by omega); have h7 := hP_146 (by omega); have h6 := hle_194 hc9; first | omega | (dsimp only; omega), (by obtain ⟨z9, hP9, hz9⟩ := (hv_203 hc9).1; (try dsimp only); exact (lin.item (op := 123) (z := z9) (by unfold brk; omega) (hL_147.em (by omega)) (by have h8 := hky_193; rw [hc9] at h8; exact h8) hP9 (fun h9 => by have h8 := hz9 h9; omega) (by omega)).ec (by omega))⟩
            · first | (exfalso; omega) | exact ⟨cc_220, jj_221, kk_143, hT_222, fun h9 => absurd h9 (by omega), fun h9 => absurd h9 (by omega), (by rw [show jj_221 = jj_191 by omega]; exact ((lin.key (op := 123) (by unfold brk; omega) (hL_147.em (by omega)) hky_193 hc9).ec (c3 := cc_220) (by omega)).em (by first | omega | (dsimp only; omega)))⟩
            )⟩
  · replace c_28 := mt (I_eq (a := z_26) (b := 125) rz_26 (show rng 125 from ⟨by decide, by decide⟩)).mpr c_28
    refine lv_iconst (v := I 1) hx hb dX1_readMap_29 (by decide) ?_
    refine lv_goto (tgt := 34) hx hb dX1_readMap_30 (by decide) ?_
    refine lv_istore (lv' := [(5, .int (I 1)), (4, .int (I z_6)), (0, .ref a), (1, .ref b), (2, .int (I dp)), (3, .int (I ky))]) hx hb dX1_readMap_34 hl (by decide) rfl (fun ls hl => ?_)
    refine lv_iconst (v := I 0) hx hb dX1_readMap_36 (by decide) ?_
    refine lv_istore (lv' := [(6, .int (I 0)), (5, .int (I 1)), (4, .int (I z_6)), (0, .ref a), (1, .ref b), (2, .int (I dp)), (3, .int (I ky))]) hx hb dX1_readMap_37 hl (by decide) rfl (fun ls hl => ?_)
    replace hl : lv_has ls 8 [(6, .int (I 0)), (5, .int (I 1)), (4, .int (I z_6)), (0, .ref a), (1, .ref b), (2, .int (I dp))] := lv_sub hl [0, 1, 2, 3, 4, 5] rfl
    refine th_loop (α := Int × Int) (pc := 39) (fun x9 => (400 - x9.2).toNat) (fun x9 σ9 H9 l9 ls9 => ok y E σ9 ∧ fr [3, 1] E σ σ9 ∧ th_H G b0 σ9 H9 ∧ va_S (th_A b0) s.heap H9 l9 ∧ lv_has ls9 8 [(0, .ref a), (1, .ref b), (2, .int (I dp)), (4, .int (I z_6)), (5, .int (I x9.1)), (6, .int (I x9.2))] ∧ rng x9.1 ∧ rng x9.2 ∧ (0 ≤ x9.1) ∧ (x9.1 ≤ 1) ∧ (0 ≤ x9.2) ∧ (x9.2 ≤ 400) ∧ (∃ c2 j2 k2, TSt E σ9 (ad E a 0) T c2 j2 ∧ (c2 = 0 → gr E σ σ9 b (gI σ b 4) dp ky ∧ mapst E σ9 b (gI σ b 4) dp k2) ∧ (c2 = 0 → jt + 1 + x9.2 ≤ j2) ∧ lin T 2 125 dp jt (gI σ b 4) k2 x9.1 c2 j2 (gI σ9 b 4))) ?_ (1, 0) σ_s_17 _ _ _ ⟨hO, hF, hH, hS, lv_sub hl [3, 4, 5, 2, 1, 0] rfl, (show rng 1 from ⟨by decide, by decide⟩), (show rng 0 from ⟨by decide, by decide⟩), by first | omega | (dsimp only; omega), by first | omega | (dsimp only; omega), by first | omega | (dsimp only; omega), by first | omega | (dsimp only; omega), ⟨cc_21, jj_22, [], hT_23, fun _ => ⟨hk_19 trivial, hk_20 trivial⟩, fun _ => by omega, (lin.start (op := 123) (by unfold brk; omega) (by omega) (by omega) (by omega) (by omega) (by omega)).ec (by omega)⟩⟩
    intro x9 σ_J_226 H locs ls hI9 ihJ_226
    obtain ⟨v5q225, v6q225⟩ := x9
    obtain ⟨hO, hF, hH, hS, hl, rv5q225, rv6q225, J_226_0, J_226_1, J_226_2, J_226_3, J_226_4⟩ := hI9
    have hl : lv_has ls 8 [(0, .ref a), (1, .ref b), (2, .int (I dp)), (4, .int (I z_6)), (5, .int (I v5q225)), (6, .int (I v6q225))] := hl
    have rv5q225 : rng v5q225 := rv5q225
    have rv6q225 : rng v6q225 := rv6q225
    replace J_226_0 : 0 ≤ v5q225 := J_226_0
    replace J_226_1 : v5q225 ≤ 1 := J_226_1
    replace J_226_2 : 0 ≤ v6q225 := J_226_2
    replace J_226_3 : v6q225 ≤ 400 := J_226_3
    replace J_226_4 : ∃ c2 j2 k2, TSt E σ_J_226 (ad E a 0) T c2 j2 ∧ (c2 = 0 → gr E σ σ_J_226 b (gI σ b 4) dp ky ∧ mapst E σ_J_226 b (gI σ b 4) dp k2) ∧ (c2 = 0 → jt + 1 + v6q225 ≤ j2) ∧ lin T 2 125 dp jt (gI σ b 4) k2 v5q225 c2 j2 (gI σ_J_226 b 4) := J_226_4
    obtain ⟨cc_227, jj_228, kk_229, hT_230, hG_231, hP_232, hL_233⟩ := J_226_4
    have hUhT_230 := hT_230.2.2
    have h0hL_233 := hL_233.c0
    obtain ⟨z_234, e_235, rz_234, lz_234, uz_234⟩ := hO.gi h_b (by decide) k1_4
    have hg_236 := fun (h9 : cc_227 = 0) => (hG_231 h9).1
    have hm_237 := fun (h9 : cc_227 = 0) => (hG_231 h9).2
    refine lv_iload hx hb dX1_readMap_39 (lv_at hl 4 rfl) ?_
    refine lv_if_eq (tgt := 117) hx hb dX1_readMap_41 (by decide) (fun c_238 => ?_) (fun c_238 => ?_)
    · replace c_238 := (I_eq (a := v5q225) (b := 0) rv5q225 (show rng 0 from ⟨by decide, by decide⟩)).mp c_238
      refine lv_aload_n hx hb dX1_readMap_117 rfl (lv_at hl 0 rfl) ?_
      refine ok.getR hO h_a (by decide) k10_0 (by decide) (fun _ _ he hv kk => th_get (ci := 1) (C := RX1) (T := TX1) (N := 1) hx hb hts inX1 hown hK hH he rfl 0 (by decide) fl0 hv dX1_readMap_118 kk) ?_
      refine lv_bipush (v := I 125) hx hb dX1_readMap_121 (by decide) ?_
      obtain ⟨_, hc_239⟩ := hO.cell hp_14 (by decide) (ci := 8) rfl
      refine th_callv (va_runV (As := [.int (I 125)]) (rest := []) ⟨hx, hb, hml, hown, hts⟩ (f_expect l G y b0 σ_J_226 E hO (ad E a 0) hp_14 125 (show rng 125 from (show rng 125 from ⟨by decide, by decide⟩)) (by omega) (by omega) T cc_227 jj_228 hT_230) (cwV 1 hts gX1_readMap_X8_expect rfl rfl rfl (by decide +kernel) ⟨(by first | (simp only [headSpec]; omega) | omega | (dsimp only; omega)), (by first | (simp only [headSpec]; omega) | omega | (dsimp only; omega))⟩) (th_PV hK hH rfl hc_239) rfl rfl hl.1 rfl (lv_room (Nat.le_of_ble_eq_true rfl)) dX1_readMap_123 ⟨(by first | (simp only [headSpec]; omega) | omega | (dsimp only; omega)), (by first | (simp only [headSpec]; omega) | omega | (dsimp only; omega))⟩) hS (fun σ_s_241 H locs hw_240 hH hS => ?_)
      obtain ⟨hO9, hF9, hw_240⟩ := hw_240
      have e_242 : gI σ_s_241 b 4 = z_234 := (fr.ki hO hF9 h_b (by decide) (by decide) _).trans e_235
      have hk_243 := fun (h9 : cc_227 = 0) => gr.mv hO hF9 h_b (by decide) (hg_236 h9)
      have hk_244 := fun (h9 : cc_227 = 0) => mapst.mv hO hF9 h_b (by decide) (hm_237 h9)
      replace hO := hO9
      replace hF := hF.tu hF9 (by decide)
      replace hw_240 : ∃ c1 j1, TSt E σ_s_241 (ad E a 0) T c1 j1 ∧ (cc_227 ≠ 0 → c1 = cc_227 ∧ j1 = jj_228) ∧ (cc_227 = 0 → (tK T jj_228 = 125 ∧ c1 = 0 ∧ j1 = jj_228 + 1) ∨ (tK T jj_228 ≠ 125 ∧ c1 = 1 ∧ j1 = jj_228)) := hw_240
      obtain ⟨cc_245, jj_246, hT_247, hw_240⟩ := hw_240
      have hUhT_247 := hT_247.2.2
      exact th_vret hx hb hr hlocks hH hS ⟨hO, hF, (by first | (exfalso; omega) | exact ⟨cc_245, jj_246, hT_247, (by have h8 := (hL_233.em (mo2 := 0) (by omega)).done hw_240.1 hw_240.2; rw [show (gI σ_J_226 b 4) = gI σ_s_241 b 4 by omega] at h8; exact h8), fun h9 => ⟨by have h8 := hP_232 (by omega); omega, hk_243 (by omega)⟩⟩)⟩ dX1_readMap_126
    · replace c_238 := mt (I_eq (a := v5q225) (b := 0) rv5q225 (show rng 0 from ⟨by decide, by decide⟩)).mpr c_238
      refine lv_iload hx hb dX1_readMap_44 (lv_at hl 5 rfl) ?_
      refine lv_sipush (v := I 400) hx hb dX1_readMap_46 (by decide) ?_
      refine lv_icmp_ge (tgt := 117) hx hb dX1_readMap_49 (by decide) (fun c_248 => ?_) (fun c_248 => ?_)
      · replace c_248 := (I_le (a := 400) (b := v6q225) (show rng 400 from ⟨by decide, by decide⟩) rv6q225).mp c_248
        refine lv_aload_n hx hb dX1_readMap_117 rfl (lv_at hl 0 rfl) ?_
        refine ok.getR hO h_a (by decide) k10_0 (by decide) (fun _ _ he hv kk => th_get (ci := 1) (C := RX1) (T := TX1) (N := 1) hx hb hts inX1 hown hK hH he rfl 0 (by decide) fl0 hv dX1_readMap_118 kk) ?_
        refine lv_bipush (v := I 125) hx hb dX1_readMap_121 (by decide) ?_
        obtain ⟨_, hc_249⟩ := hO.cell hp_14 (by decide) (ci := 8) rfl
        refine th_callv (va_runV (As := [.int (I 125)]) (rest := []) ⟨hx, hb, hml, hown, hts⟩ (f_expect l G y b0 σ_J_226 E hO (ad E a 0) hp_14 125 (show rng 125 from (show rng 125 from ⟨by decide, by decide⟩)) (by omega) (by omega) T cc_227 jj_228 hT_230) (cwV 1 hts gX1_readMap_X8_expect rfl rfl rfl (by decide +kernel) ⟨(by first | (simp only [headSpec]; omega) | omega | (dsimp only; omega)), (by first | (simp only [headSpec]; omega) | omega | (dsimp only; omega))⟩) (th_PV hK hH rfl hc_249) rfl rfl hl.1 rfl (lv_room (Nat.le_of_ble_eq_true rfl)) dX1_readMap_123 ⟨(by first | (simp only [headSpec]; omega) | omega | (dsimp only; omega)), (by first | (simp only [headSpec]; omega) | omega | (dsimp only; omega))⟩) hS (fun σ_s_251 H locs hw_250 hH hS => ?_)
        obtain ⟨hO9, hF9, hw_250⟩ := hw_250
        have e_252 : gI σ_s_251 b 4 = z_234 := (fr.ki hO hF9 h_b (by decide) (by decide) _).trans e_235
        have hk_253 := fun (h9 : cc_227 = 0) => gr.mv hO hF9 h_b (by decide) (hg_236 h9)
        have hk_254 := fun (h9 : cc_227 = 0) => mapst.mv hO hF9 h_b (by decide) (hm_237 h9)
        replace hO := hO9
        replace hF := hF.tu hF9 (by decide)
        replace hw_250 : ∃ c1 j1, TSt E σ_s_251 (ad E a 0) T c1 j1 ∧ (cc_227 ≠ 0 → c1 = cc_227 ∧ j1 = jj_228) ∧ (cc_227 = 0 → (tK T jj_228 = 125 ∧ c1 = 0 ∧ j1 = jj_228 + 1) ∨ (tK T jj_228 ≠ 125 ∧ c1 = 1 ∧ j1 = jj_228)) := hw_250
        obtain ⟨cc_255, jj_256, hT_257, hw_250⟩ := hw_250
        have hUhT_257 := hT_257.2.2
        exact th_vret hx hb hr hlocks hH hS ⟨hO, hF, (by first | (exfalso; omega) | exact ⟨cc_255, jj_256, hT_257, (by have h8 := (hL_233.em (mo2 := 0) (by omega)).done hw_250.1 hw_250.2; rw [show (gI σ_J_226 b 4) = gI σ_s_251 b 4 by omega] at h8; exact h8), fun h9 => ⟨by have h8 := hP_232 (by omega); omega, hk_253 (by omega)⟩⟩)⟩ dX1_readMap_126
      · replace c_248 := mt (I_le (a := 400) (b := v6q225) (show rng 400 from ⟨by decide, by decide⟩) rv6q225).mpr c_248
        have h0_258 : cc_227 = 0 := by omega
        have hp_259 := hT_230.2.2.2.2.2.2.1 h0_258
        have hp_259j := And.intro hT_230.2.2.1 (And.intro hT_230.2.2.2.1 (And.intro hT_230.2.2.2.2.1 hT_230.2.2.2.2.2.1))
        clear hUhT_230
        refine lv_aload_n hx hb dX1_readMap_52 rfl (lv_at hl 0 rfl) ?_
        refine lv_aload_n hx hb dX1_readMap_53 rfl (lv_at hl 1 rfl) ?_
        refine lv_iload hx hb dX1_readMap_54 (lv_at hl 3 rfl) ?_
        obtain ⟨_, hc_260⟩ := hO.cell h_a (by decide) (ci := 1) rfl
        refine th_calli (va_runV (As := [.ref b, .int (I z_6)]) (rest := []) ⟨hx, hb, hml, hown, hts⟩ (r6_readKey l G y b0 σ_J_226 E hO a h_a b h_b z_6 (show rng z_6 from rz_6) T cc_227 jj_228 hT_230 dp kk_229 (by omega) ((by rw [show z_6 = gI σ b 4 by omega]; exact hm_237 (by omega)))) (cwV 2 hts gX1_readMap_X1_readKey rfl rfl rfl (by decide +kernel) ⟨(by first | (simp only [headSpec]; omega) | omega | (dsimp only; omega)), (by first | (simp only [headSpec]; omega) | omega | (dsimp only; omega))⟩) (th_PV hK hH rfl hc_260) rfl rfl hl.1 rfl (lv_room (Nat.le_of_ble_eq_true rfl)) dX1_readMap_56 ⟨(by first | (simp only [headSpec]; omega) | omega | (dsimp only; omega)), (by first | (simp only [headSpec]; omega) | omega | (dsimp only; omega))⟩) hS (fun z_263 σ_s_262 H locs rz_263 hw_261 hH hS => ?_)
        obtain ⟨hO9, hF9, hw_261⟩ := hw_261
        have e_264 : gI σ_s_262 b 4 = z_234 := (fr.ki hO hF9 h_b (by decide) (by decide) _).trans e_235
        have hk_265 := fun (h9 : cc_227 = 0) => gr.mv hO hF9 h_b (by decide) (hg_236 h9)
        have hk_266 := fun (h9 : cc_227 = 0) => mapst.mv hO hF9 h_b (by decide) (hm_237 h9)
        replace hO := hO9
        replace hF := hF.tu hF9 (by decide)
        replace hw_261 : ∃ c1 j1, TSt E σ_s_262 (ad E a 0) T c1 j1 ∧ kR T jj_228 kk_229 c1 j1 z_263 := hw_261
        obtain ⟨cc_267, jj_268, hT_269, hw_261⟩ := hw_261
        have hUhT_269 := hT_269.2.2
        refine lv_istore (lv' := [(7, .int (I z_263)), (0, .ref a), (1, .ref b), (2, .int (I dp)), (4, .int (I z_6)), (5, .int (I v5q225)), (6, .int (I v6q225))]) hx hb dX1_readMap_59 hl (by decide) rfl (fun ls hl => ?_)
        refine lv_aload_n hx hb dX1_readMap_61 rfl (lv_at hl 1 rfl) ?_
        refine ok.getR hO h_a (by decide) k10_0 (by decide) (fun _ _ he hv kk => th_get (ci := 1) (C := RX1) (T := TX1) (N := 1) hx hb hts inX1 hown hK hH he rfl 0 (by decide) fl0 hv dX1_readMap_62 kk) ?_
        refine lv_bipush (v := I 58) hx hb dX1_readMap_65 (by decide) ?_
        obtain ⟨_, hc_270⟩ := hO.cell hp_14 (by decide) (ci := 8) rfl
        refine th_callv (va_runV (As := [.int (I 58)]) (rest := []) ⟨hx, hb, hml, hown, hts⟩ (f_expect l G y b0 σ_s_262 E hO (ad E a 0) hp_14 58 (show rng 58 from (show rng 58 from ⟨by decide, by decide⟩)) (by omega) (by omega) T cc_267 jj_268 hT_269) (cwV 1 hts gX1_readMap_X8_expect rfl rfl rfl (by decide +kernel) ⟨(by first | (simp only [headSpec]; omega) | omega | (dsimp only; omega)), (by first | (simp only [headSpec]; omega) | omega | (dsimp only; omega))⟩) (th_PV hK hH rfl hc_270) rfl rfl hl.1 rfl (lv_room (Nat.le_of_ble_eq_true rfl)) dX1_readMap_67 ⟨(by first | (simp only [headSpec]; omega) | omega | (dsimp only; omega)), (by first | (simp only [headSpec]; omega) | omega | (dsimp only; omega))⟩) hS (fun σ_s_272 H locs hw_271 hH hS => ?_)
        obtain ⟨hO9, hF9, hw_271⟩ := hw_271
        have e_273 : gI σ_s_272 b 4 = z_234 := (fr.ki hO hF9 h_b (by decide) (by decide) _).trans e_264
        have hk_274 := fun (h9 : cc_227 = 0) => gr.mv hO hF9 h_b (by decide) (hk_265 h9)
        have hk_275 := fun (h9 : cc_227 = 0) => mapst.mv hO hF9 h_b (by decide) (hk_266 h9)
        replace hO := hO9
        replace hF := hF.tu hF9 (by decide)
        replace hw_271 : ∃ c1 j1, TSt E σ_s_272 (ad E a 0) T c1 j1 ∧ (cc_267 ≠ 0 → c1 = cc_267 ∧ j1 = jj_268) ∧ (cc_267 = 0 → (tK T jj_268 = 58 ∧ c1 = 0 ∧ j1 = jj_268 + 1) ∨ (tK T jj_268 ≠ 58 ∧ c1 = 1 ∧ j1 = jj_268)) := hw_271
        obtain ⟨cc_276, jj_277, hT_278, hw_271⟩ := hw_271
        have hUhT_278 := hT_278.2.2
        have hky_279 := kyR.mk2 hw_261 hw_271.1 hw_271.2
        have hle_280 := fun (h9 : cc_276 = 0) => kyR.le hky_279 h9
        refine lv_aload_n hx hb dX1_readMap_70 rfl (lv_at hl 1 rfl) ?_
        refine lv_aload_n hx hb dX1_readMap_71 rfl (lv_at hl 2 rfl) ?_
        refine lv_iload_n hx hb dX1_readMap_72 rfl (lv_at hl 3 rfl) ?_
        refine lv_iconst (v := I 1) hx hb dX1_readMap_73 (by decide) ?_
        refine lv_iadd hx hb dX1_readMap_74 ?_
        refine nq_top (I_add _ _) ?_
        refine lv_iload hx hb dX1_readMap_75 (lv_at hl 0 rfl) ?_
        obtain ⟨_, hc_281⟩ := hO.cell h_a (by decide) (ci := 1) rfl
        refine th_callv (va_runV (As := [.ref b, .int (I (dp + 1)), .int (I z_263)]) (rest := []) ⟨hx, hb, hml, hown, hts⟩ (ih l G y b0 σ_s_272 E hO a h_a b h_b (dp + 1) (show rng (dp + 1) from ⟨by omega, by omega⟩) (by omega) (by omega) z_263 (show rng z_263 from rz_263) T cc_276 jj_277 hT_278 (by omega)) (cwV 3 hts gX1_readMap_X1_readThing rfl rfl rfl (by decide +kernel) ⟨(by first | (simp only [headSpec]; omega) | omega | (dsimp only; omega)), (by first | (simp only [headSpec]; omega) | omega | (dsimp only; omega))⟩) (th_PV hK hH rfl hc_281) rfl rfl hl.1 rfl (lv_room (Nat.le_of_ble_eq_true rfl)) dX1_readMap_77 ⟨(by first | (simp only [headSpec]; omega) | omega | (dsimp only; omega)), (by first | (simp only [headSpec]; omega) | omega | (dsimp only; omega))⟩) hS (fun σ_s_283 H locs hw_282 hH hS => ?_)
        obtain ⟨hO9, hF9, hw_282⟩ := hw_282
        replace hO := hO9
        replace hF := hF.tu hF9 (by decide)
        replace hw_282 : ∃ c1 j1, TSt E σ_s_283 (ad E a 0) T c1 j1 ∧ (cc_276 ≠ 0 → c1 = cc_276 ∧ j1 = jj_277) ∧ (cc_276 = 0 → PTh T (dp + 1) jj_277 (gI σ_s_272 b 4) c1 j1 (gI σ_s_283 b 4) ∧ (c1 = 0 → jj_277 < j1 ∧ gr E σ_s_272 σ_s_283 b (gI σ_s_272 b 4) (dp + 1) z_263)) := hw_282
        obtain ⟨cc_284, jj_285, hT_286, hw_282⟩ := hw_282
        have hUhT_286 := hT_286.2.2
        obtain ⟨z_287, e_288, rz_287, lz_287, uz_287⟩ := hO.gi h_b (by decide) k1_4
        have hv_289 := hw_282.2
        have hpr_290 := fun (h8 : cc_276 = 0) h9 => ((hv_289 h8).2 h9).1
        have hg_291 := fun (h9 : cc_284 = 0) => (hk_274 (by omega)).child ((hv_289 (by omega)).2 h9).2 rfl
        have hm_292 := fun (h9 : cc_284 = 0) => (hk_275 (by omega)).snoc ((hv_289 (by omega)).2 h9).2 rfl
        refine lv_aload_n hx hb dX1_readMap_80 rfl (lv_at hl 1 rfl) ?_
        refine ok.getR hO h_a (by decide) k10_0 (by decide) (fun _ _ he hv kk => th_get (ci := 1) (C := RX1) (T := TX1) (N := 1) hx hb hts inX1 hown hK hH he rfl 0 (by decide) fl0 hv dX1_readMap_81 kk) ?_
        refine ok.getI hO hp_14 (by decide) k3_6 (fun _ _ he hv kk => th_getN (ci := 8) (C := RX8) (T := TX8) (N := 9) hx hb hts inX8 hown hK hH he rfl 6 (by decide) (nl_4 hK) hv dX1_readMap_84 kk) (fun z_293 e_294 rz_293 lz_293 uz_293 => ?_)
        refine lv_bipush (v := I 44) hx hb dX1_readMap_87 (by decide) ?_
        refine lv_icmp_ne (tgt := 96) hx hb dX1_readMap_89 (by decide) (fun c_295 => ?_) (fun c_295 => ?_)
        · replace c_295 := mt (I_eq (a := z_293) (b := 44) rz_293 (show rng 44 from ⟨by decide, by decide⟩)).mpr c_295
          refine lv_iconst (v := I 0) hx hb dX1_readMap_96 (by decide) ?_
          refine lv_istore (lv' := [(5, .int (I 0)), (7, .int (I z_263)), (0, .ref a), (1, .ref b), (2, .int (I dp)), (4, .int (I z_6)), (6, .int (I v6q225))]) hx hb dX1_readMap_97 hl (by decide) rfl (fun ls hl => ?_)
          refine lv_iload hx hb dX1_readMap_99 (lv_at hl 0 rfl) ?_
          refine lv_if_eq (tgt := 111) hx hb dX1_readMap_101 (by decide) (fun _ => ?_) (fun c_296 => absurd (by decide) c_296)
          refine lv_iinc (v := I (v6q225 + 1)) (lv' := [(6, .int (I (v6q225 + 1))), (5, .int (I 0)), (7, .int (I z_263)), (0, .ref a), (1, .ref b), (2, .int (I dp)), (4, .int (I z_6))]) hx hb dX1_readMap_111 hl (k := 6) rfl (I_add _ _) (by decide) rfl (fun ls hl => ?_)
          refine lv_goto (tgt := 39) hx hb dX1_readMap_114 (by decide) ?_
          replace hl : lv_has ls 8 [(6, .int (I (v6q225 + 1))), (5, .int (I 0)), (0, .ref a), (1, .ref b), (2, .int (I dp)), (4, .int (I z_6))] := lv_sub hl [0, 1, 3, 4, 5, 6] rfl
          exact ihJ_226 (0, v6q225 + 1) σ_s_283 _ _ _ (by first | omega | (dsimp only; omega)) ⟨hO, hF, hH, hS, lv_sub hl [2, 3, 4, 5, 1, 0] rfl, (show rng 0 from ⟨by decide, by decide⟩), ⟨by first | omega | (dsimp only; omega), by first | omega | (dsimp only; omega)⟩, by first | omega | (dsimp only; omega), by first | omega | (dsimp only; omega), by first | omega | (dsimp only; omega), by first | omega | (dsimp only; omega), (by
            by_cases hc9 : cc_276 = 0
            · exact ⟨cc_284, jj_285, kk_229 ++ [z_263], hT_286, fun h9 => ⟨hg_291 (by omega), hm_292 (by omega)⟩, fun h9 => by have h8 := hpr_290 hc9 (by omega); have h7 := hP_232 (by omega); have h6 := hle_280 hc9; first | omega | (dsimp only; omega), (by obtain ⟨z9, hP9, hz9⟩ := (hv_289 hc9).1; (try dsimp only); exact (lin.item (op := 123) (z := z9) (by unfold brk; omega) (hL_233.em (by omega)) (by have h8 := hky_279; rw [hc9] at h8; exact h8) hP9 (fun h9 => by have h8 := hz9 h9; omega) (by omega)).ec (by omega))⟩
            · first | (exfalso; omega) | exact ⟨cc_284, jj_285, kk_229, hT_286, fun h9 => absurd h9 (by omega), fun h9 => absurd h9 (by omega), (by rw [show jj_285 = jj_277 by omega]; exact ((lin.key (op := 123) (by unfold brk; omega) (hL_233.em (by omega)) hky_279 hc9).ec (c3 := cc_284) (by omega)).em (by first | omega | (dsimp only; omega)))⟩
            )⟩
        · replace c_295 := (I_eq (a := z_293) (b := 44) rz_293 (show rng 44 from ⟨by decide, by decide⟩)).mp c_295
          have h0_297 : cc_284 = 0 := by omega
          have hp_298 := hT_286.2.2.2.2.2.2.1 h0_297
          have hp_298j := And.intro hT_286.2.2.1 (And.intro hT_286.2.2.2.1 (And.intro hT_286.2.2.2.2.1 hT_286.2.2.2.2.2.1))
          clear hUhT_286
          refine lv_iconst (v := I 1) hx hb dX1_readMap_92 (by decide) ?_
          refine lv_goto (tgt := 97) hx hb dX1_readMap_93 (by decide) ?_
          refine lv_istore (lv' := [(5, .int (I 1)), (7, .int (I z_263)), (0, .ref a), (1, .ref b), (2, .int (I dp)), (4, .int (I z_6)), (6, .int (I v6q225))]) hx hb dX1_readMap_97 hl (by decide) rfl (fun ls hl => ?_)
          refine lv_iload hx hb dX1_readMap_99 (lv_at hl 0 rfl) ?_
          refine lv_if_eq (tgt := 111) hx hb dX1_readMap_101 (by decide) (fun c_299 => absurd c_299 (by decide)) (fun _ => ?_)
          refine lv_aload_n hx hb dX1_readMap_104 rfl (lv_at hl 2 rfl) ?_
          refine ok.getR hO h_a (by decide) k10_0 (by decide) (fun _ _ he hv kk => th_get (ci := 1) (C := RX1) (T := TX1) (N := 1) hx hb hts inX1 hown hK hH he rfl 0 (by decide) fl0 hv dX1_readMap_105 kk) ?_
          obtain ⟨_, hc_300⟩ := hO.cell hp_14 (by decide) (ci := 8) rfl
          refine th_callv (va_runV (As := []) (rest := []) ⟨hx, hb, hml, hown, hts⟩ (f_step l G y b0 σ_s_283 E hO (ad E a 0) hp_14 T cc_284 jj_285 hT_286) (cwV 0 hts gX1_readMap_X8_step rfl rfl rfl (by decide +kernel) ⟨(by first | (simp only [headSpec]; omega) | omega | (dsimp only; omega)), (by first | (simp only [headSpec]; omega) | omega | (dsimp only; omega))⟩) (th_PV hK hH rfl hc_300) rfl rfl hl.1 rfl (lv_room (Nat.le_of_ble_eq_true rfl)) dX1_readMap_108 ⟨(by first | (simp only [headSpec]; omega) | omega | (dsimp only; omega)), (by first | (simp only [headSpec]; omega) | omega | (dsimp only; omega))⟩) hS (fun σ_s_302 H locs hw_301 hH hS => ?_)
          obtain ⟨hO9, hF9, hw_301⟩ := hw_301
          have e_303 : gI σ_s_302 b 4 = z_287 := (fr.ki hO hF9 h_b (by decide) (by decide) _).trans e_288
          have hk_304 := fun (h9 : cc_284 = 0) => gr.mv hO hF9 h_b (by decide) (hg_291 h9)
          have hk_305 := fun (h9 : cc_284 = 0) => mapst.mv hO hF9 h_b (by decide) (hm_292 h9)
          replace hO := hO9
          replace hF := hF.tu hF9 (by decide)
          replace hw_301 : ∃ c1 j1, TSt E σ_s_302 (ad E a 0) T c1 j1 ∧ c1 = cc_284 ∧ (cc_284 ≠ 0 → j1 = jj_285) ∧ (cc_284 = 0 → tK T jj_285 ≠ 259 → j1 = jj_285 + 1) := hw_301
          obtain ⟨cc_306, jj_307, hT_308, hw_301⟩ := hw_301
          have hUhT_308 := hT_308.2.2
          have hw_301j : jj_307 = jj_285 + 1 := by omega
          have h0_309 : cc_306 = 0 := by omega
          have hp_310 := hT_308.2.2.2.2.2.2.1 h0_309
          have hp_310j := And.intro hT_308.2.2.1 (And.intro hT_308.2.2.2.1 (And.intro hT_308.2.2.2.2.1 hT_308.2.2.2.2.2.1))
          clear hUhT_308
          clear hw_301
          refine lv_iinc (v := I (v6q225 + 1)) (lv' := [(6, .int (I (v6q225 + 1))), (5, .int (I 1)), (7, .int (I z_263)), (0, .ref a), (1, .ref b), (2, .int (I dp)), (4, .int (I z_6))]) hx hb dX1_readMap_111 hl (k := 6) rfl (I_add _ _) (by decide) rfl (fun ls hl => ?_)
          refine lv_goto (tgt := 39) hx hb dX1_readMap_114 (by decide) ?_
          replace hl : lv_has ls 8 [(6, .int (I (v6q225 + 1))), (5, .int (I 1)), (0, .ref a), (1, .ref b), (2, .int (I dp)), (4, .int (I z_6))] := lv_sub hl [0, 1, 3, 4, 5, 6] rfl
          exact ihJ_226 (1, v6q225 + 1) σ_s_302 _ _ _ (by first | omega | (dsimp only; omega)) ⟨hO, hF, hH, hS, lv_sub hl [2, 3, 4, 5, 1, 0] rfl, (show rng 1 from ⟨by decide, by decide⟩), ⟨by first | omega | (dsimp only; omega), by first | omega | (dsimp only; omega)⟩, by first | omega | (dsimp only; omega), by first | omega | (dsimp only; omega), by first | omega | (dsimp only; omega), by first | omega | (dsimp only; omega), (by
            by_cases hc9 : cc_276 = 0
            · exact ⟨cc_306, jj_307, kk_229 ++ [z_263], hT_308, fun h9 => ⟨hk_304 (by omega), hk_305 (by omega)⟩, fun h9 => by have h8 := hpr_290 hc9 (by omega); have h7 := hP_232 (by omega); have h6 := hle_280 hc9; first | omega | (dsimp only; omega), (by obtain ⟨z9, hP9, hz9⟩ := (hv_289 hc9).1; (try dsimp only); exact (lin.item (op := 123) (z := z9) (by unfold brk; omega) (hL_233.em (by omega)) (by have h8 := hky_279; rw [hc9] at h8; exact h8) hP9 (fun h9 => by have h8 := hz9 h9; omega) (by omega)).ec (by omega))⟩
            · first | (exfalso; omega) | exact ⟨cc_306, jj_307, kk_229, hT_308, fun h9 => absurd h9 (by omega), fun h9 => absurd h9 (by omega), (by rw [show jj_307 = jj_277 by omega]; exact ((lin.key (op := 123) (by unfold brk; omega) (hL_233.em (by omega)) hky_279 hc9).ec (c3 := cc_306) (by omega)).em (by first | omega | (dsimp only; omega)))⟩
            )⟩
