set_option maxHeartbeats 4000000 in
set_option maxRecDepth 100000 in
theorem r6_readMap (n : Nat) (ih : ∀ (l : Launch) (G : va_G) (y : Nat → ClassId) (b0 : Nat) (σ : th_M) (E : th_E) (hO : ok y E σ) (a : Nat) (h_a : kd E a = 10) (b : Nat) (h_b : kd E b = 1) (dp : Int) (rdp : rng dp) (l_dp : 0 ≤ dp) (u_dp : dp ≤ 8) (ky : Int) (rky : rng ky) (T : tkT) (fc jt : Int) (hT0 : TSt E σ (ad E a 0) T fc jt) (hn : (8 - dp).toNat < n), Met l yX1_readThing wsX1_readThing ({ frames := 4*n+8, cells := 0, slots := 0, locals := (120*n+600) }) (th_P G y b0 σ [.ref a, .ref b, .int (I dp), .int (I ky)]) (th_Qv G b0 (fun σ1 => ok y E σ1 ∧ fr [3, 1] E σ σ1 ∧ (∃ c1 j1, TSt E σ1 (ad E a 0) T c1 j1 ∧ (fc ≠ 0 → c1 = fc ∧ j1 = jt) ∧ (fc = 0 → PTh T dp jt (gI σ b 4) c1 j1 (gI σ1 b 4) ∧ (c1 = 0 → jt < j1 ∧ gr E σ σ1 b (gI σ b 4) dp ky))))) 0 0 (th_A b0)) (l : Launch) (G : va_G) (y : Nat → ClassId) (b0 : Nat) (σ : th_M) (E : th_E) (hO : ok y E σ) (a : Nat) (h_a : kd E a = 10) (b : Nat) (h_b : kd E b = 1) (dp : Int) (rdp : rng dp) (l_dp : 0 ≤ dp) (u_dp : dp ≤ 7) (ky : Int) (rky : rng ky) (T : tkT) (fc jt : Int) (hT0 : TSt E σ (ad E a 0) T fc jt) (hy0 : (8 - dp).toNat < n + 1) (hy1 : fc = 0) (hy2 : tK T jt = 123) (hy3 : gI σ b 4 < 60) : Met l yX1_readMap wsX1_readMap ({ frames := 4*n+10, cells := 0, slots := 0, locals := (120*n+650) }) (th_P G y b0 σ [.ref a, .ref b, .int (I dp), .int (I ky)]) (th_Qv G b0 (fun σ1 => ok y E σ1 ∧ fr [3, 1] E σ σ1 ∧ (∃ c1 j1, TSt E σ1 (ad E a 0) T c1 j1 ∧ PTh T dp jt (gI σ b 4) c1 j1 (gI σ1 b 4) ∧ (c1 = 0 → jt < j1 ∧ gr E σ σ1 b (gI σ b 4) dp ky)))) 0 0 (th_A b0) := by
  refine Met.ofW (cc := cX1_readMap) (maxL := 8) (ret := none) (by decide) rfl ?_
  intro p e s m args below meth c s₁ B hml hv
  obtain ⟨rfl, hH, hK⟩ := hv
  have hx := B.exec
  have hb := B.bytes
  have hr := B.returns
  have hts := atoms_spec (ws := wsX1_readMap) B.pre
  have hown : s.vm.findClass RX1 = some m.cls := findClass_of_methodNamed B.named
  have hlocks := B.notSynchronized
  have h00 : b0 ≤ s.heap.size := hH.1
  have hS : va_S (th_A b0) s.heap s.heap [] := va_S.rf
  have hF : fr [3, 1] E σ σ := fr.rf
  have inX1 : ∀ w ∈ wsX10, w ∈ wsX1_readMap := by decide +kernel
  have inX8 : ∀ w ∈ wsX80, w ∈ wsX1_readMap := by decide +kernel
  have fl0 := hts (.fieldLink RX1 9 "NestQuery$DataReader" "tokens" "LNestQuery$Tokens;") (by decide +kernel)
  have hl := lv_entry ([.ref a, .ref b, .int (I dp), .int (I ky)]) (n := 8) (Nat.le_of_ble_eq_true rfl)
  rw [lg_entry_eq]
  generalize (lg_sl ([.ref a, .ref b, .int (I dp), .int (I ky)]) ++ List.replicate (8 - (lg_sl ([.ref a, .ref b, .int (I dp), .int (I ky)])).length) Slot.unset).toArray = ls at hl ⊢
  have hl : lv_has ls 8 [(0, .ref a), (1, .ref b), (2, .int (I dp)), (3, .int (I ky))] := hl
  obtain ⟨b40, eb40, rb40, lb40, ub40⟩ := hO.gi h_b (by decide) k1_4
  have hU0 := hT0.2.2
  have hkt : kd E (ad E a 0) = 3 := ok.pk hO h_a (by decide) k10_0 rfl
  have h0_1 : fc = 0 := by omega
  have hp_2 := hT0.2.2.2.2.2.2.1 h0_1
  have hp_2j := And.intro hT0.2.2.1 (And.intro hT0.2.2.2.1 (And.intro hT0.2.2.2.2.1 hT0.2.2.2.2.2.1))
  clear hU0
  refine lv_aload_n hx hb dX1_readMap_0 rfl (lv_at hl 1 rfl) ?_
  refine lv_iconst (v := I 3) hx hb dX1_readMap_1 (by decide) ?_
  refine lv_iconst (v := I 0) hx hb dX1_readMap_2 (by decide) ?_
  refine lv_iload_n hx hb dX1_readMap_3 rfl (lv_at hl 3 rfl) ?_
  refine lv_iload_n hx hb dX1_readMap_4 rfl (lv_at hl 2 rfl) ?_
  obtain ⟨_, hc_3⟩ := hO.cell h_b (by decide) (ci := 9) rfl
  refine th_calli (va_runV (As := [.int (I 3), .int (I 0), .int (I ky), .int (I dp)]) (rest := []) ⟨hx, hb, hml, hown, hts⟩ (t6_add l G y b0 σ E hO b h_b 3 (show rng 3 from (show rng 3 from ⟨by decide, by decide⟩)) 0 (show rng 0 from (show rng 0 from ⟨by decide, by decide⟩)) ky (show rng ky from rky) dp (show rng dp from rdp) (by omega) (by omega)) (cwV 4 hts gX1_readMap_X9_addThing rfl rfl rfl (by decide +kernel) ⟨(by first | (simp only [headSpec]; omega) | omega | (dsimp only; omega)), (by first | (simp only [headSpec]; omega) | omega | (dsimp only; omega))⟩) (th_PV hK hH rfl hc_3) rfl rfl hl.1 rfl (lv_room (Nat.le_of_ble_eq_true rfl)) dX1_readMap_5 ⟨(by first | (simp only [headSpec]; omega) | omega | (dsimp only; omega)), (by first | (simp only [headSpec]; omega) | omega | (dsimp only; omega))⟩) hS (fun z_6 σ_s_5 H locs rz_6 hw_4 hH hS => ?_)
  obtain ⟨hO9, hF9, hw_4⟩ := hw_4
  have hT_7 : TSt E σ_s_5 (ad E a 0) T fc jt := TSt.mv hO hF9 hkt (by decide) hT0
  have hUhT_7 := hT_7.2.2
  have h0_8 : fc = 0 := by omega
  have hp_9 := hT_7.2.2.2.2.2.2.1 h0_8
  have hp_9j := And.intro hT_7.2.2.1 (And.intro hT_7.2.2.2.1 (And.intro hT_7.2.2.2.2.1 hT_7.2.2.2.2.2.1))
  clear hUhT_7
  replace hO := hO9
  replace hF := hF.tu hF9 (by decide)
  replace hw_4 : z_6 = gI σ b 4 ∧ gI σ_s_5 b 4 = gI σ b 4 + 1 ∧ gr E σ σ_s_5 b (gI σ b 4) dp ky ∧ nE E σ_s_5 b (gI σ b 4) = 3 := hw_4
  obtain ⟨z_10, e_11, rz_10, lz_10, uz_10⟩ := hO.gi h_b (by decide) k1_4
  have hg_12 : True → _ := fun _ => hw_4.2.2.1
  have hm_13 : True → _ := fun _ => mapst.start hw_4.2.2.1 hw_4.2.2.2 hw_4.2.1
  refine lv_istore (lv' := [(4, .int (I z_6)), (0, .ref a), (1, .ref b), (2, .int (I dp)), (3, .int (I ky))]) hx hb dX1_readMap_8 hl (by decide) rfl (fun ls hl => ?_)
  refine lv_aload_n hx hb dX1_readMap_10 rfl (lv_at hl 1 rfl) ?_
  have hp_14 : kd E (ad E a 0) = 3 := ok.pk hO h_a (by decide) k10_0 rfl
  refine ok.getR hO h_a (by decide) k10_0 (by decide) (fun _ _ he hv kk => th_get (ci := 1) (C := RX1) (T := TX1) (N := 1) hx hb hts inX1 hown hK hH he rfl 0 (by decide) fl0 hv dX1_readMap_11 kk) ?_
  obtain ⟨_, hc_15⟩ := hO.cell hp_14 (by decide) (ci := 8) rfl
  refine th_callv (va_runV (As := []) (rest := []) ⟨hx, hb, hml, hown, hts⟩ (f_step l G y b0 σ_s_5 E hO (ad E a 0) hp_14 T fc jt hT_7) (cwV 0 hts gX1_readMap_X8_step rfl rfl rfl (by decide +kernel) ⟨(by first | (simp only [headSpec]; omega) | omega | (dsimp only; omega)), (by first | (simp only [headSpec]; omega) | omega | (dsimp only; omega))⟩) (th_PV hK hH rfl hc_15) rfl rfl hl.1 rfl (lv_room (Nat.le_of_ble_eq_true rfl)) dX1_readMap_14 ⟨(by first | (simp only [headSpec]; omega) | omega | (dsimp only; omega)), (by first | (simp only [headSpec]; omega) | omega | (dsimp only; omega))⟩) hS (fun σ_s_17 H locs hw_16 hH hS => ?_)
  obtain ⟨hO9, hF9, hw_16⟩ := hw_16
  have e_18 : gI σ_s_17 b 4 = z_10 := (fr.ki hO hF9 h_b (by decide) (by decide) _).trans e_11
  have hk_19 := fun (h9 : True) => gr.mv hO hF9 h_b (by decide) (hg_12 h9)
  have hk_20 := fun (h9 : True) => mapst.mv hO hF9 h_b (by decide) (hm_13 h9)
  replace hO := hO9
  replace hF := hF.tu hF9 (by decide)
  replace hw_16 : ∃ c1 j1, TSt E σ_s_17 (ad E a 0) T c1 j1 ∧ c1 = fc ∧ (fc ≠ 0 → j1 = jt) ∧ (fc = 0 → tK T jt ≠ 259 → j1 = jt + 1) := hw_16
  obtain ⟨cc_21, jj_22, hT_23, hw_16⟩ := hw_16
  have hUhT_23 := hT_23.2.2
  have hw_16j : jj_22 = jt + 1 := by omega
  have h0_24 : cc_21 = 0 := by omega
  have hp_25 := hT_23.2.2.2.2.2.2.1 h0_24
  have hp_25j := And.intro hT_23.2.2.1 (And.intro hT_23.2.2.2.1 (And.intro hT_23.2.2.2.2.1 hT_23.2.2.2.2.2.1))
  clear hUhT_23
  clear hw_16
  refine lv_aload_n hx hb dX1_readMap_17 rfl (lv_at hl 1 rfl) ?_
  refine ok.getR hO h_a (by decide) k10_0 (by decide) (fun _ _ he hv kk => th_get (ci := 1) (C := RX1) (T := TX1) (N := 1) hx hb hts inX1 hown hK hH he rfl 0 (by decide) fl0 hv dX1_readMap_18 kk) ?_
  refine ok.getI hO hp_14 (by decide) k3_6 (fun _ _ he hv kk => th_getN (ci := 8) (C := RX8) (T := TX8) (N := 9) hx hb hts inX8 hown hK hH he rfl 6 (by decide) (nl_4 hK) hv dX1_readMap_21 kk) (fun z_26 e_27 rz_26 lz_26 uz_26 => ?_)
  refine lv_bipush (v := I 125) hx hb dX1_readMap_24 (by decide) ?_
  refine lv_icmp_eq (tgt := 33) hx hb dX1_readMap_26 (by decide) (fun c_28 => ?_) (fun c_28 => ?_)
  · replace c_28 := (I_eq (a := z_26) (b := 125) rz_26 (show rng 125 from ⟨by decide, by decide⟩)).mp c_28
    refine lv_iconst (v := I 0) hx hb dX1_readMap_33 (by decide) ?_
    refine lv_istore (lv' := [(5, .int (I 0)), (4, .int (I z_6)), (0, .ref a), (1, .ref b), (2, .int (I dp)), (3, .int (I ky))]) hx hb dX1_readMap_34 hl (by decide) rfl (fun ls hl => ?_)
    refine lv_iconst (v := I 0) hx hb dX1_readMap_36 (by decide) ?_
    refine lv_istore (lv' := [(6, .int (I 0)), (5, .int (I 0)), (4, .int (I z_6)), (0, .ref a), (1, .ref b), (2, .int (I dp)), (3, .int (I ky))]) hx hb dX1_readMap_37 hl (by decide) rfl (fun ls hl => ?_)
    replace hl : lv_has ls 8 [(6, .int (I 0)), (5, .int (I 0)), (4, .int (I z_6)), (0, .ref a), (1, .ref b), (2, .int (I dp))] := lv_sub hl [0, 1, 2, 3, 4, 5] rfl
    refine th_loop (α := Int × Int) (pc := 39) (fun x9 => (400 - x9.2).toNat) (fun x9 σ9 H9 l9 ls9 => ok y E σ9 ∧ fr [3, 1] E σ σ9 ∧ th_H G b0 σ9 H9 ∧ va_S (th_A b0) s.heap H9 l9 ∧ lv_has ls9 8 [(0, .ref a), (1, .ref b), (2, .int (I dp)), (4, .int (I z_6)), (5, .int (I x9.1)), (6, .int (I x9.2))] ∧ rng x9.1 ∧ rng x9.2 ∧ (0 ≤ x9.1) ∧ (x9.1 ≤ 1) ∧ (0 ≤ x9.2) ∧ (x9.2 ≤ 400) ∧ (∃ c2 j2 k2, TSt E σ9 (ad E a 0) T c2 j2 ∧ (c2 = 0 → gr E σ σ9 b (gI σ b 4) dp ky ∧ mapst E σ9 b (gI σ b 4) dp k2) ∧ (c2 = 0 → jt + 1 + x9.2 ≤ j2) ∧ lin T 2 125 dp jt (gI σ b 4) k2 x9.1 c2 j2 (gI σ9 b 4))) ?_ (0, 0) σ_s_17 _ _ _ ⟨hO, hF, hH, hS, lv_sub hl [3, 4, 5, 2, 1, 0] rfl, (show rng 0 from ⟨by decide, by decide⟩), (show rng 0 from ⟨by decide, by decide⟩), by first | omega | (dsimp only; omega), by first | omega | (dsimp only; omega), by first | omega | (dsimp only; omega), by first | omega | (dsimp only; omega), ⟨cc_21, jj_22, [], hT_23, fun _ => ⟨hk_19 trivial, hk_20 trivial⟩, fun _ => by omega, (lin.start (op := 123) (by unfold brk; omega) (by omega) (by omega) (by omega) (by omega) (by omega)).ec (by omega)⟩⟩
    intro x9 σ_J_180 H locs ls hI9 ihJ_180
    obtain ⟨v5q179, v6q179⟩ := x9
    obtain ⟨hO, hF, hH, hS, hl, rv5q179, rv6q179, J_180_0, J_180_1, J_180_2, J_180_3, J_180_4⟩ := hI9
    have hl : lv_has ls 8 [(0, .ref a), (1, .ref b), (2, .int (I dp)), (4, .int (I z_6)), (5, .int (I v5q179)), (6, .int (I v6q179))] := hl
    have rv5q179 : rng v5q179 := rv5q179
    have rv6q179 : rng v6q179 := rv6q179
    replace J_180_0 : 0 ≤ v5q179 := J_180_0
    replace J_180_1 : v5q179 ≤ 1 := J_180_1
    replace J_180_2 : 0 ≤ v6q179 := J_180_2
    replace J_180_3 : v6q179 ≤ 400 := J_180_3
    replace J_180_4 : ∃ c2 j2 k2, TSt E σ_J_180 (ad E a 0) T c2 j2 ∧ (c2 = 0 → gr E σ σ_J_180 b (gI σ b 4) dp ky ∧ mapst E σ_J_180 b (gI σ b 4) dp k2) ∧ (c2 = 0 → jt + 1 + v6q179 ≤ j2) ∧ lin T 2 125 dp jt (gI σ b 4) k2 v5q179 c2 j2 (gI σ_J_180 b 4) := J_180_4
    obtain ⟨cc_181, jj_182, kk_183, hT_184, hG_185, hP_186, hL_187⟩ := J_180_4
    have hUhT_184 := hT_184.2.2
    have h0hL_187 := hL_187.c0
    obtain ⟨z_188, e_189, rz_188, lz_188, uz_188⟩ := hO.gi h_b (by decide) k1_4
    have hg_190 := fun (h9 : cc_181 = 0) => (hG_185 h9).1
    have hm_191 := fun (h9 : cc_181 = 0) => (hG_185 h9).2
    refine lv_iload hx hb dX1_readMap_39 (lv_at hl 4 rfl) ?_
    refine lv_if_eq (tgt := 117) hx hb dX1_readMap_41 (by decide) (fun c_192 => ?_) (fun c_192 => ?_)
    · replace c_192 := (I_eq (a := v5q179) (b := 0) rv5q179 (show rng 0 from ⟨by decide, by decide⟩)).mp c_192
      refine lv_aload_n hx hb dX1_readMap_117 rfl (lv_at hl 0 rfl) ?_
      refine ok.getR hO h_a (by decide) k10_0 (by decide) (fun _ _ he hv kk => th_get (ci := 1) (C := RX1) (T := TX1) (N := 1) hx hb hts inX1 hown hK hH he rfl 0 (by decide) fl0 hv dX1_readMap_118 kk) ?_
      refine lv_bipush (v := I 125) hx hb dX1_readMap_121 (by decide) ?_
      obtain ⟨_, hc_193⟩ := hO.cell hp_14 (by decide) (ci := 8) rfl
      refine th_callv (va_runV (As := [.int (I 125)]) (rest := []) ⟨hx, hb, hml, hown, hts⟩ (f_expect l G y b0 σ_J_180 E hO (ad E a 0) hp_14 125 (show rng 125 from (show rng 125 from ⟨by decide, by decide⟩)) (by omega) (by omega) T cc_181 jj_182 hT_184) (cwV 1 hts gX1_readMap_X8_expect rfl rfl rfl (by decide +kernel) ⟨(by first | (simp only [headSpec]; omega) | omega | (dsimp only; omega)), (by first | (simp only [headSpec]; omega) | omega | (dsimp only; omega))⟩) (th_PV hK hH rfl hc_193) rfl rfl hl.1 rfl (lv_room (Nat.le_of_ble_eq_true rfl)) dX1_readMap_123 ⟨(by first | (simp only [headSpec]; omega) | omega | (dsimp only; omega)), (by first | (simp only [headSpec]; omega) | omega | (dsimp only; omega))⟩) hS (fun σ_s_195 H locs hw_194 hH hS => ?_)
      obtain ⟨hO9, hF9, hw_194⟩ := hw_194
      have e_196 : gI σ_s_195 b 4 = z_188 := (fr.ki hO hF9 h_b (by decide) (by decide) _).trans e_189
      have hk_197 := fun (h9 : cc_181 = 0) => gr.mv hO hF9 h_b (by decide) (hg_190 h9)
      have hk_198 := fun (h9 : cc_181 = 0) => mapst.mv hO hF9 h_b (by decide) (hm_191 h9)
      replace hO := hO9
      replace hF := hF.tu hF9 (by decide)
      replace hw_194 : ∃ c1 j1, TSt E σ_s_195 (ad E a 0) T c1 j1 ∧ (cc_181 ≠ 0 → c1 = cc_181 ∧ j1 = jj_182) ∧ (cc_181 = 0 → (tK T jj_182 = 125 ∧ c1 = 0 ∧ j1 = jj_182 + 1) ∨ (tK T jj_182 ≠ 125 ∧ c1 = 1 ∧ j1 = jj_182)) := hw_194
      obtain ⟨cc_199, jj_200, hT_201, hw_194⟩ := hw_194
      have hUhT_201 := hT_201.2.2
      exact th_vret hx hb hr hlocks hH hS ⟨hO, hF, (by first | (exfalso; omega) | exact ⟨cc_199, jj_200, hT_201, (by have h8 := (hL_187.em (mo2 := 0) (by omega)).done hw_194.1 hw_194.2; rw [show (gI σ_J_180 b 4) = gI σ_s_195 b 4 by omega] at h8; exact h8), fun h9 => ⟨by have h8 := hP_186 (by omega); omega, hk_197 (by omega)⟩⟩)⟩ dX1_readMap_126
    · replace c_192 := mt (I_eq (a := v5q179) (b := 0) rv5q179 (show rng 0 from ⟨by decide, by decide⟩)).mpr c_192
      refine lv_iload hx hb dX1_readMap_44 (lv_at hl 5 rfl) ?_
      refine lv_sipush (v := I 400) hx hb dX1_readMap_46 (by decide) ?_
      refine lv_icmp_ge (tgt := 117) hx hb dX1_readMap_49 (by decide) (fun c_202 => ?_) (fun c_202 => ?_)
      · replace c_202 := (I_le (a := 400) (b := v6q179) (show rng 400 from ⟨by decide, by decide⟩) rv6q179).mp c_202
        refine lv_aload_n hx hb dX1_readMap_117 rfl (lv_at hl 0 rfl) ?_
        refine ok.getR hO h_a (by decide) k10_0 (by decide) (fun _ _ he hv kk => th_get (ci := 1) (C := RX1) (T := TX1) (N := 1) hx hb hts inX1 hown hK hH he rfl 0 (by decide) fl0 hv dX1_readMap_118 kk) ?_
        refine lv_bipush (v := I 125) hx hb dX1_readMap_121 (by decide) ?_
        obtain ⟨_, hc_203⟩ := hO.cell hp_14 (by decide) (ci := 8) rfl
        refine th_callv (va_runV (As := [.int (I 125)]) (rest := []) ⟨hx, hb, hml, hown, hts⟩ (f_expect l G y b0 σ_J_180 E hO (ad E a 0) hp_14 125 (show rng 125 from (show rng 125 from ⟨by decide, by decide⟩)) (by omega) (by omega) T cc_181 jj_182 hT_184) (cwV 1 hts gX1_readMap_X8_expect rfl rfl rfl (by decide +kernel) ⟨(by first | (simp only [headSpec]; omega) | omega | (dsimp only; omega)), (by first | (simp only [headSpec]; omega) | omega | (dsimp only; omega))⟩) (th_PV hK hH rfl hc_203) rfl rfl hl.1 rfl (lv_room (Nat.le_of_ble_eq_true rfl)) dX1_readMap_123 ⟨(by first | (simp only [headSpec]; omega) | omega | (dsimp only; omega)), (by first | (simp only [headSpec]; omega) | omega | (dsimp only; omega))⟩) hS (fun σ_s_205 H locs hw_204 hH hS => ?_)
        obtain ⟨hO9, hF9, hw_204⟩ := hw_204
        have e_206 : gI σ_s_205 b 4 = z_188 := (fr.ki hO hF9 h_b (by decide) (by decide) _).trans e_189
        have hk_207 := fun (h9 : cc_181 = 0) => gr.mv hO hF9 h_b (by decide) (hg_190 h9)
        have hk_208 := fun (h9 : cc_181 = 0) => mapst.mv hO hF9 h_b (by decide) (hm_191 h9)
        replace hO := hO9
        replace hF := hF.tu hF9 (by decide)
        replace hw_204 : ∃ c1 j1, TSt E σ_s_205 (ad E a 0) T c1 j1 ∧ (cc_181 ≠ 0 → c1 = cc_181 ∧ j1 = jj_182) ∧ (cc_181 = 0 → (tK T jj_182 = 125 ∧ c1 = 0 ∧ j1 = jj_182 + 1) ∨ (tK T jj_182 ≠ 125 ∧ c1 = 1 ∧ j1 = jj_182)) := hw_204
        obtain ⟨cc_209, jj_210, hT_211, hw_204⟩ := hw_204
        have hUhT_211 := hT_211.2.2
        exact th_vret hx hb hr hlocks hH hS ⟨hO, hF, (by first | (exfalso; omega) | exact ⟨cc_209, jj_210, hT_211, (by have h8 := (hL_187.em (mo2 := 0) (by omega)).done hw_204.1 hw_204.2; rw [show (gI σ_J_180 b 4) = gI σ_s_205 b 4 by omega] at h8; exact h8), fun h9 => ⟨by have h8 := hP_186 (by omega); omega, hk_207 (by omega)⟩⟩)⟩ dX1_readMap_126
      · replace c_202 := mt (I_le (a := 400) (b := v6q179) (show rng 400 from ⟨by decide, by decide⟩) rv6q179).mpr c_202
        have h0_212 : cc_181 = 0 := by omega
        have hp_213 := hT_184.2.2.2.2.2.2.1 h0_212
        have hp_213j := And.intro hT_184.2.2.1 (And.intro hT_184.2.2.2.1 (And.intro hT_184.2.2.2.2.1 hT_184.2.2.2.2.2.1))
        clear hUhT_184
        refine lv_aload_n hx hb dX1_readMap_52 rfl (lv_at hl 0 rfl) ?_
        refine lv_aload_n hx hb dX1_readMap_53 rfl (lv_at hl 1 rfl) ?_
        refine lv_iload hx hb dX1_readMap_54 (lv_at hl 3 rfl) ?_
        obtain ⟨_, hc_214⟩ := hO.cell h_a (by decide) (ci := 1) rfl
        refine th_calli (va_runV (As := [.ref b, .int (I z_6)]) (rest := []) ⟨hx, hb, hml, hown, hts⟩ (r6_readKey l G y b0 σ_J_180 E hO a h_a b h_b z_6 (show rng z_6 from rz_6) T cc_181 jj_182 hT_184 dp kk_183 (by omega) ((by rw [show z_6 = gI σ b 4 by omega]; exact hm_191 (by omega)))) (cwV 2 hts gX1_readMap_X1_readKey rfl rfl rfl (by decide +kernel) ⟨(by first | (simp only [headSpec]; omega) | omega | (dsimp only; omega)), (by first | (simp only [headSpec]; omega) | omega | (dsimp only; omega))⟩) (th_PV hK hH rfl hc_214) rfl rfl hl.1 rfl (lv_room (Nat.le_of_ble_eq_true rfl)) dX1_readMap_56 ⟨(by first | (simp only [headSpec]; omega) | omega | (dsimp only; omega)), (by first | (simp only [headSpec]; omega) | omega | (dsimp only; omega))⟩) hS (fun z_217 σ_s_216 H locs rz_217 hw_215 hH hS => ?_)
        obtain ⟨hO9, hF9, hw_215⟩ := hw_215
        have e_218 : gI σ_s_216 b 4 = z_188 := (fr.ki hO hF9 h_b (by decide) (by decide) _).trans e_189
        have hk_219 := fun (h9 : cc_181 = 0) => gr.mv hO hF9 h_b (by decide) (hg_190 h9)
        have hk_220 := fun (h9 : cc_181 = 0) => mapst.mv hO hF9 h_b (by decide) (hm_191 h9)
        replace hO := hO9
        replace hF := hF.tu hF9 (by decide)
        replace hw_215 : ∃ c1 j1, TSt E σ_s_216 (ad E a 0) T c1 j1 ∧ kR T jj_182 kk_183 c1 j1 z_217 := hw_215
        obtain ⟨cc_221, jj_222, hT_223, hw_215⟩ := hw_215
        have hUhT_223 := hT_223.2.2
        refine lv_istore (lv' := [(7, .int (I z_217)), (0, .ref a), (1, .ref b), (2, .int (I dp)), (4, .int (I z_6)), (5, .int (I v5q179)), (6, .int (I v6q179))]) hx hb dX1_readMap_59 hl (by decide) rfl (fun ls hl => ?_)
        refine lv_aload_n hx hb dX1_readMap_61 rfl (lv_at hl 1 rfl) ?_
        refine ok.getR hO h_a (by decide) k10_0 (by decide) (fun _ _ he hv kk => th_get (ci := 1) (C := RX1) (T := TX1) (N := 1) hx hb hts inX1 hown hK hH he rfl 0 (by decide) fl0 hv dX1_readMap_62 kk) ?_
        refine lv_bipush (v := I 58) hx hb dX1_readMap_65 (by decide) ?_
        obtain ⟨_, hc_224⟩ := hO.cell hp_14 (by decide) (ci := 8) rfl
        refine th_callv (va_runV (As := [.int (I 58)]) (rest := []) ⟨hx, hb, hml, hown, hts⟩ (f_expect l G y b0 σ_s_216 E hO (ad E a 0) hp_14 58 (show rng 58 from (show rng 58 from ⟨by decide, by decide⟩)) (by omega) (by omega) T cc_221 jj_222 hT_223) (cwV 1 hts gX1_readMap_X8_expect rfl rfl rfl (by decide +kernel) ⟨(by first | (simp only [headSpec]; omega) | omega | (dsimp only; omega)), (by first | (simp only [headSpec]; omega) | omega | (dsimp only; omega))⟩) (th_PV hK hH rfl hc_224) rfl rfl hl.1 rfl (lv_room (Nat.le_of_ble_eq_true rfl)) dX1_readMap_67 ⟨(by first | (simp only [headSpec]; omega) | omega | (dsimp only; omega)), (by first | (simp only [headSpec]; omega) | omega | (dsimp only; omega))⟩) hS (fun σ_s_226 H locs hw_225 hH hS => ?_)
        obtain ⟨hO9, hF9, hw_225⟩ := hw_225
        have e_227 : gI σ_s_226 b 4 = z_188 := (fr.ki hO hF9 h_b (by decide) (by decide) _).trans e_218
        have hk_228 := fun (h9 : cc_181 = 0) => gr.mv hO hF9 h_b (by decide) (hk_219 h9)
        have hk_229 := fun (h9 : cc_181 = 0) => mapst.mv hO hF9 h_b (by decide) (hk_220 h9)
        replace hO := hO9
        replace hF := hF.tu hF9 (by decide)
        replace hw_225 : ∃ c1 j1, TSt E σ_s_226 (ad E a 0) T c1 j1 ∧ (cc_221 ≠ 0 → c1 = cc_221 ∧ j1 = jj_222) ∧ (cc_221 = 0 → (tK T jj_222 = 58 ∧ c1 = 0 ∧ j1 = jj_222 + 1) ∨ (tK T jj_222 ≠ 58 ∧ c1 = 1 ∧ j1 = jj_222)) := hw_225
        obtain ⟨cc_230, jj_231, hT_232, hw_225⟩ := hw_225
        have hUhT_232 := hT_232.2.2
        have hky_233 := kyR.mk2 hw_215 hw_225.1 hw_225.2
        have hle_234 := fun (h9 : cc_230 = 0) => kyR.le hky_233 h9
        clear hw_225 hUhT_223
        by_cases hc_235 : cc_230 = 0
        · have h0_236 : cc_230 = 0 := by omega
          have hp_237 := hT_232.2.2.2.2.2.2.1 h0_236
          have hp_237j := And.intro hT_232.2.2.1 (And.intro hT_232.2.2.2.1 (And.intro hT_232.2.2.2.2.1 hT_232.2.2.2.2.2.1))
          clear hUhT_232
          refine lv_aload_n hx hb dX1_readMap_70 rfl (lv_at hl 1 rfl) ?_
          refine lv_aload_n hx hb dX1_readMap_71 rfl (lv_at hl 2 rfl) ?_
          refine lv_iload_n hx hb dX1_readMap_72 rfl (lv_at hl 3 rfl) ?_
          refine lv_iconst (v := I 1) hx hb dX1_readMap_73 (by decide) ?_
          refine lv_iadd hx hb dX1_readMap_74 ?_
          refine nq_top (I_add _ _) ?_
          refine lv_iload hx hb dX1_readMap_75 (lv_at hl 0 rfl) ?_
          obtain ⟨_, hc_238⟩ := hO.cell h_a (by decide) (ci := 1) rfl
          refine th_callv (va_runV (As := [.ref b, .int (I (dp + 1)), .int (I z_217)]) (rest := []) ⟨hx, hb, hml, hown, hts⟩ (ih l G y b0 σ_s_226 E hO a h_a b h_b (dp + 1) (show rng (dp + 1) from ⟨by omega, by omega⟩) (by omega) (by omega) z_217 (show rng z_217 from rz_217) T cc_230 jj_231 hT_232 (by omega)) (cwV 3 hts gX1_readMap_X1_readThing rfl rfl rfl (by decide +kernel) ⟨(by first | (simp only [headSpec]; omega) | omega | (dsimp only; omega)), (by first | (simp only [headSpec]; omega) | omega | (dsimp only; omega))⟩) (th_PV hK hH rfl hc_238) rfl rfl hl.1 rfl (lv_room (Nat.le_of_ble_eq_true rfl)) dX1_readMap_77 ⟨(by first | (simp only [headSpec]; omega) | omega | (dsimp only; omega)), (by first | (simp only [headSpec]; omega) | omega | (dsimp only; omega))⟩) hS (fun σ_s_240 H locs hw_239 hH hS => ?_)
          obtain ⟨hO9, hF9, hw_239⟩ := hw_239
          replace hO := hO9
          replace hF := hF.tu hF9 (by decide)
          replace hw_239 : ∃ c1 j1, TSt E σ_s_240 (ad E a 0) T c1 j1 ∧ (cc_230 ≠ 0 → c1 = cc_230 ∧ j1 = jj_231) ∧ (cc_230 = 0 → PTh T (dp + 1) jj_231 (gI σ_s_226 b 4) c1 j1 (gI σ_s_240 b 4) ∧ (c1 = 0 → jj_231 < j1 ∧ gr E σ_s_226 σ_s_240 b (gI σ_s_226 b 4) (dp + 1) z_217)) := hw_239
          obtain ⟨cc_241, jj_242, hT_243, hw_239⟩ := hw_239
          have hUhT_243 := hT_243.2.2
          obtain ⟨z_244, e_245, rz_244, lz_244, uz_244⟩ := hO.gi h_b (by decide) k1_4
          have PT_250 := (hw_239.2 hc_235).1
          have hv_246 := (hw_239.2 hc_235).2
          clear hw_239
          have hpr_247 := fun (h9 : cc_241 = 0) => (hv_246 h9).1
          have hg_248 := fun (h9 : cc_241 = 0) => (hk_228 (by omega)).child (hv_246 h9).2 rfl
          have hm_249 := fun (h9 : cc_241 = 0) => (hk_229 (by omega)).snoc (hv_246 h9).2 rfl
          clear hv_246
          by_cases hc_251 : cc_241 = 0
          · have h0_252 : cc_241 = 0 := by omega
            have hp_253 := hT_243.2.2.2.2.2.2.1 h0_252
            have hp_253j := And.intro hT_243.2.2.1 (And.intro hT_243.2.2.2.1 (And.intro hT_243.2.2.2.2.1 hT_243.2.2.2.2.2.1))
            clear hUhT_243
            refine lv_aload_n hx hb dX1_readMap_80 rfl (lv_at hl 1 rfl) ?_
            refine ok.getR hO h_a (by decide) k10_0 (by decide) (fun _ _ he hv kk => th_get (ci := 1) (C := RX1) (T := TX1) (N := 1) hx hb hts inX1 hown hK hH he rfl 0 (by decide) fl0 hv dX1_readMap_81 kk) ?_
            refine ok.getI hO hp_14 (by decide) k3_6 (fun _ _ he hv kk => th_getN (ci := 8) (C := RX8) (T := TX8) (N := 9) hx hb hts inX8 hown hK hH he rfl 6 (by decide) (nl_4 hK) hv dX1_readMap_84 kk) (fun z_254 e_255 rz_254 lz_254 uz_254 => ?_)
            refine lv_bipush (v := I 44) hx hb dX1_readMap_87 (by decide) ?_
            refine lv_icmp_ne (tgt := 96) hx hb dX1_readMap_89 (by decide) (fun c_256 => ?_) (fun c_256 => ?_)
            · replace c_256 := mt (I_eq (a := z_254) (b := 44) rz_254 (show rng 44 from ⟨by decide, by decide⟩)).mpr c_256
              refine lv_iconst (v := I 0) hx hb dX1_readMap_96 (by decide) ?_
              refine lv_istore (lv' := [(5, .int (I 0)), (7, .int (I z_217)), (0, .ref a), (1, .ref b), (2, .int (I dp)), (4, .int (I z_6)), (6, .int (I v6q179))]) hx hb dX1_readMap_97 hl (by decide) rfl (fun ls hl => ?_)
              refine lv_iload hx hb dX1_readMap_99 (lv_at hl 0 rfl) ?_
              refine lv_if_eq (tgt := 111) hx hb dX1_readMap_101 (by decide) (fun _ => ?_) (fun c_257 => absurd (by decide) c_257)
              refine lv_iinc (v := I (v6q179 + 1)) (lv' := [(6, .int (I (v6q179 + 1))), (5, .int (I 0)), (7, .int (I z_217)), (0, .ref a), (1, .ref b), (2, .int (I dp)), (4, .int (I z_6))]) hx hb dX1_readMap_111 hl (k := 6) rfl (I_add _ _) (by decide) rfl (fun ls hl => ?_)
              refine lv_goto (tgt := 39) hx hb dX1_readMap_114 (by decide) ?_
              replace hl : lv_has ls 8 [(6, .int (I (v6q179 + 1))), (5, .int (I 0)), (0, .ref a), (1, .ref b), (2, .int (I dp)), (4, .int (I z_6))] := lv_sub hl [0, 1, 3, 4, 5, 6] rfl
              exact ihJ_180 (0, v6q179 + 1) σ_s_240 _ _ _ (by first | omega | (dsimp only; omega)) ⟨hO, hF, hH, hS, lv_sub hl [2, 3, 4, 5, 1, 0] rfl, (show rng 0 from ⟨by decide, by decide⟩), ⟨by first | omega | (dsimp only; omega), by first | omega | (dsimp only; omega)⟩, by first | omega | (dsimp only; omega), by first | omega | (dsimp only; omega), by first | omega | (dsimp only; omega), by first | omega | (dsimp only; omega), ⟨cc_241, jj_242, kk_183 ++ [z_217], hT_243, fun h9 => ⟨hg_248 (by omega), hm_249 (by omega)⟩, fun h9 => by have h8 := hpr_247 (by omega); have h7 := hP_186 (by omega); have h6 := hle_234 hc_235; first | omega | (dsimp only; omega), (by obtain ⟨z9, hP9, hz9⟩ := PT_250; rw [show gI σ_s_226 b 4 = (gI σ_J_180 b 4) by omega] at hP9; (try dsimp only); exact (lin.item (op := 123) (mo := 0) (c4 := cc_241) (j4 := jj_242) (z := z9) (by unfold brk; omega) (hL_187.em (by omega)) (by have h8 := hky_233; rw [hc_235] at h8; exact h8) hP9 (fun h9 => by have h8 := hz9 h9; omega) (by omega)).ec (by omega))⟩⟩
            · replace c_256 := (I_eq (a := z_254) (b := 44) rz_254 (show rng 44 from ⟨by decide, by decide⟩)).mp c_256
              refine lv_iconst (v := I 1) hx hb dX1_readMap_92 (by decide) ?_
              refine lv_goto (tgt := 97) hx hb dX1_readMap_93 (by decide) ?_
              refine lv_istore (lv' := [(5, .int (I 1)), (7, .int (I z_217)), (0, .ref a), (1, .ref b), (2, .int (I dp)), (4, .int (I z_6)), (6, .int (I v6q179))]) hx hb dX1_readMap_97 hl (by decide) rfl (fun ls hl => ?_)
              refine lv_iload hx hb dX1_readMap_99 (lv_at hl 0 rfl) ?_
              refine lv_if_eq (tgt := 111) hx hb dX1_readMap_101 (by decide) (fun c_258 => absurd c_258 (by decide)) (fun _ => ?_)
              refine lv_aload_n hx hb dX1_readMap_104 rfl (lv_at hl 2 rfl) ?_
              refine ok.getR hO h_a (by decide) k10_0 (by decide) (fun _ _ he hv kk => th_get (ci := 1) (C := RX1) (T := TX1) (N := 1) hx hb hts inX1 hown hK hH he rfl 0 (by decide) fl0 hv dX1_readMap_105 kk) ?_
              obtain ⟨_, hc_259⟩ := hO.cell hp_14 (by decide) (ci := 8) rfl
              refine th_callv (va_runV (As := []) (rest := []) ⟨hx, hb, hml, hown, hts⟩ (f_step l G y b0 σ_s_240 E hO (ad E a 0) hp_14 T cc_241 jj_242 hT_243) (cwV 0 hts gX1_readMap_X8_step rfl rfl rfl (by decide +kernel) ⟨(by first | (simp only [headSpec]; omega) | omega | (dsimp only; omega)), (by first | (simp only [headSpec]; omega) | omega | (dsimp only; omega))⟩) (th_PV hK hH rfl hc_259) rfl rfl hl.1 rfl (lv_room (Nat.le_of_ble_eq_true rfl)) dX1_readMap_108 ⟨(by first | (simp only [headSpec]; omega) | omega | (dsimp only; omega)), (by first | (simp only [headSpec]; omega) | omega | (dsimp only; omega))⟩) hS (fun σ_s_261 H locs hw_260 hH hS => ?_)
              obtain ⟨hO9, hF9, hw_260⟩ := hw_260
              have e_262 : gI σ_s_261 b 4 = z_244 := (fr.ki hO hF9 h_b (by decide) (by decide) _).trans e_245
              have hk_263 := fun (h9 : cc_241 = 0) => gr.mv hO hF9 h_b (by decide) (hg_248 h9)
              have hk_264 := fun (h9 : cc_241 = 0) => mapst.mv hO hF9 h_b (by decide) (hm_249 h9)
              replace hO := hO9
              replace hF := hF.tu hF9 (by decide)
              replace hw_260 : ∃ c1 j1, TSt E σ_s_261 (ad E a 0) T c1 j1 ∧ c1 = cc_241 ∧ (cc_241 ≠ 0 → j1 = jj_242) ∧ (cc_241 = 0 → tK T jj_242 ≠ 259 → j1 = jj_242 + 1) := hw_260
              obtain ⟨cc_265, jj_266, hT_267, hw_260⟩ := hw_260
              have hUhT_267 := hT_267.2.2
              have hw_260j : jj_266 = jj_242 + 1 := by omega
              have h0_268 : cc_265 = 0 := by omega
              have hp_269 := hT_267.2.2.2.2.2.2.1 h0_268
              have hp_269j := And.intro hT_267.2.2.1 (And.intro hT_267.2.2.2.1 (And.intro hT_267.2.2.2.2.1 hT_267.2.2.2.2.2.1))
              clear hUhT_267
              clear hw_260
              refine lv_iinc (v := I (v6q179 + 1)) (lv' := [(6, .int (I (v6q179 + 1))), (5, .int (I 1)), (7, .int (I z_217)), (0, .ref a), (1, .ref b), (2, .int (I dp)), (4, .int (I z_6))]) hx hb dX1_readMap_111 hl (k := 6) rfl (I_add _ _) (by decide) rfl (fun ls hl => ?_)
              refine lv_goto (tgt := 39) hx hb dX1_readMap_114 (by decide) ?_
              replace hl : lv_has ls 8 [(6, .int (I (v6q179 + 1))), (5, .int (I 1)), (0, .ref a), (1, .ref b), (2, .int (I dp)), (4, .int (I z_6))] := lv_sub hl [0, 1, 3, 4, 5, 6] rfl
              exact ihJ_180 (1, v6q179 + 1) σ_s_261 _ _ _ (by first | omega | (dsimp only; omega)) ⟨hO, hF, hH, hS, lv_sub hl [2, 3, 4, 5, 1, 0] rfl, (show rng 1 from ⟨by decide, by decide⟩), ⟨by first | omega | (dsimp only; omega), by first | omega | (dsimp only; omega)⟩, by first | omega | (dsimp only; omega), by first | omega | (dsimp only; omega), by first | omega | (dsimp only; omega), by first | omega | (dsimp only; omega), ⟨cc_265, jj_266, kk_183 ++ [z_217], hT_267, fun h9 => ⟨hk_263 (by omega), hk_264 (by omega)⟩, fun h9 => by have h8 := hpr_247 (by omega); have h7 := hP_186 (by omega); have h6 := hle_234 hc_235; first | omega | (dsimp only; omega), (by obtain ⟨z9, hP9, hz9⟩ := PT_250; rw [show gI σ_s_226 b 4 = (gI σ_J_180 b 4) by omega] at hP9; (try dsimp only); exact (lin.item (op := 123) (mo := 1) (c4 := cc_241) (j4 := jj_242) (z := z9) (by unfold brk; omega) (hL_187.em (by omega)) (by have h8 := hky_233; rw [hc_235] at h8; exact h8) hP9 (fun h9 => by have h8 := hz9 h9; omega) (by omega)).ec (by omega))⟩⟩
          · have hp_270 := hT_243.2.2.2.2.2.2.2 hc_251
            have hp_270j := And.intro hT_243.2.2.1 (And.intro hT_243.2.2.2.1 (And.intro hT_243.2.2.2.2.1 hT_243.2.2.2.2.2.1))
            clear hUhT_243
            refine lv_aload_n hx hb dX1_readMap_80 rfl (lv_at hl 1 rfl) ?_
            refine ok.getR hO h_a (by decide) k10_0 (by decide) (fun _ _ he hv kk => th_get (ci := 1) (C := RX1) (T := TX1) (N := 1) hx hb hts inX1 hown hK hH he rfl 0 (by decide) fl0 hv dX1_readMap_81 kk) ?_
            refine ok.getI hO hp_14 (by decide) k3_6 (fun _ _ he hv kk => th_getN (ci := 8) (C := RX8) (T := TX8) (N := 9) hx hb hts inX8 hown hK hH he rfl 6 (by decide) (nl_4 hK) hv dX1_readMap_84 kk) (fun z_271 e_272 rz_271 lz_271 uz_271 => ?_)
            refine lv_bipush (v := I 44) hx hb dX1_readMap_87 (by decide) ?_
            refine lv_icmp_ne (tgt := 96) hx hb dX1_readMap_89 (by decide) (fun c_273 => ?_) (fun c_273 => ?_)
            · replace c_273 := mt (I_eq (a := z_271) (b := 44) rz_271 (show rng 44 from ⟨by decide, by decide⟩)).mpr c_273
              refine lv_iconst (v := I 0) hx hb dX1_readMap_96 (by decide) ?_
              refine lv_istore (lv' := [(5, .int (I 0)), (7, .int (I z_217)), (0, .ref a), (1, .ref b), (2, .int (I dp)), (4, .int (I z_6)), (6, .int (I v6q179))]) hx hb dX1_readMap_97 hl (by decide) rfl (fun ls hl => ?_)
              refine lv_iload hx hb dX1_readMap_99 (lv_at hl 0 rfl) ?_
              refine lv_if_eq (tgt := 111) hx hb dX1_readMap_101 (by decide) (fun _ => ?_) (fun c_274 => absurd (by decide) c_274)
              refine lv_iinc (v := I (v6q179 + 1)) (lv' := [(6, .int (I (v6q179 + 1))), (5, .int (I 0)), (7, .int (I z_217)), (0, .ref a), (1, .ref b), (2, .int (I dp)), (4, .int (I z_6))]) hx hb dX1_readMap_111 hl (k := 6) rfl (I_add _ _) (by decide) rfl (fun ls hl => ?_)
              refine lv_goto (tgt := 39) hx hb dX1_readMap_114 (by decide) ?_
              replace hl : lv_has ls 8 [(6, .int (I (v6q179 + 1))), (5, .int (I 0)), (0, .ref a), (1, .ref b), (2, .int (I dp)), (4, .int (I z_6))] := lv_sub hl [0, 1, 3, 4, 5, 6] rfl
              exact ihJ_180 (0, v6q179 + 1) σ_s_240 _ _ _ (by first | omega | (dsimp only; omega)) ⟨hO, hF, hH, hS, lv_sub hl [2, 3, 4, 5, 1, 0] rfl, (show rng 0 from ⟨by decide, by decide⟩), ⟨by first | omega | (dsimp only; omega), by first | omega | (dsimp only; omega)⟩, by first | omega | (dsimp only; omega), by first | omega | (dsimp only; omega), by first | omega | (dsimp only; omega), by first | omega | (dsimp only; omega), ⟨cc_241, jj_242, kk_183 ++ [z_217], hT_243, fun h9 => ⟨hg_248 (by omega), hm_249 (by omega)⟩, fun h9 => by have h8 := hpr_247 (by omega); have h7 := hP_186 (by omega); have h6 := hle_234 hc_235; first | omega | (dsimp only; omega), (by obtain ⟨z9, hP9, hz9⟩ := PT_250; rw [show gI σ_s_226 b 4 = (gI σ_J_180 b 4) by omega] at hP9; (try dsimp only); exact (lin.item (op := 123) (mo := 0) (c4 := cc_241) (j4 := jj_242) (z := z9) (by unfold brk; omega) (hL_187.em (by omega)) (by have h8 := hky_233; rw [hc_235] at h8; exact h8) hP9 (fun h9 => by have h8 := hz9 h9; omega) (by omega)).ec (by omega))⟩⟩
            · replace c_273 := (I_eq (a := z_271) (b := 44) rz_271 (show rng 44 from ⟨by decide, by decide⟩)).mp c_273
              exfalso; omega
        · have hp_275 := hT_232.2.2.2.2.2.2.2 hc_235
          have hp_275j := And.intro hT_232.2.2.1 (And.intro hT_232.2.2.2.1 (And.intro hT_232.2.2.2.2.1 hT_232.2.2.2.2.2.1))
          clear hUhT_232
          refine lv_aload_n hx hb dX1_readMap_70 rfl (lv_at hl 1 rfl) ?_
          refine lv_aload_n hx hb dX1_readMap_71 rfl (lv_at hl 2 rfl) ?_
          refine lv_iload_n hx hb dX1_readMap_72 rfl (lv_at hl 3 rfl) ?_
          refine lv_iconst (v := I 1) hx hb dX1_readMap_73 (by decide) ?_
          refine lv_iadd hx hb dX1_readMap_74 ?_
          refine nq_top (I_add _ _) ?_
          refine lv_iload hx hb dX1_readMap_75 (lv_at hl 0 rfl) ?_
          obtain ⟨_, hc_276⟩ := hO.cell h_a (by decide) (ci := 1) rfl
          refine th_callv (va_runV (As := [.ref b, .int (I (dp + 1)), .int (I z_217)]) (rest := []) ⟨hx, hb, hml, hown, hts⟩ (ih l G y b0 σ_s_226 E hO a h_a b h_b (dp + 1) (show rng (dp + 1) from ⟨by omega, by omega⟩) (by omega) (by omega) z_217 (show rng z_217 from rz_217) T cc_230 jj_231 hT_232 (by omega)) (cwV 3 hts gX1_readMap_X1_readThing rfl rfl rfl (by decide +kernel) ⟨(by first | (simp only [headSpec]; omega) | omega | (dsimp only; omega)), (by first | (simp only [headSpec]; omega) | omega | (dsimp only; omega))⟩) (th_PV hK hH rfl hc_276) rfl rfl hl.1 rfl (lv_room (Nat.le_of_ble_eq_true rfl)) dX1_readMap_77 ⟨(by first | (simp only [headSpec]; omega) | omega | (dsimp only; omega)), (by first | (simp only [headSpec]; omega) | omega | (dsimp only; omega))⟩) hS (fun σ_s_278 H locs hw_277 hH hS => ?_)
          obtain ⟨hO9, hF9, hw_277⟩ := hw_277
          replace hO := hO9
          replace hF := hF.tu hF9 (by decide)
          replace hw_277 : ∃ c1 j1, TSt E σ_s_278 (ad E a 0) T c1 j1 ∧ (cc_230 ≠ 0 → c1 = cc_230 ∧ j1 = jj_231) ∧ (cc_230 = 0 → PTh T (dp + 1) jj_231 (gI σ_s_226 b 4) c1 j1 (gI σ_s_278 b 4) ∧ (c1 = 0 → jj_231 < j1 ∧ gr E σ_s_226 σ_s_278 b (gI σ_s_226 b 4) (dp + 1) z_217)) := hw_277
          obtain ⟨cc_279, jj_280, hT_281, hw_277⟩ := hw_277
          have hUhT_281 := hT_281.2.2
          obtain ⟨z_282, e_283, rz_282, lz_282, uz_282⟩ := hO.gi h_b (by decide) k1_4
          have hv_284 := hw_277.1 hc_235
          clear hw_277
          have hc_285 : cc_279 ≠ 0 := by omega
          have hp_286 := hT_281.2.2.2.2.2.2.2 hc_285
          have hp_286j := And.intro hT_281.2.2.1 (And.intro hT_281.2.2.2.1 (And.intro hT_281.2.2.2.2.1 hT_281.2.2.2.2.2.1))
          clear hUhT_281
          refine lv_aload_n hx hb dX1_readMap_80 rfl (lv_at hl 1 rfl) ?_
          refine ok.getR hO h_a (by decide) k10_0 (by decide) (fun _ _ he hv kk => th_get (ci := 1) (C := RX1) (T := TX1) (N := 1) hx hb hts inX1 hown hK hH he rfl 0 (by decide) fl0 hv dX1_readMap_81 kk) ?_
          refine ok.getI hO hp_14 (by decide) k3_6 (fun _ _ he hv kk => th_getN (ci := 8) (C := RX8) (T := TX8) (N := 9) hx hb hts inX8 hown hK hH he rfl 6 (by decide) (nl_4 hK) hv dX1_readMap_84 kk) (fun z_287 e_288 rz_287 lz_287 uz_287 => ?_)
          refine lv_bipush (v := I 44) hx hb dX1_readMap_87 (by decide) ?_
          refine lv_icmp_ne (tgt := 96) hx hb dX1_readMap_89 (by decide) (fun c_289 => ?_) (fun c_289 => ?_)
          · replace c_289 := mt (I_eq (a := z_287) (b := 44) rz_287 (show rng 44 from ⟨by decide, by decide⟩)).mpr c_289
            refine lv_iconst (v := I 0) hx hb dX1_readMap_96 (by decide) ?_
            refine lv_istore (lv' := [(5, .int (I 0)), (7, .int (I z_217)), (0, .ref a), (1, .ref b), (2, .int (I dp)), (4, .int (I z_6)), (6, .int (I v6q179))]) hx hb dX1_readMap_97 hl (by decide) rfl (fun ls hl => ?_)
            refine lv_iload hx hb dX1_readMap_99 (lv_at hl 0 rfl) ?_
            refine lv_if_eq (tgt := 111) hx hb dX1_readMap_101 (by decide) (fun _ => ?_) (fun c_290 => absurd (by decide) c_290)
            refine lv_iinc (v := I (v6q179 + 1)) (lv' := [(6, .int (I (v6q179 + 1))), (5, .int (I 0)), (7, .int (I z_217)), (0, .ref a), (1, .ref b), (2, .int (I dp)), (4, .int (I z_6))]) hx hb dX1_readMap_111 hl (k := 6) rfl (I_add _ _) (by decide) rfl (fun ls hl => ?_)
            refine lv_goto (tgt := 39) hx hb dX1_readMap_114 (by decide) ?_
            replace hl : lv_has ls 8 [(6, .int (I (v6q179 + 1))), (5, .int (I 0)), (0, .ref a), (1, .ref b), (2, .int (I dp)), (4, .int (I z_6))] := lv_sub hl [0, 1, 3, 4, 5, 6] rfl
            exact ihJ_180 (0, v6q179 + 1) σ_s_278 _ _ _ (by first | omega | (dsimp only; omega)) ⟨hO, hF, hH, hS, lv_sub hl [2, 3, 4, 5, 1, 0] rfl, (show rng 0 from ⟨by decide, by decide⟩), ⟨by first | omega | (dsimp only; omega), by first | omega | (dsimp only; omega)⟩, by first | omega | (dsimp only; omega), by first | omega | (dsimp only; omega), by first | omega | (dsimp only; omega), by first | omega | (dsimp only; omega), ⟨cc_279, jj_280, kk_183, hT_281, fun h9 => absurd h9 (by omega), fun h9 => absurd h9 (by omega), (by rw [show cc_279 = cc_230 by omega, show jj_280 = jj_231 by omega]; exact lin.key (op := 123) (by unfold brk; omega) (hL_187.em (by omega)) hky_233 hc_235)⟩⟩
          · replace c_289 := (I_eq (a := z_287) (b := 44) rz_287 (show rng 44 from ⟨by decide, by decide⟩)).mp c_289
            exfalso; omega
  · replace c_28 := mt (I_eq (a := z_26) (b := 125) rz_26 (show rng 125 from ⟨by decide, by decide⟩)).mpr c_28
    refine lv_iconst (v := I 1) hx hb dX1_readMap_29 (by decide) ?_
    refine lv_goto (tgt := 34) hx hb dX1_readMap_30 (by decide) ?_
    refine lv_istore (lv' := [(5, .int (I 1)), (4, .int (I z_6)), (0, .ref a), (1, .ref b), (2, .int (I dp)), (3, .int (I ky))]) hx hb dX1_readMap_34 hl (by decide) rfl (fun ls hl => ?_)
    refine lv_iconst (v := I 0) hx hb dX1_readMap_36 (by decide) ?_
    refine lv_istore (lv' := [(6, .int (I 0)), (5, .int (I 1)), (4, .int (I z_6)), (0, .ref a), (1, .ref b), (2, .int (I dp)), (3, .int (I ky))]) hx hb dX1_readMap_37 hl (by decide) rfl (fun ls hl => ?_)
    replace hl : lv_has ls 8 [(6, .int (I 0)), (5, .int (I 1)), (4, .int (I z_6)), (0, .ref a), (1, .ref b), (2, .int (I dp))] := lv_sub hl [0, 1, 2, 3, 4, 5] rfl
    refine th_loop (α := Int × Int) (pc := 39) (fun x9 => (400 - x9.2).toNat) (fun x9 σ9 H9 l9 ls9 => ok y E σ9 ∧ fr [3, 1] E σ σ9 ∧ th_H G b0 σ9 H9 ∧ va_S (th_A b0) s.heap H9 l9 ∧ lv_has ls9 8 [(0, .ref a), (1, .ref b), (2, .int (I dp)), (4, .int (I z_6)), (5, .int (I x9.1)), (6, .int (I x9.2))] ∧ rng x9.1 ∧ rng x9.2 ∧ (0 ≤ x9.1) ∧ (x9.1 ≤ 1) ∧ (0 ≤ x9.2) ∧ (x9.2 ≤ 400) ∧ (∃ c2 j2 k2, TSt E σ9 (ad E a 0) T c2 j2 ∧ (c2 = 0 → gr E σ σ9 b (gI σ b 4) dp ky ∧ mapst E σ9 b (gI σ b 4) dp k2) ∧ (c2 = 0 → jt + 1 + x9.2 ≤ j2) ∧ lin T 2 125 dp jt (gI σ b 4) k2 x9.1 c2 j2 (gI σ9 b 4))) ?_ (1, 0) σ_s_17 _ _ _ ⟨hO, hF, hH, hS, lv_sub hl [3, 4, 5, 2, 1, 0] rfl, (show rng 1 from ⟨by decide, by decide⟩), (show rng 0 from ⟨by decide, by decide⟩), by first | omega | (dsimp only; omega), by first | omega | (dsimp only; omega), by first | omega | (dsimp only; omega), by first | omega | (dsimp only; omega), ⟨cc_21, jj_22, [], hT_23, fun _ => ⟨hk_19 trivial, hk_20 trivial⟩, fun _ => by omega, (lin.start (op := 123) (by unfold brk; omega) (by omega) (by omega) (by omega) (by omega) (by omega)).ec (by omega)⟩⟩
    intro x9 σ_J_292 H locs ls hI9 ihJ_292
    obtain ⟨v5q291, v6q291⟩ := x9
    obtain ⟨hO, hF, hH, hS, hl, rv5q291, rv6q291, J_292_0, J_292_1, J_292_2, J_292_3, J_292_4⟩ := hI9
    have hl : lv_has ls 8 [(0, .ref a), (1, .ref b), (2, .int (I dp)), (4, .int (I z_6)), (5, .int (I v5q291)), (6, .int (I v6q291))] := hl
    have rv5q291 : rng v5q291 := rv5q291
    have rv6q291 : rng v6q291 := rv6q291
    replace J_292_0 : 0 ≤ v5q291 := J_292_0
    replace J_292_1 : v5q291 ≤ 1 := J_292_1
    replace J_292_2 : 0 ≤ v6q291 := J_292_2
    replace J_292_3 : v6q291 ≤ 400 := J_292_3
    replace J_292_4 : ∃ c2 j2 k2, TSt E σ_J_292 (ad E a 0) T c2 j2 ∧ (c2 = 0 → gr E σ σ_J_292 b (gI σ b 4) dp ky ∧ mapst E σ_J_292 b (gI σ b 4) dp k2) ∧ (c2 = 0 → jt + 1 + v6q291 ≤ j2) ∧ lin T 2 125 dp jt (gI σ b 4) k2 v5q291 c2 j2 (gI σ_J_292 b 4) := J_292_4
    obtain ⟨cc_293, jj_294, kk_295, hT_296, hG_297, hP_298, hL_299⟩ := J_292_4
    have hUhT_296 := hT_296.2.2
    have h0hL_299 := hL_299.c0
    obtain ⟨z_300, e_301, rz_300, lz_300, uz_300⟩ := hO.gi h_b (by decide) k1_4
    have hg_302 := fun (h9 : cc_293 = 0) => (hG_297 h9).1
    have hm_303 := fun (h9 : cc_293 = 0) => (hG_297 h9).2
    refine lv_iload hx hb dX1_readMap_39 (lv_at hl 4 rfl) ?_
    refine lv_if_eq (tgt := 117) hx hb dX1_readMap_41 (by decide) (fun c_304 => ?_) (fun c_304 => ?_)
    · replace c_304 := (I_eq (a := v5q291) (b := 0) rv5q291 (show rng 0 from ⟨by decide, by decide⟩)).mp c_304
      refine lv_aload_n hx hb dX1_readMap_117 rfl (lv_at hl 0 rfl) ?_
      refine ok.getR hO h_a (by decide) k10_0 (by decide) (fun _ _ he hv kk => th_get (ci := 1) (C := RX1) (T := TX1) (N := 1) hx hb hts inX1 hown hK hH he rfl 0 (by decide) fl0 hv dX1_readMap_118 kk) ?_
      refine lv_bipush (v := I 125) hx hb dX1_readMap_121 (by decide) ?_
      obtain ⟨_, hc_305⟩ := hO.cell hp_14 (by decide) (ci := 8) rfl
      refine th_callv (va_runV (As := [.int (I 125)]) (rest := []) ⟨hx, hb, hml, hown, hts⟩ (f_expect l G y b0 σ_J_292 E hO (ad E a 0) hp_14 125 (show rng 125 from (show rng 125 from ⟨by decide, by decide⟩)) (by omega) (by omega) T cc_293 jj_294 hT_296) (cwV 1 hts gX1_readMap_X8_expect rfl rfl rfl (by decide +kernel) ⟨(by first | (simp only [headSpec]; omega) | omega | (dsimp only; omega)), (by first | (simp only [headSpec]; omega) | omega | (dsimp only; omega))⟩) (th_PV hK hH rfl hc_305) rfl rfl hl.1 rfl (lv_room (Nat.le_of_ble_eq_true rfl)) dX1_readMap_123 ⟨(by first | (simp only [headSpec]; omega) | omega | (dsimp only; omega)), (by first | (simp only [headSpec]; omega) | omega | (dsimp only; omega))⟩) hS (fun σ_s_307 H locs hw_306 hH hS => ?_)
      obtain ⟨hO9, hF9, hw_306⟩ := hw_306
      have e_308 : gI σ_s_307 b 4 = z_300 := (fr.ki hO hF9 h_b (by decide) (by decide) _).trans e_301
      have hk_309 := fun (h9 : cc_293 = 0) => gr.mv hO hF9 h_b (by decide) (hg_302 h9)
      have hk_310 := fun (h9 : cc_293 = 0) => mapst.mv hO hF9 h_b (by decide) (hm_303 h9)
      replace hO := hO9
      replace hF := hF.tu hF9 (by decide)
      replace hw_306 : ∃ c1 j1, TSt E σ_s_307 (ad E a 0) T c1 j1 ∧ (cc_293 ≠ 0 → c1 = cc_293 ∧ j1 = jj_294) ∧ (cc_293 = 0 → (tK T jj_294 = 125 ∧ c1 = 0 ∧ j1 = jj_294 + 1) ∨ (tK T jj_294 ≠ 125 ∧ c1 = 1 ∧ j1 = jj_294)) := hw_306
      obtain ⟨cc_311, jj_312, hT_313, hw_306⟩ := hw_306
      have hUhT_313 := hT_313.2.2
      exact th_vret hx hb hr hlocks hH hS ⟨hO, hF, (by first | (exfalso; omega) | exact ⟨cc_311, jj_312, hT_313, (by have h8 := (hL_299.em (mo2 := 0) (by omega)).done hw_306.1 hw_306.2; rw [show (gI σ_J_292 b 4) = gI σ_s_307 b 4 by omega] at h8; exact h8), fun h9 => ⟨by have h8 := hP_298 (by omega); omega, hk_309 (by omega)⟩⟩)⟩ dX1_readMap_126
    · replace c_304 := mt (I_eq (a := v5q291) (b := 0) rv5q291 (show rng 0 from ⟨by decide, by decide⟩)).mpr c_304
      refine lv_iload hx hb dX1_readMap_44 (lv_at hl 5 rfl) ?_
      refine lv_sipush (v := I 400) hx hb dX1_readMap_46 (by decide) ?_
      refine lv_icmp_ge (tgt := 117) hx hb dX1_readMap_49 (by decide) (fun c_314 => ?_) (fun c_314 => ?_)
      · replace c_314 := (I_le (a := 400) (b := v6q291) (show rng 400 from ⟨by decide, by decide⟩) rv6q291).mp c_314
        refine lv_aload_n hx hb dX1_readMap_117 rfl (lv_at hl 0 rfl) ?_
        refine ok.getR hO h_a (by decide) k10_0 (by decide) (fun _ _ he hv kk => th_get (ci := 1) (C := RX1) (T := TX1) (N := 1) hx hb hts inX1 hown hK hH he rfl 0 (by decide) fl0 hv dX1_readMap_118 kk) ?_
        refine lv_bipush (v := I 125) hx hb dX1_readMap_121 (by decide) ?_
        obtain ⟨_, hc_315⟩ := hO.cell hp_14 (by decide) (ci := 8) rfl
        refine th_callv (va_runV (As := [.int (I 125)]) (rest := []) ⟨hx, hb, hml, hown, hts⟩ (f_expect l G y b0 σ_J_292 E hO (ad E a 0) hp_14 125 (show rng 125 from (show rng 125 from ⟨by decide, by decide⟩)) (by omega) (by omega) T cc_293 jj_294 hT_296) (cwV 1 hts gX1_readMap_X8_expect rfl rfl rfl (by decide +kernel) ⟨(by first | (simp only [headSpec]; omega) | omega | (dsimp only; omega)), (by first | (simp only [headSpec]; omega) | omega | (dsimp only; omega))⟩) (th_PV hK hH rfl hc_315) rfl rfl hl.1 rfl (lv_room (Nat.le_of_ble_eq_true rfl)) dX1_readMap_123 ⟨(by first | (simp only [headSpec]; omega) | omega | (dsimp only; omega)), (by first | (simp only [headSpec]; omega) | omega | (dsimp only; omega))⟩) hS (fun σ_s_317 H locs hw_316 hH hS => ?_)
        obtain ⟨hO9, hF9, hw_316⟩ := hw_316
        have e_318 : gI σ_s_317 b 4 = z_300 := (fr.ki hO hF9 h_b (by decide) (by decide) _).trans e_301
        have hk_319 := fun (h9 : cc_293 = 0) => gr.mv hO hF9 h_b (by decide) (hg_302 h9)
        have hk_320 := fun (h9 : cc_293 = 0) => mapst.mv hO hF9 h_b (by decide) (hm_303 h9)
        replace hO := hO9
        replace hF := hF.tu hF9 (by decide)
        replace hw_316 : ∃ c1 j1, TSt E σ_s_317 (ad E a 0) T c1 j1 ∧ (cc_293 ≠ 0 → c1 = cc_293 ∧ j1 = jj_294) ∧ (cc_293 = 0 → (tK T jj_294 = 125 ∧ c1 = 0 ∧ j1 = jj_294 + 1) ∨ (tK T jj_294 ≠ 125 ∧ c1 = 1 ∧ j1 = jj_294)) := hw_316
        obtain ⟨cc_321, jj_322, hT_323, hw_316⟩ := hw_316
        have hUhT_323 := hT_323.2.2
        exact th_vret hx hb hr hlocks hH hS ⟨hO, hF, (by first | (exfalso; omega) | exact ⟨cc_321, jj_322, hT_323, (by have h8 := (hL_299.em (mo2 := 0) (by omega)).done hw_316.1 hw_316.2; rw [show (gI σ_J_292 b 4) = gI σ_s_317 b 4 by omega] at h8; exact h8), fun h9 => ⟨by have h8 := hP_298 (by omega); omega, hk_319 (by omega)⟩⟩)⟩ dX1_readMap_126
      · replace c_314 := mt (I_le (a := 400) (b := v6q291) (show rng 400 from ⟨by decide, by decide⟩) rv6q291).mpr c_314
        have h0_324 : cc_293 = 0 := by omega
        have hp_325 := hT_296.2.2.2.2.2.2.1 h0_324
        have hp_325j := And.intro hT_296.2.2.1 (And.intro hT_296.2.2.2.1 (And.intro hT_296.2.2.2.2.1 hT_296.2.2.2.2.2.1))
        clear hUhT_296
        refine lv_aload_n hx hb dX1_readMap_52 rfl (lv_at hl 0 rfl) ?_
        refine lv_aload_n hx hb dX1_readMap_53 rfl (lv_at hl 1 rfl) ?_
        refine lv_iload hx hb dX1_readMap_54 (lv_at hl 3 rfl) ?_
        obtain ⟨_, hc_326⟩ := hO.cell h_a (by decide) (ci := 1) rfl
        refine th_calli (va_runV (As := [.ref b, .int (I z_6)]) (rest := []) ⟨hx, hb, hml, hown, hts⟩ (r6_readKey l G y b0 σ_J_292 E hO a h_a b h_b z_6 (show rng z_6 from rz_6) T cc_293 jj_294 hT_296 dp kk_295 (by omega) ((by rw [show z_6 = gI σ b 4 by omega]; exact hm_303 (by omega)))) (cwV 2 hts gX1_readMap_X1_readKey rfl rfl rfl (by decide +kernel) ⟨(by first | (simp only [headSpec]; omega) | omega | (dsimp only; omega)), (by first | (simp only [headSpec]; omega) | omega | (dsimp only; omega))⟩) (th_PV hK hH rfl hc_326) rfl rfl hl.1 rfl (lv_room (Nat.le_of_ble_eq_true rfl)) dX1_readMap_56 ⟨(by first | (simp only [headSpec]; omega) | omega | (dsimp only; omega)), (by first | (simp only [headSpec]; omega) | omega | (dsimp only; omega))⟩) hS (fun z_329 σ_s_328 H locs rz_329 hw_327 hH hS => ?_)
        obtain ⟨hO9, hF9, hw_327⟩ := hw_327
        have e_330 : gI σ_s_328 b 4 = z_300 := (fr.ki hO hF9 h_b (by decide) (by decide) _).trans e_301
        have hk_331 := fun (h9 : cc_293 = 0) => gr.mv hO hF9 h_b (by decide) (hg_302 h9)
        have hk_332 := fun (h9 : cc_293 = 0) => mapst.mv hO hF9 h_b (by decide) (hm_303 h9)
        replace hO := hO9
        replace hF := hF.tu hF9 (by decide)
        replace hw_327 : ∃ c1 j1, TSt E σ_s_328 (ad E a 0) T c1 j1 ∧ kR T jj_294 kk_295 c1 j1 z_329 := hw_327
        obtain ⟨cc_333, jj_334, hT_335, hw_327⟩ := hw_327
        have hUhT_335 := hT_335.2.2
        refine lv_istore (lv' := [(7, .int (I z_329)), (0, .ref a), (1, .ref b), (2, .int (I dp)), (4, .int (I z_6)), (5, .int (I v5q291)), (6, .int (I v6q291))]) hx hb dX1_readMap_59 hl (by decide) rfl (fun ls hl => ?_)
        refine lv_aload_n hx hb dX1_readMap_61 rfl (lv_at hl 1 rfl) ?_
        refine ok.getR hO h_a (by decide) k10_0 (by decide) (fun _ _ he hv kk => th_get (ci := 1) (C := RX1) (T := TX1) (N := 1) hx hb hts inX1 hown hK hH he rfl 0 (by decide) fl0 hv dX1_readMap_62 kk) ?_
        refine lv_bipush (v := I 58) hx hb dX1_readMap_65 (by decide) ?_
        obtain ⟨_, hc_336⟩ := hO.cell hp_14 (by decide) (ci := 8) rfl
        refine th_callv (va_runV (As := [.int (I 58)]) (rest := []) ⟨hx, hb, hml, hown, hts⟩ (f_expect l G y b0 σ_s_328 E hO (ad E a 0) hp_14 58 (show rng 58 from (show rng 58 from ⟨by decide, by decide⟩)) (by omega) (by omega) T cc_333 jj_334 hT_335) (cwV 1 hts gX1_readMap_X8_expect rfl rfl rfl (by decide +kernel) ⟨(by first | (simp only [headSpec]; omega) | omega | (dsimp only; omega)), (by first | (simp only [headSpec]; omega) | omega | (dsimp only; omega))⟩) (th_PV hK hH rfl hc_336) rfl rfl hl.1 rfl (lv_room (Nat.le_of_ble_eq_true rfl)) dX1_readMap_67 ⟨(by first | (simp only [headSpec]; omega) | omega | (dsimp only; omega)), (by first | (simp only [headSpec]; omega) | omega | (dsimp only; omega))⟩) hS (fun σ_s_338 H locs hw_337 hH hS => ?_)
        obtain ⟨hO9, hF9, hw_337⟩ := hw_337
        have e_339 : gI σ_s_338 b 4 = z_300 := (fr.ki hO hF9 h_b (by decide) (by decide) _).trans e_330
        have hk_340 := fun (h9 : cc_293 = 0) => gr.mv hO hF9 h_b (by decide) (hk_331 h9)
        have hk_341 := fun (h9 : cc_293 = 0) => mapst.mv hO hF9 h_b (by decide) (hk_332 h9)
        replace hO := hO9
        replace hF := hF.tu hF9 (by decide)
        replace hw_337 : ∃ c1 j1, TSt E σ_s_338 (ad E a 0) T c1 j1 ∧ (cc_333 ≠ 0 → c1 = cc_333 ∧ j1 = jj_334) ∧ (cc_333 = 0 → (tK T jj_334 = 58 ∧ c1 = 0 ∧ j1 = jj_334 + 1) ∨ (tK T jj_334 ≠ 58 ∧ c1 = 1 ∧ j1 = jj_334)) := hw_337
        obtain ⟨cc_342, jj_343, hT_344, hw_337⟩ := hw_337
        have hUhT_344 := hT_344.2.2
        have hky_345 := kyR.mk2 hw_327 hw_337.1 hw_337.2
        have hle_346 := fun (h9 : cc_342 = 0) => kyR.le hky_345 h9
        clear hw_337 hUhT_335
        by_cases hc_347 : cc_342 = 0
        · have h0_348 : cc_342 = 0 := by omega
          have hp_349 := hT_344.2.2.2.2.2.2.1 h0_348
          have hp_349j := And.intro hT_344.2.2.1 (And.intro hT_344.2.2.2.1 (And.intro hT_344.2.2.2.2.1 hT_344.2.2.2.2.2.1))
          clear hUhT_344
          refine lv_aload_n hx hb dX1_readMap_70 rfl (lv_at hl 1 rfl) ?_
          refine lv_aload_n hx hb dX1_readMap_71 rfl (lv_at hl 2 rfl) ?_
          refine lv_iload_n hx hb dX1_readMap_72 rfl (lv_at hl 3 rfl) ?_
          refine lv_iconst (v := I 1) hx hb dX1_readMap_73 (by decide) ?_
          refine lv_iadd hx hb dX1_readMap_74 ?_
          refine nq_top (I_add _ _) ?_
          refine lv_iload hx hb dX1_readMap_75 (lv_at hl 0 rfl) ?_
          obtain ⟨_, hc_350⟩ := hO.cell h_a (by decide) (ci := 1) rfl
          refine th_callv (va_runV (As := [.ref b, .int (I (dp + 1)), .int (I z_329)]) (rest := []) ⟨hx, hb, hml, hown, hts⟩ (ih l G y b0 σ_s_338 E hO a h_a b h_b (dp + 1) (show rng (dp + 1) from ⟨by omega, by omega⟩) (by omega) (by omega) z_329 (show rng z_329 from rz_329) T cc_342 jj_343 hT_344 (by omega)) (cwV 3 hts gX1_readMap_X1_readThing rfl rfl rfl (by decide +kernel) ⟨(by first | (simp only [headSpec]; omega) | omega | (dsimp only; omega)), (by first | (simp only [headSpec]; omega) | omega | (dsimp only; omega))⟩) (th_PV hK hH rfl hc_350) rfl rfl hl.1 rfl (lv_room (Nat.le_of_ble_eq_true rfl)) dX1_readMap_77 ⟨(by first | (simp only [headSpec]; omega) | omega | (dsimp only; omega)), (by first | (simp only [headSpec]; omega) | omega | (dsimp only; omega))⟩) hS (fun σ_s_352 H locs hw_351 hH hS => ?_)
          obtain ⟨hO9, hF9, hw_351⟩ := hw_351
          replace hO := hO9
          replace hF := hF.tu hF9 (by decide)
          replace hw_351 : ∃ c1 j1, TSt E σ_s_352 (ad E a 0) T c1 j1 ∧ (cc_342 ≠ 0 → c1 = cc_342 ∧ j1 = jj_343) ∧ (cc_342 = 0 → PTh T (dp + 1) jj_343 (gI σ_s_338 b 4) c1 j1 (gI σ_s_352 b 4) ∧ (c1 = 0 → jj_343 < j1 ∧ gr E σ_s_338 σ_s_352 b (gI σ_s_338 b 4) (dp + 1) z_329)) := hw_351
          obtain ⟨cc_353, jj_354, hT_355, hw_351⟩ := hw_351
          have hUhT_355 := hT_355.2.2
          obtain ⟨z_356, e_357, rz_356, lz_356, uz_356⟩ := hO.gi h_b (by decide) k1_4
          have PT_362 := (hw_351.2 hc_347).1
          have hv_358 := (hw_351.2 hc_347).2
          clear hw_351
          have hpr_359 := fun (h9 : cc_353 = 0) => (hv_358 h9).1
          have hg_360 := fun (h9 : cc_353 = 0) => (hk_340 (by omega)).child (hv_358 h9).2 rfl
          have hm_361 := fun (h9 : cc_353 = 0) => (hk_341 (by omega)).snoc (hv_358 h9).2 rfl
          clear hv_358
          by_cases hc_363 : cc_353 = 0
          · have h0_364 : cc_353 = 0 := by omega
            have hp_365 := hT_355.2.2.2.2.2.2.1 h0_364
            have hp_365j := And.intro hT_355.2.2.1 (And.intro hT_355.2.2.2.1 (And.intro hT_355.2.2.2.2.1 hT_355.2.2.2.2.2.1))
            clear hUhT_355
            refine lv_aload_n hx hb dX1_readMap_80 rfl (lv_at hl 1 rfl) ?_
            refine ok.getR hO h_a (by decide) k10_0 (by decide) (fun _ _ he hv kk => th_get (ci := 1) (C := RX1) (T := TX1) (N := 1) hx hb hts inX1 hown hK hH he rfl 0 (by decide) fl0 hv dX1_readMap_81 kk) ?_
            refine ok.getI hO hp_14 (by decide) k3_6 (fun _ _ he hv kk => th_getN (ci := 8) (C := RX8) (T := TX8) (N := 9) hx hb hts inX8 hown hK hH he rfl 6 (by decide) (nl_4 hK) hv dX1_readMap_84 kk) (fun z_366 e_367 rz_366 lz_366 uz_366 => ?_)
            refine lv_bipush (v := I 44) hx hb dX1_readMap_87 (by decide) ?_
            refine lv_icmp_ne (tgt := 96) hx hb dX1_readMap_89 (by decide) (fun c_368 => ?_) (fun c_368 => ?_)
            · replace c_368 := mt (I_eq (a := z_366) (b := 44) rz_366 (show rng 44 from ⟨by decide, by decide⟩)).mpr c_368
              refine lv_iconst (v := I 0) hx hb dX1_readMap_96 (by decide) ?_
              refine lv_istore (lv' := [(5, .int (I 0)), (7, .int (I z_329)), (0, .ref a), (1, .ref b), (2, .int (I dp)), (4, .int (I z_6)), (6, .int (I v6q291))]) hx hb dX1_readMap_97 hl (by decide) rfl (fun ls hl => ?_)
              refine lv_iload hx hb dX1_readMap_99 (lv_at hl 0 rfl) ?_
              refine lv_if_eq (tgt := 111) hx hb dX1_readMap_101 (by decide) (fun _ => ?_) (fun c_369 => absurd (by decide) c_369)
              refine lv_iinc (v := I (v6q291 + 1)) (lv' := [(6, .int (I (v6q291 + 1))), (5, .int (I 0)), (7, .int (I z_329)), (0, .ref a), (1, .ref b), (2, .int (I dp)), (4, .int (I z_6))]) hx hb dX1_readMap_111 hl (k := 6) rfl (I_add _ _) (by decide) rfl (fun ls hl => ?_)
              refine lv_goto (tgt := 39) hx hb dX1_readMap_114 (by decide) ?_
              replace hl : lv_has ls 8 [(6, .int (I (v6q291 + 1))), (5, .int (I 0)), (0, .ref a), (1, .ref b), (2, .int (I dp)), (4, .int (I z_6))] := lv_sub hl [0, 1, 3, 4, 5, 6] rfl
              exact ihJ_292 (0, v6q291 + 1) σ_s_352 _ _ _ (by first | omega | (dsimp only; omega)) ⟨hO, hF, hH, hS, lv_sub hl [2, 3, 4, 5, 1, 0] rfl, (show rng 0 from ⟨by decide, by decide⟩), ⟨by first | omega | (dsimp only; omega), by first | omega | (dsimp only; omega)⟩, by first | omega | (dsimp only; omega), by first | omega | (dsimp only; omega), by first | omega | (dsimp only; omega), by first | omega | (dsimp only; omega), ⟨cc_353, jj_354, kk_295 ++ [z_329], hT_355, fun h9 => ⟨hg_360 (by omega), hm_361 (by omega)⟩, fun h9 => by have h8 := hpr_359 (by omega); have h7 := hP_298 (by omega); have h6 := hle_346 hc_347; first | omega | (dsimp only; omega), (by obtain ⟨z9, hP9, hz9⟩ := PT_362; rw [show gI σ_s_338 b 4 = (gI σ_J_292 b 4) by omega] at hP9; (try dsimp only); exact (lin.item (op := 123) (mo := 0) (c4 := cc_353) (j4 := jj_354) (z := z9) (by unfold brk; omega) (hL_299.em (by omega)) (by have h8 := hky_345; rw [hc_347] at h8; exact h8) hP9 (fun h9 => by have h8 := hz9 h9; omega) (by omega)).ec (by omega))⟩⟩
            · replace c_368 := (I_eq (a := z_366) (b := 44) rz_366 (show rng 44 from ⟨by decide, by decide⟩)).mp c_368
              refine lv_iconst (v := I 1) hx hb dX1_readMap_92 (by decide) ?_
              refine lv_goto (tgt := 97) hx hb dX1_readMap_93 (by decide) ?_
              refine lv_istore (lv' := [(5, .int (I 1)), (7, .int (I z_329)), (0, .ref a), (1, .ref b), (2, .int (I dp)), (4, .int (I z_6)), (6, .int (I v6q291))]) hx hb dX1_readMap_97 hl (by decide) rfl (fun ls hl => ?_)
              refine lv_iload hx hb dX1_readMap_99 (lv_at hl 0 rfl) ?_
              refine lv_if_eq (tgt := 111) hx hb dX1_readMap_101 (by decide) (fun c_370 => absurd c_370 (by decide)) (fun _ => ?_)
              refine lv_aload_n hx hb dX1_readMap_104 rfl (lv_at hl 2 rfl) ?_
              refine ok.getR hO h_a (by decide) k10_0 (by decide) (fun _ _ he hv kk => th_get (ci := 1) (C := RX1) (T := TX1) (N := 1) hx hb hts inX1 hown hK hH he rfl 0 (by decide) fl0 hv dX1_readMap_105 kk) ?_
              obtain ⟨_, hc_371⟩ := hO.cell hp_14 (by decide) (ci := 8) rfl
              refine th_callv (va_runV (As := []) (rest := []) ⟨hx, hb, hml, hown, hts⟩ (f_step l G y b0 σ_s_352 E hO (ad E a 0) hp_14 T cc_353 jj_354 hT_355) (cwV 0 hts gX1_readMap_X8_step rfl rfl rfl (by decide +kernel) ⟨(by first | (simp only [headSpec]; omega) | omega | (dsimp only; omega)), (by first | (simp only [headSpec]; omega) | omega | (dsimp only; omega))⟩) (th_PV hK hH rfl hc_371) rfl rfl hl.1 rfl (lv_room (Nat.le_of_ble_eq_true rfl)) dX1_readMap_108 ⟨(by first | (simp only [headSpec]; omega) | omega | (dsimp only; omega)), (by first | (simp only [headSpec]; omega) | omega | (dsimp only; omega))⟩) hS (fun σ_s_373 H locs hw_372 hH hS => ?_)
              obtain ⟨hO9, hF9, hw_372⟩ := hw_372
              have e_374 : gI σ_s_373 b 4 = z_356 := (fr.ki hO hF9 h_b (by decide) (by decide) _).trans e_357
              have hk_375 := fun (h9 : cc_353 = 0) => gr.mv hO hF9 h_b (by decide) (hg_360 h9)
              have hk_376 := fun (h9 : cc_353 = 0) => mapst.mv hO hF9 h_b (by decide) (hm_361 h9)
              replace hO := hO9
              replace hF := hF.tu hF9 (by decide)
              replace hw_372 : ∃ c1 j1, TSt E σ_s_373 (ad E a 0) T c1 j1 ∧ c1 = cc_353 ∧ (cc_353 ≠ 0 → j1 = jj_354) ∧ (cc_353 = 0 → tK T jj_354 ≠ 259 → j1 = jj_354 + 1) := hw_372
              obtain ⟨cc_377, jj_378, hT_379, hw_372⟩ := hw_372
              have hUhT_379 := hT_379.2.2
              have hw_372j : jj_378 = jj_354 + 1 := by omega
              have h0_380 : cc_377 = 0 := by omega
              have hp_381 := hT_379.2.2.2.2.2.2.1 h0_380
              have hp_381j := And.intro hT_379.2.2.1 (And.intro hT_379.2.2.2.1 (And.intro hT_379.2.2.2.2.1 hT_379.2.2.2.2.2.1))
              clear hUhT_379
              clear hw_372
              refine lv_iinc (v := I (v6q291 + 1)) (lv' := [(6, .int (I (v6q291 + 1))), (5, .int (I 1)), (7, .int (I z_329)), (0, .ref a), (1, .ref b), (2, .int (I dp)), (4, .int (I z_6))]) hx hb dX1_readMap_111 hl (k := 6) rfl (I_add _ _) (by decide) rfl (fun ls hl => ?_)
              refine lv_goto (tgt := 39) hx hb dX1_readMap_114 (by decide) ?_
              replace hl : lv_has ls 8 [(6, .int (I (v6q291 + 1))), (5, .int (I 1)), (0, .ref a), (1, .ref b), (2, .int (I dp)), (4, .int (I z_6))] := lv_sub hl [0, 1, 3, 4, 5, 6] rfl
              exact ihJ_292 (1, v6q291 + 1) σ_s_373 _ _ _ (by first | omega | (dsimp only; omega)) ⟨hO, hF, hH, hS, lv_sub hl [2, 3, 4, 5, 1, 0] rfl, (show rng 1 from ⟨by decide, by decide⟩), ⟨by first | omega | (dsimp only; omega), by first | omega | (dsimp only; omega)⟩, by first | omega | (dsimp only; omega), by first | omega | (dsimp only; omega), by first | omega | (dsimp only; omega), by first | omega | (dsimp only; omega), ⟨cc_377, jj_378, kk_295 ++ [z_329], hT_379, fun h9 => ⟨hk_375 (by omega), hk_376 (by omega)⟩, fun h9 => by have h8 := hpr_359 (by omega); have h7 := hP_298 (by omega); have h6 := hle_346 hc_347; first | omega | (dsimp only; omega), (by obtain ⟨z9, hP9, hz9⟩ := PT_362; rw [show gI σ_s_338 b 4 = (gI σ_J_292 b 4) by omega] at hP9; (try dsimp only); exact (lin.item (op := 123) (mo := 1) (c4 := cc_353) (j4 := jj_354) (z := z9) (by unfold brk; omega) (hL_299.em (by omega)) (by have h8 := hky_345; rw [hc_347] at h8; exact h8) hP9 (fun h9 => by have h8 := hz9 h9; omega) (by omega)).ec (by omega))⟩⟩
          · have hp_382 := hT_355.2.2.2.2.2.2.2 hc_363
            have hp_382j := And.intro hT_355.2.2.1 (And.intro hT_355.2.2.2.1 (And.intro hT_355.2.2.2.2.1 hT_355.2.2.2.2.2.1))
            clear hUhT_355
            refine lv_aload_n hx hb dX1_readMap_80 rfl (lv_at hl 1 rfl) ?_
            refine ok.getR hO h_a (by decide) k10_0 (by decide) (fun _ _ he hv kk => th_get (ci := 1) (C := RX1) (T := TX1) (N := 1) hx hb hts inX1 hown hK hH he rfl 0 (by decide) fl0 hv dX1_readMap_81 kk) ?_
            refine ok.getI hO hp_14 (by decide) k3_6 (fun _ _ he hv kk => th_getN (ci := 8) (C := RX8) (T := TX8) (N := 9) hx hb hts inX8 hown hK hH he rfl 6 (by decide) (nl_4 hK) hv dX1_readMap_84 kk) (fun z_383 e_384 rz_383 lz_383 uz_383 => ?_)
            refine lv_bipush (v := I 44) hx hb dX1_readMap_87 (by decide) ?_
            refine lv_icmp_ne (tgt := 96) hx hb dX1_readMap_89 (by decide) (fun c_385 => ?_) (fun c_385 => ?_)
            · replace c_385 := mt (I_eq (a := z_383) (b := 44) rz_383 (show rng 44 from ⟨by decide, by decide⟩)).mpr c_385
              refine lv_iconst (v := I 0) hx hb dX1_readMap_96 (by decide) ?_
              refine lv_istore (lv' := [(5, .int (I 0)), (7, .int (I z_329)), (0, .ref a), (1, .ref b), (2, .int (I dp)), (4, .int (I z_6)), (6, .int (I v6q291))]) hx hb dX1_readMap_97 hl (by decide) rfl (fun ls hl => ?_)
              refine lv_iload hx hb dX1_readMap_99 (lv_at hl 0 rfl) ?_
              refine lv_if_eq (tgt := 111) hx hb dX1_readMap_101 (by decide) (fun _ => ?_) (fun c_386 => absurd (by decide) c_386)
              refine lv_iinc (v := I (v6q291 + 1)) (lv' := [(6, .int (I (v6q291 + 1))), (5, .int (I 0)), (7, .int (I z_329)), (0, .ref a), (1, .ref b), (2, .int (I dp)), (4, .int (I z_6))]) hx hb dX1_readMap_111 hl (k := 6) rfl (I_add _ _) (by decide) rfl (fun ls hl => ?_)
              refine lv_goto (tgt := 39) hx hb dX1_readMap_114 (by decide) ?_
              replace hl : lv_has ls 8 [(6, .int (I (v6q291 + 1))), (5, .int (I 0)), (0, .ref a), (1, .ref b), (2, .int (I dp)), (4, .int (I z_6))] := lv_sub hl [0, 1, 3, 4, 5, 6] rfl
              exact ihJ_292 (0, v6q291 + 1) σ_s_352 _ _ _ (by first | omega | (dsimp only; omega)) ⟨hO, hF, hH, hS, lv_sub hl [2, 3, 4, 5, 1, 0] rfl, (show rng 0 from ⟨by decide, by decide⟩), ⟨by first | omega | (dsimp only; omega), by first | omega | (dsimp only; omega)⟩, by first | omega | (dsimp only; omega), by first | omega | (dsimp only; omega), by first | omega | (dsimp only; omega), by first | omega | (dsimp only; omega), ⟨cc_353, jj_354, kk_295 ++ [z_329], hT_355, fun h9 => ⟨hg_360 (by omega), hm_361 (by omega)⟩, fun h9 => by have h8 := hpr_359 (by omega); have h7 := hP_298 (by omega); have h6 := hle_346 hc_347; first | omega | (dsimp only; omega), (by obtain ⟨z9, hP9, hz9⟩ := PT_362; rw [show gI σ_s_338 b 4 = (gI σ_J_292 b 4) by omega] at hP9; (try dsimp only); exact (lin.item (op := 123) (mo := 0) (c4 := cc_353) (j4 := jj_354) (z := z9) (by unfold brk; omega) (hL_299.em (by omega)) (by have h8 := hky_345; rw [hc_347] at h8; exact h8) hP9 (fun h9 => by have h8 := hz9 h9; omega) (by omega)).ec (by omega))⟩⟩
            · replace c_385 := (I_eq (a := z_383) (b := 44) rz_383 (show rng 44 from ⟨by decide, by decide⟩)).mp c_385
              exfalso; omega
        · have hp_387 := hT_344.2.2.2.2.2.2.2 hc_347
          have hp_387j := And.intro hT_344.2.2.1 (And.intro hT_344.2.2.2.1 (And.intro hT_344.2.2.2.2.1 hT_344.2.2.2.2.2.1))
          clear hUhT_344
          refine lv_aload_n hx hb dX1_readMap_70 rfl (lv_at hl 1 rfl) ?_
          refine lv_aload_n hx hb dX1_readMap_71 rfl (lv_at hl 2 rfl) ?_
          refine lv_iload_n hx hb dX1_readMap_72 rfl (lv_at hl 3 rfl) ?_
          refine lv_iconst (v := I 1) hx hb dX1_readMap_73 (by decide) ?_
          refine lv_iadd hx hb dX1_readMap_74 ?_
          refine nq_top (I_add _ _) ?_
          refine lv_iload hx hb dX1_readMap_75 (lv_at hl 0 rfl) ?_
          obtain ⟨_, hc_388⟩ := hO.cell h_a (by decide) (ci := 1) rfl
          refine th_callv (va_runV (As := [.ref b, .int (I (dp + 1)), .int (I z_329)]) (rest := []) ⟨hx, hb, hml, hown, hts⟩ (ih l G y b0 σ_s_338 E hO a h_a b h_b (dp + 1) (show rng (dp + 1) from ⟨by omega, by omega⟩) (by omega) (by omega) z_329 (show rng z_329 from rz_329) T cc_342 jj_343 hT_344 (by omega)) (cwV 3 hts gX1_readMap_X1_readThing rfl rfl rfl (by decide +kernel) ⟨(by first | (simp only [headSpec]; omega) | omega | (dsimp only; omega)), (by first | (simp only [headSpec]; omega) | omega | (dsimp only; omega))⟩) (th_PV hK hH rfl hc_388) rfl rfl hl.1 rfl (lv_room (Nat.le_of_ble_eq_true rfl)) dX1_readMap_77 ⟨(by first | (simp only [headSpec]; omega) | omega | (dsimp only; omega)), (by first | (simp only [headSpec]; omega) | omega | (dsimp only; omega))⟩) hS (fun σ_s_390 H locs hw_389 hH hS => ?_)
          obtain ⟨hO9, hF9, hw_389⟩ := hw_389
          replace hO := hO9
          replace hF := hF.tu hF9 (by decide)
          replace hw_389 : ∃ c1 j1, TSt E σ_s_390 (ad E a 0) T c1 j1 ∧ (cc_342 ≠ 0 → c1 = cc_342 ∧ j1 = jj_343) ∧ (cc_342 = 0 → PTh T (dp + 1) jj_343 (gI σ_s_338 b 4) c1 j1 (gI σ_s_390 b 4) ∧ (c1 = 0 → jj_343 < j1 ∧ gr E σ_s_338 σ_s_390 b (gI σ_s_338 b 4) (dp + 1) z_329)) := hw_389
          obtain ⟨cc_391, jj_392, hT_393, hw_389⟩ := hw_389
          have hUhT_393 := hT_393.2.2
          obtain ⟨z_394, e_395, rz_394, lz_394, uz_394⟩ := hO.gi h_b (by decide) k1_4
          have hv_396 := hw_389.1 hc_347
          clear hw_389
          have hc_397 : cc_391 ≠ 0 := by omega
          have hp_398 := hT_393.2.2.2.2.2.2.2 hc_397
          have hp_398j := And.intro hT_393.2.2.1 (And.intro hT_393.2.2.2.1 (And.intro hT_393.2.2.2.2.1 hT_393.2.2.2.2.2.1))
          clear hUhT_393
          refine lv_aload_n hx hb dX1_readMap_80 rfl (lv_at hl 1 rfl) ?_
          refine ok.getR hO h_a (by decide) k10_0 (by decide) (fun _ _ he hv kk => th_get (ci := 1) (C := RX1) (T := TX1) (N := 1) hx hb hts inX1 hown hK hH he rfl 0 (by decide) fl0 hv dX1_readMap_81 kk) ?_
          refine ok.getI hO hp_14 (by decide) k3_6 (fun _ _ he hv kk => th_getN (ci := 8) (C := RX8) (T := TX8) (N := 9) hx hb hts inX8 hown hK hH he rfl 6 (by decide) (nl_4 hK) hv dX1_readMap_84 kk) (fun z_399 e_400 rz_399 lz_399 uz_399 => ?_)
          refine lv_bipush (v := I 44) hx hb dX1_readMap_87 (by decide) ?_
          refine lv_icmp_ne (tgt := 96) hx hb dX1_readMap_89 (by decide) (fun c_401 => ?_) (fun c_401 => ?_)
          · replace c_401 := mt (I_eq (a := z_399) (b := 44) rz_399 (show rng 44 from ⟨by decide, by decide⟩)).mpr c_401
            refine lv_iconst (v := I 0) hx hb dX1_readMap_96 (by decide) ?_
            refine lv_istore (lv' := [(5, .int (I 0)), (7, .int (I z_329)), (0, .ref a), (1, .ref b), (2, .int (I dp)), (4, .int (I z_6)), (6, .int (I v6q291))]) hx hb dX1_readMap_97 hl (by decide) rfl (fun ls hl => ?_)
            refine lv_iload hx hb dX1_readMap_99 (lv_at hl 0 rfl) ?_
            refine lv_if_eq (tgt := 111) hx hb dX1_readMap_101 (by decide) (fun _ => ?_) (fun c_402 => absurd (by decide) c_402)
            refine lv_iinc (v := I (v6q291 + 1)) (lv' := [(6, .int (I (v6q291 + 1))), (5, .int (I 0)), (7, .int (I z_329)), (0, .ref a), (1, .ref b), (2, .int (I dp)), (4, .int (I z_6))]) hx hb dX1_readMap_111 hl (k := 6) rfl (I_add _ _) (by decide) rfl (fun ls hl => ?_)
            refine lv_goto (tgt := 39) hx hb dX1_readMap_114 (by decide) ?_
            replace hl : lv_has ls 8 [(6, .int (I (v6q291 + 1))), (5, .int (I 0)), (0, .ref a), (1, .ref b), (2, .int (I dp)), (4, .int (I z_6))] := lv_sub hl [0, 1, 3, 4, 5, 6] rfl
            exact ihJ_292 (0, v6q291 + 1) σ_s_390 _ _ _ (by first | omega | (dsimp only; omega)) ⟨hO, hF, hH, hS, lv_sub hl [2, 3, 4, 5, 1, 0] rfl, (show rng 0 from ⟨by decide, by decide⟩), ⟨by first | omega | (dsimp only; omega), by first | omega | (dsimp only; omega)⟩, by first | omega | (dsimp only; omega), by first | omega | (dsimp only; omega), by first | omega | (dsimp only; omega), by first | omega | (dsimp only; omega), ⟨cc_391, jj_392, kk_295, hT_393, fun h9 => absurd h9 (by omega), fun h9 => absurd h9 (by omega), (by rw [show cc_391 = cc_342 by omega, show jj_392 = jj_343 by omega]; exact lin.key (op := 123) (by unfold brk; omega) (hL_299.em (by omega)) hky_345 hc_347)⟩⟩
          · replace c_401 := (I_eq (a := z_399) (b := 44) rz_399 (show rng 44 from ⟨by decide, by decide⟩)).mp c_401
            exfalso; omega
