set_option maxHeartbeats 4000000 in
set_option maxRecDepth 100000 in
theorem r6_readList (n : Nat) (ih : ∀ (l : Launch) (G : va_G) (y : Nat → ClassId) (b0 : Nat) (σ : th_M) (E : th_E) (hO : ok y E σ) (a : Nat) (h_a : kd E a = 10) (b : Nat) (h_b : kd E b = 1) (dp : Int) (rdp : rng dp) (l_dp : 0 ≤ dp) (u_dp : dp ≤ 8) (ky : Int) (rky : rng ky) (T : tkT) (fc jt : Int) (hT0 : TSt E σ (ad E a 0) T fc jt) (hn : (8 - dp).toNat < n), Met l yX1_readThing wsX1_readThing ({ frames := 4*n+8, cells := 0, slots := 0, locals := (120*n+600) }) (th_P G y b0 σ [.ref a, .ref b, .int (I dp), .int (I ky)]) (th_Qv G b0 (fun σ1 => ok y E σ1 ∧ fr [3, 1] E σ σ1 ∧ (∃ c1 j1, TSt E σ1 (ad E a 0) T c1 j1 ∧ (fc ≠ 0 → c1 = fc ∧ j1 = jt) ∧ (fc = 0 → PTh T dp jt (gI σ b 4) c1 j1 (gI σ1 b 4) ∧ (c1 = 0 → jt < j1 ∧ gr E σ σ1 b (gI σ b 4) dp ky))))) 0 0 (th_A b0)) (l : Launch) (G : va_G) (y : Nat → ClassId) (b0 : Nat) (σ : th_M) (E : th_E) (hO : ok y E σ) (a : Nat) (h_a : kd E a = 10) (b : Nat) (h_b : kd E b = 1) (dp : Int) (rdp : rng dp) (l_dp : 0 ≤ dp) (u_dp : dp ≤ 7) (ky : Int) (rky : rng ky) (T : tkT) (fc jt : Int) (hT0 : TSt E σ (ad E a 0) T fc jt) (hy0 : (8 - dp).toNat < n + 1) (hy1 : fc = 0) (hy2 : tK T jt = 91) (hy3 : gI σ b 4 < 60) : Met l yX1_readList wsX1_readList ({ frames := 4*n+10, cells := 0, slots := 0, locals := (120*n+650) }) (th_P G y b0 σ [.ref a, .ref b, .int (I dp), .int (I ky)]) (th_Qv G b0 (fun σ1 => ok y E σ1 ∧ fr [3, 1] E σ σ1 ∧ (∃ c1 j1, TSt E σ1 (ad E a 0) T c1 j1 ∧ PTh T dp jt (gI σ b 4) c1 j1 (gI σ1 b 4) ∧ (c1 = 0 → jt < j1 ∧ gr E σ σ1 b (gI σ b 4) dp ky)))) 0 0 (th_A b0) := by
  refine Met.ofW (cc := cX1_readList) (maxL := 6) (ret := none) (by decide) rfl ?_
  intro p e s m args below meth c s₁ B hml hv
  obtain ⟨rfl, hH, hK⟩ := hv
  have hx := B.exec
  have hb := B.bytes
  have hr := B.returns
  have hts := atoms_spec (ws := wsX1_readList) B.pre
  have hown : s.vm.findClass RX1 = some m.cls := findClass_of_methodNamed B.named
  have hlocks := B.notSynchronized
  have h00 : b0 ≤ s.heap.size := hH.1
  have hS : va_S (th_A b0) s.heap s.heap [] := va_S.rf
  have hF : fr [3, 1] E σ σ := fr.rf
  have inX1 : ∀ w ∈ wsX10, w ∈ wsX1_readList := by decide +kernel
  have inX8 : ∀ w ∈ wsX80, w ∈ wsX1_readList := by decide +kernel
  have fl0 := hts (.fieldLink RX1 9 "NestQuery$DataReader" "tokens" "LNestQuery$Tokens;") (by decide +kernel)
  have hl := lv_entry ([.ref a, .ref b, .int (I dp), .int (I ky)]) (n := 6) (Nat.le_of_ble_eq_true rfl)
  rw [lg_entry_eq]
  generalize (lg_sl ([.ref a, .ref b, .int (I dp), .int (I ky)]) ++ List.replicate (6 - (lg_sl ([.ref a, .ref b, .int (I dp), .int (I ky)])).length) Slot.unset).toArray = ls at hl ⊢
  have hl : lv_has ls 6 [(0, .ref a), (1, .ref b), (2, .int (I dp)), (3, .int (I ky))] := hl
  obtain ⟨b40, eb40, rb40, lb40, ub40⟩ := hO.gi h_b (by decide) k1_4
  have hU0 := hT0.2.2
  have hkt : kd E (ad E a 0) = 3 := ok.pk hO h_a (by decide) k10_0 rfl
  have h0_1 : fc = 0 := by omega
  have hp_2 := hT0.2.2.2.2.2.2.1 h0_1
  have hp_2j := And.intro hT0.2.2.1 (And.intro hT0.2.2.2.1 (And.intro hT0.2.2.2.2.1 hT0.2.2.2.2.2.1))
  clear hU0
  refine lv_aload_n hx hb dX1_readList_0 rfl (lv_at hl 1 rfl) ?_
  refine lv_iconst (v := I 2) hx hb dX1_readList_1 (by decide) ?_
  refine lv_iconst (v := I 0) hx hb dX1_readList_2 (by decide) ?_
  refine lv_iload_n hx hb dX1_readList_3 rfl (lv_at hl 3 rfl) ?_
  refine lv_iload_n hx hb dX1_readList_4 rfl (lv_at hl 2 rfl) ?_
  obtain ⟨_, hc_3⟩ := hO.cell h_b (by decide) (ci := 9) rfl
  refine th_calli (va_runV (As := [.int (I 2), .int (I 0), .int (I ky), .int (I dp)]) (rest := []) ⟨hx, hb, hml, hown, hts⟩ (t6_add l G y b0 σ E hO b h_b 2 (show rng 2 from (show rng 2 from ⟨by decide, by decide⟩)) 0 (show rng 0 from (show rng 0 from ⟨by decide, by decide⟩)) ky (show rng ky from rky) dp (show rng dp from rdp) (by omega) (by omega)) (cwV 4 hts gX1_readList_X9_addThing rfl rfl rfl (by decide +kernel) ⟨(by first | (simp only [headSpec]; omega) | omega | (dsimp only; omega)), (by first | (simp only [headSpec]; omega) | omega | (dsimp only; omega))⟩) (th_PV hK hH rfl hc_3) rfl rfl hl.1 rfl (lv_room (Nat.le_of_ble_eq_true rfl)) dX1_readList_5 ⟨(by first | (simp only [headSpec]; omega) | omega | (dsimp only; omega)), (by first | (simp only [headSpec]; omega) | omega | (dsimp only; omega))⟩) hS (fun z_6 σ_s_5 H locs rz_6 hw_4 hH hS => ?_)
  obtain ⟨hO9, hF9, hw_4⟩ := hw_4
  have hT_7 : TSt E σ_s_5 (ad E a 0) T fc jt := TSt.mv hO hF9 hkt (by decide) hT0
  have hUhT_7 := hT_7.2.2
  have h0_8 : fc = 0 := by omega
  have hp_9 := hT_7.2.2.2.2.2.2.1 h0_8
  have hp_9j := And.intro hT_7.2.2.1 (And.intro hT_7.2.2.2.1 (And.intro hT_7.2.2.2.2.1 hT_7.2.2.2.2.2.1))
  clear hUhT_7
  replace hO := hO9
  replace hF := hF.tu hF9 (by decide)
  replace hw_4 : z_6 = gI σ b 4 ∧ gI σ_s_5 b 4 = gI σ b 4 + 1 ∧ gr E σ σ_s_5 b (gI σ b 4) dp ky ∧ nE E σ_s_5 b (gI σ b 4) = 2 := hw_4
  obtain ⟨z_10, e_11, rz_10, lz_10, uz_10⟩ := hO.gi h_b (by decide) k1_4
  have hg_12 : True → _ := fun _ => hw_4.2.2.1
  refine lv_pop hx hb dX1_readList_8 rfl ?_
  refine lv_aload_n hx hb dX1_readList_9 rfl (lv_at hl 0 rfl) ?_
  have hp_13 : kd E (ad E a 0) = 3 := ok.pk hO h_a (by decide) k10_0 rfl
  refine ok.getR hO h_a (by decide) k10_0 (by decide) (fun _ _ he hv kk => th_get (ci := 1) (C := RX1) (T := TX1) (N := 1) hx hb hts inX1 hown hK hH he rfl 0 (by decide) fl0 hv dX1_readList_10 kk) ?_
  obtain ⟨_, hc_14⟩ := hO.cell hp_13 (by decide) (ci := 8) rfl
  refine th_callv (va_runV (As := []) (rest := []) ⟨hx, hb, hml, hown, hts⟩ (f_step l G y b0 σ_s_5 E hO (ad E a 0) hp_13 T fc jt hT_7) (cwV 0 hts gX1_readList_X8_step rfl rfl rfl (by decide +kernel) ⟨(by first | (simp only [headSpec]; omega) | omega | (dsimp only; omega)), (by first | (simp only [headSpec]; omega) | omega | (dsimp only; omega))⟩) (th_PV hK hH rfl hc_14) rfl rfl hl.1 rfl (lv_room (Nat.le_of_ble_eq_true rfl)) dX1_readList_13 ⟨(by first | (simp only [headSpec]; omega) | omega | (dsimp only; omega)), (by first | (simp only [headSpec]; omega) | omega | (dsimp only; omega))⟩) hS (fun σ_s_16 H locs hw_15 hH hS => ?_)
  obtain ⟨hO9, hF9, hw_15⟩ := hw_15
  have e_17 : gI σ_s_16 b 4 = z_10 := (fr.ki hO hF9 h_b (by decide) (by decide) _).trans e_11
  have hk_18 := fun (h9 : True) => gr.mv hO hF9 h_b (by decide) (hg_12 h9)
  replace hO := hO9
  replace hF := hF.tu hF9 (by decide)
  replace hw_15 : ∃ c1 j1, TSt E σ_s_16 (ad E a 0) T c1 j1 ∧ c1 = fc ∧ (fc ≠ 0 → j1 = jt) ∧ (fc = 0 → tK T jt ≠ 259 → j1 = jt + 1) := hw_15
  obtain ⟨cc_19, jj_20, hT_21, hw_15⟩ := hw_15
  have hUhT_21 := hT_21.2.2
  have hw_15j : jj_20 = jt + 1 := by omega
  have h0_22 : cc_19 = 0 := by omega
  have hp_23 := hT_21.2.2.2.2.2.2.1 h0_22
  have hp_23j := And.intro hT_21.2.2.1 (And.intro hT_21.2.2.2.1 (And.intro hT_21.2.2.2.2.1 hT_21.2.2.2.2.2.1))
  clear hUhT_21
  clear hw_15
  refine lv_aload_n hx hb dX1_readList_16 rfl (lv_at hl 0 rfl) ?_
  refine ok.getR hO h_a (by decide) k10_0 (by decide) (fun _ _ he hv kk => th_get (ci := 1) (C := RX1) (T := TX1) (N := 1) hx hb hts inX1 hown hK hH he rfl 0 (by decide) fl0 hv dX1_readList_17 kk) ?_
  refine ok.getI hO hp_13 (by decide) k3_6 (fun _ _ he hv kk => th_getN (ci := 8) (C := RX8) (T := TX8) (N := 9) hx hb hts inX8 hown hK hH he rfl 6 (by decide) (nl_4 hK) hv dX1_readList_20 kk) (fun z_24 e_25 rz_24 lz_24 uz_24 => ?_)
  refine lv_bipush (v := I 93) hx hb dX1_readList_23 (by decide) ?_
  refine lv_icmp_eq (tgt := 32) hx hb dX1_readList_25 (by decide) (fun c_26 => ?_) (fun c_26 => ?_)
  · replace c_26 := (I_eq (a := z_24) (b := 93) rz_24 (show rng 93 from ⟨by decide, by decide⟩)).mp c_26
    refine lv_iconst (v := I 0) hx hb dX1_readList_32 (by decide) ?_
    refine lv_istore (lv' := [(4, .int (I 0)), (0, .ref a), (1, .ref b), (2, .int (I dp)), (3, .int (I ky))]) hx hb dX1_readList_33 hl (by decide) rfl (fun ls hl => ?_)
    refine lv_iconst (v := I 0) hx hb dX1_readList_35 (by decide) ?_
    refine lv_istore (lv' := [(5, .int (I 0)), (4, .int (I 0)), (0, .ref a), (1, .ref b), (2, .int (I dp)), (3, .int (I ky))]) hx hb dX1_readList_36 hl (by decide) rfl (fun ls hl => ?_)
    replace hl : lv_has ls 6 [(5, .int (I 0)), (4, .int (I 0)), (0, .ref a), (1, .ref b), (2, .int (I dp))] := lv_sub hl [0, 1, 2, 3, 4] rfl
    refine th_loop (α := Int × Int) (pc := 38) (fun x9 => (400 - x9.2).toNat) (fun x9 σ9 H9 l9 ls9 => ok y E σ9 ∧ fr [3, 1] E σ σ9 ∧ th_H G b0 σ9 H9 ∧ va_S (th_A b0) s.heap H9 l9 ∧ lv_has ls9 6 [(0, .ref a), (1, .ref b), (2, .int (I dp)), (4, .int (I x9.1)), (5, .int (I x9.2))] ∧ rng x9.1 ∧ rng x9.2 ∧ (0 ≤ x9.1) ∧ (x9.1 ≤ 1) ∧ (0 ≤ x9.2) ∧ (x9.2 ≤ 400) ∧ (∃ c2 j2 k2, TSt E σ9 (ad E a 0) T c2 j2 ∧ (c2 = 0 → gr E σ σ9 b (gI σ b 4) dp ky) ∧ (c2 = 0 → jt + 1 + x9.2 ≤ j2) ∧ lin T 1 93 dp jt (gI σ b 4) k2 x9.1 c2 j2 (gI σ9 b 4))) ?_ (0, 0) σ_s_16 _ _ _ ⟨hO, hF, hH, hS, lv_sub hl [2, 3, 4, 1, 0] rfl, (show rng 0 from ⟨by decide, by decide⟩), (show rng 0 from ⟨by decide, by decide⟩), by first | omega | (dsimp only; omega), by first | omega | (dsimp only; omega), by first | omega | (dsimp only; omega), by first | omega | (dsimp only; omega), ⟨cc_19, jj_20, [], hT_21, fun _ => hk_18 trivial, fun _ => by omega, (lin.start (op := 91) (by unfold brk; omega) (by omega) (by omega) (by omega) (by omega) (by omega)).ec (by omega)⟩⟩
    intro x9 σ_J_100 H locs ls hI9 ihJ_100
    obtain ⟨v4q99, v5q99⟩ := x9
    obtain ⟨hO, hF, hH, hS, hl, rv4q99, rv5q99, J_100_0, J_100_1, J_100_2, J_100_3, J_100_4⟩ := hI9
    have hl : lv_has ls 6 [(0, .ref a), (1, .ref b), (2, .int (I dp)), (4, .int (I v4q99)), (5, .int (I v5q99))] := hl
    have rv4q99 : rng v4q99 := rv4q99
    have rv5q99 : rng v5q99 := rv5q99
    replace J_100_0 : 0 ≤ v4q99 := J_100_0
    replace J_100_1 : v4q99 ≤ 1 := J_100_1
    replace J_100_2 : 0 ≤ v5q99 := J_100_2
    replace J_100_3 : v5q99 ≤ 400 := J_100_3
    replace J_100_4 : ∃ c2 j2 k2, TSt E σ_J_100 (ad E a 0) T c2 j2 ∧ (c2 = 0 → gr E σ σ_J_100 b (gI σ b 4) dp ky) ∧ (c2 = 0 → jt + 1 + v5q99 ≤ j2) ∧ lin T 1 93 dp jt (gI σ b 4) k2 v4q99 c2 j2 (gI σ_J_100 b 4) := J_100_4
    obtain ⟨cc_101, jj_102, kk_103, hT_104, hG_105, hP_106, hL_107⟩ := J_100_4
    have hUhT_104 := hT_104.2.2
    have h0hL_107 := hL_107.c0
    obtain ⟨z_108, e_109, rz_108, lz_108, uz_108⟩ := hO.gi h_b (by decide) k1_4
    have hg_110 := fun (h9 : cc_101 = 0) => (hG_105 h9)
    refine lv_iload hx hb dX1_readList_38 (lv_at hl 3 rfl) ?_
    refine lv_if_eq (tgt := 97) hx hb dX1_readList_40 (by decide) (fun c_111 => ?_) (fun c_111 => ?_)
    · replace c_111 := (I_eq (a := v4q99) (b := 0) rv4q99 (show rng 0 from ⟨by decide, by decide⟩)).mp c_111
      refine lv_aload_n hx hb dX1_readList_97 rfl (lv_at hl 0 rfl) ?_
      refine ok.getR hO h_a (by decide) k10_0 (by decide) (fun _ _ he hv kk => th_get (ci := 1) (C := RX1) (T := TX1) (N := 1) hx hb hts inX1 hown hK hH he rfl 0 (by decide) fl0 hv dX1_readList_98 kk) ?_
      refine lv_bipush (v := I 93) hx hb dX1_readList_101 (by decide) ?_
      obtain ⟨_, hc_112⟩ := hO.cell hp_13 (by decide) (ci := 8) rfl
      refine th_callv (va_runV (As := [.int (I 93)]) (rest := []) ⟨hx, hb, hml, hown, hts⟩ (f_expect l G y b0 σ_J_100 E hO (ad E a 0) hp_13 93 (show rng 93 from (show rng 93 from ⟨by decide, by decide⟩)) (by omega) (by omega) T cc_101 jj_102 hT_104) (cwV 1 hts gX1_readList_X8_expect rfl rfl rfl (by decide +kernel) ⟨(by first | (simp only [headSpec]; omega) | omega | (dsimp only; omega)), (by first | (simp only [headSpec]; omega) | omega | (dsimp only; omega))⟩) (th_PV hK hH rfl hc_112) rfl rfl hl.1 rfl (lv_room (Nat.le_of_ble_eq_true rfl)) dX1_readList_103 ⟨(by first | (simp only [headSpec]; omega) | omega | (dsimp only; omega)), (by first | (simp only [headSpec]; omega) | omega | (dsimp only; omega))⟩) hS (fun σ_s_114 H locs hw_113 hH hS => ?_)
      obtain ⟨hO9, hF9, hw_113⟩ := hw_113
      have e_115 : gI σ_s_114 b 4 = z_108 := (fr.ki hO hF9 h_b (by decide) (by decide) _).trans e_109
      have hk_116 := fun (h9 : cc_101 = 0) => gr.mv hO hF9 h_b (by decide) (hg_110 h9)
      replace hO := hO9
      replace hF := hF.tu hF9 (by decide)
      replace hw_113 : ∃ c1 j1, TSt E σ_s_114 (ad E a 0) T c1 j1 ∧ (cc_101 ≠ 0 → c1 = cc_101 ∧ j1 = jj_102) ∧ (cc_101 = 0 → (tK T jj_102 = 93 ∧ c1 = 0 ∧ j1 = jj_102 + 1) ∨ (tK T jj_102 ≠ 93 ∧ c1 = 1 ∧ j1 = jj_102)) := hw_113
      obtain ⟨cc_117, jj_118, hT_119, hw_113⟩ := hw_113
      have hUhT_119 := hT_119.2.2
      exact th_vret hx hb hr hlocks hH hS ⟨hO, hF, (by first | (exfalso; omega) | exact ⟨cc_117, jj_118, hT_119, (by have h8 := (hL_107.em (mo2 := 0) (by omega)).done hw_113.1 hw_113.2; rw [show (gI σ_J_100 b 4) = gI σ_s_114 b 4 by omega] at h8; exact h8), fun h9 => ⟨by have h8 := hP_106 (by omega); omega, hk_116 (by omega)⟩⟩)⟩ dX1_readList_106
    · replace c_111 := mt (I_eq (a := v4q99) (b := 0) rv4q99 (show rng 0 from ⟨by decide, by decide⟩)).mpr c_111
      refine lv_iload hx hb dX1_readList_43 (lv_at hl 4 rfl) ?_
      refine lv_sipush (v := I 400) hx hb dX1_readList_45 (by decide) ?_
      refine lv_icmp_ge (tgt := 97) hx hb dX1_readList_48 (by decide) (fun c_120 => ?_) (fun c_120 => ?_)
      · replace c_120 := (I_le (a := 400) (b := v5q99) (show rng 400 from ⟨by decide, by decide⟩) rv5q99).mp c_120
        refine lv_aload_n hx hb dX1_readList_97 rfl (lv_at hl 0 rfl) ?_
        refine ok.getR hO h_a (by decide) k10_0 (by decide) (fun _ _ he hv kk => th_get (ci := 1) (C := RX1) (T := TX1) (N := 1) hx hb hts inX1 hown hK hH he rfl 0 (by decide) fl0 hv dX1_readList_98 kk) ?_
        refine lv_bipush (v := I 93) hx hb dX1_readList_101 (by decide) ?_
        obtain ⟨_, hc_121⟩ := hO.cell hp_13 (by decide) (ci := 8) rfl
        refine th_callv (va_runV (As := [.int (I 93)]) (rest := []) ⟨hx, hb, hml, hown, hts⟩ (f_expect l G y b0 σ_J_100 E hO (ad E a 0) hp_13 93 (show rng 93 from (show rng 93 from ⟨by decide, by decide⟩)) (by omega) (by omega) T cc_101 jj_102 hT_104) (cwV 1 hts gX1_readList_X8_expect rfl rfl rfl (by decide +kernel) ⟨(by first | (simp only [headSpec]; omega) | omega | (dsimp only; omega)), (by first | (simp only [headSpec]; omega) | omega | (dsimp only; omega))⟩) (th_PV hK hH rfl hc_121) rfl rfl hl.1 rfl (lv_room (Nat.le_of_ble_eq_true rfl)) dX1_readList_103 ⟨(by first | (simp only [headSpec]; omega) | omega | (dsimp only; omega)), (by first | (simp only [headSpec]; omega) | omega | (dsimp only; omega))⟩) hS (fun σ_s_123 H locs hw_122 hH hS => ?_)
        obtain ⟨hO9, hF9, hw_122⟩ := hw_122
        have e_124 : gI σ_s_123 b 4 = z_108 := (fr.ki hO hF9 h_b (by decide) (by decide) _).trans e_109
        have hk_125 := fun (h9 : cc_101 = 0) => gr.mv hO hF9 h_b (by decide) (hg_110 h9)
        replace hO := hO9
        replace hF := hF.tu hF9 (by decide)
        replace hw_122 : ∃ c1 j1, TSt E σ_s_123 (ad E a 0) T c1 j1 ∧ (cc_101 ≠ 0 → c1 = cc_101 ∧ j1 = jj_102) ∧ (cc_101 = 0 → (tK T jj_102 = 93 ∧ c1 = 0 ∧ j1 = jj_102 + 1) ∨ (tK T jj_102 ≠ 93 ∧ c1 = 1 ∧ j1 = jj_102)) := hw_122
        obtain ⟨cc_126, jj_127, hT_128, hw_122⟩ := hw_122
        have hUhT_128 := hT_128.2.2
        exact th_vret hx hb hr hlocks hH hS ⟨hO, hF, (by first | (exfalso; omega) | exact ⟨cc_126, jj_127, hT_128, (by have h8 := (hL_107.em (mo2 := 0) (by omega)).done hw_122.1 hw_122.2; rw [show (gI σ_J_100 b 4) = gI σ_s_123 b 4 by omega] at h8; exact h8), fun h9 => ⟨by have h8 := hP_106 (by omega); omega, hk_125 (by omega)⟩⟩)⟩ dX1_readList_106
      · replace c_120 := mt (I_le (a := 400) (b := v5q99) (show rng 400 from ⟨by decide, by decide⟩) rv5q99).mpr c_120
        have h0_129 : cc_101 = 0 := by omega
        have hp_130 := hT_104.2.2.2.2.2.2.1 h0_129
        have hp_130j := And.intro hT_104.2.2.1 (And.intro hT_104.2.2.2.1 (And.intro hT_104.2.2.2.2.1 hT_104.2.2.2.2.2.1))
        clear hUhT_104
        refine lv_aload_n hx hb dX1_readList_51 rfl (lv_at hl 0 rfl) ?_
        refine lv_aload_n hx hb dX1_readList_52 rfl (lv_at hl 1 rfl) ?_
        refine lv_iload_n hx hb dX1_readList_53 rfl (lv_at hl 2 rfl) ?_
        refine lv_iconst (v := I 1) hx hb dX1_readList_54 (by decide) ?_
        refine lv_iadd hx hb dX1_readList_55 ?_
        refine nq_top (I_add _ _) ?_
        refine lv_iconst (v := I 0) hx hb dX1_readList_56 (by decide) ?_
        obtain ⟨_, hc_131⟩ := hO.cell h_a (by decide) (ci := 1) rfl
        refine th_callv (va_runV (As := [.ref b, .int (I (dp + 1)), .int (I 0)]) (rest := []) ⟨hx, hb, hml, hown, hts⟩ (ih l G y b0 σ_J_100 E hO a h_a b h_b (dp + 1) (show rng (dp + 1) from ⟨by omega, by omega⟩) (by omega) (by omega) 0 (show rng 0 from (show rng 0 from ⟨by decide, by decide⟩)) T cc_101 jj_102 hT_104 (by omega)) (cwV 3 hts gX1_readList_X1_readThing rfl rfl rfl (by decide +kernel) ⟨(by first | (simp only [headSpec]; omega) | omega | (dsimp only; omega)), (by first | (simp only [headSpec]; omega) | omega | (dsimp only; omega))⟩) (th_PV hK hH rfl hc_131) rfl rfl hl.1 rfl (lv_room (Nat.le_of_ble_eq_true rfl)) dX1_readList_57 ⟨(by first | (simp only [headSpec]; omega) | omega | (dsimp only; omega)), (by first | (simp only [headSpec]; omega) | omega | (dsimp only; omega))⟩) hS (fun σ_s_133 H locs hw_132 hH hS => ?_)
        obtain ⟨hO9, hF9, hw_132⟩ := hw_132
        replace hO := hO9
        replace hF := hF.tu hF9 (by decide)
        replace hw_132 : ∃ c1 j1, TSt E σ_s_133 (ad E a 0) T c1 j1 ∧ (cc_101 ≠ 0 → c1 = cc_101 ∧ j1 = jj_102) ∧ (cc_101 = 0 → PTh T (dp + 1) jj_102 (gI σ_J_100 b 4) c1 j1 (gI σ_s_133 b 4) ∧ (c1 = 0 → jj_102 < j1 ∧ gr E σ_J_100 σ_s_133 b (gI σ_J_100 b 4) (dp + 1) 0)) := hw_132
        obtain ⟨cc_134, jj_135, hT_136, hw_132⟩ := hw_132
        have hUhT_136 := hT_136.2.2
        obtain ⟨z_137, e_138, rz_137, lz_137, uz_137⟩ := hO.gi h_b (by decide) k1_4
        obtain ⟨⟨zz_139, hPt_140, hzz_141⟩, hgr_142⟩ := hw_132.2 (by omega)
        have hpr_143 := fun h9 => (hgr_142 h9).1
        have hg_144 := fun (h9 : cc_134 = 0) => (hg_110 (by omega)).child (hgr_142 h9).2 rfl
        refine lv_aload_n hx hb dX1_readList_60 rfl (lv_at hl 0 rfl) ?_
        refine ok.getR hO h_a (by decide) k10_0 (by decide) (fun _ _ he hv kk => th_get (ci := 1) (C := RX1) (T := TX1) (N := 1) hx hb hts inX1 hown hK hH he rfl 0 (by decide) fl0 hv dX1_readList_61 kk) ?_
        refine ok.getI hO hp_13 (by decide) k3_6 (fun _ _ he hv kk => th_getN (ci := 8) (C := RX8) (T := TX8) (N := 9) hx hb hts inX8 hown hK hH he rfl 6 (by decide) (nl_4 hK) hv dX1_readList_64 kk) (fun z_145 e_146 rz_145 lz_145 uz_145 => ?_)
        refine lv_bipush (v := I 44) hx hb dX1_readList_67 (by decide) ?_
        refine lv_icmp_ne (tgt := 76) hx hb dX1_readList_69 (by decide) (fun c_147 => ?_) (fun c_147 => ?_)
        · replace c_147 := mt (I_eq (a := z_145) (b := 44) rz_145 (show rng 44 from ⟨by decide, by decide⟩)).mpr c_147
          refine lv_iconst (v := I 0) hx hb dX1_readList_76 (by decide) ?_
          refine lv_istore (lv' := [(4, .int (I 0)), (0, .ref a), (1, .ref b), (2, .int (I dp)), (5, .int (I v5q99))]) hx hb dX1_readList_77 hl (by decide) rfl (fun ls hl => ?_)
          refine lv_iload hx hb dX1_readList_79 (lv_at hl 0 rfl) ?_
          refine lv_if_eq (tgt := 91) hx hb dX1_readList_81 (by decide) (fun _ => ?_) (fun c_148 => absurd (by decide) c_148)
          refine lv_iinc (v := I (v5q99 + 1)) (lv' := [(5, .int (I (v5q99 + 1))), (4, .int (I 0)), (0, .ref a), (1, .ref b), (2, .int (I dp))]) hx hb dX1_readList_91 hl (k := 4) rfl (I_add _ _) (by decide) rfl (fun ls hl => ?_)
          refine lv_goto (tgt := 38) hx hb dX1_readList_94 (by decide) ?_
          exact ihJ_100 (0, v5q99 + 1) σ_s_133 _ _ _ (by first | omega | (dsimp only; omega)) ⟨hO, hF, hH, hS, lv_sub hl [2, 3, 4, 1, 0] rfl, (show rng 0 from ⟨by decide, by decide⟩), ⟨by first | omega | (dsimp only; omega), by first | omega | (dsimp only; omega)⟩, by first | omega | (dsimp only; omega), by first | omega | (dsimp only; omega), by first | omega | (dsimp only; omega), by first | omega | (dsimp only; omega), ⟨cc_134, jj_135, kk_103 ++ [0], hT_136, fun h9 => hg_144 (by omega), fun h9 => by have h8 := hpr_143 (by omega); have h7 := hP_106 (by omega); omega, (lin.item (op := 91) (z := zz_139) (by unfold brk; omega) (hL_107.em (by omega)) kyR.list hPt_140 (fun h9 => by have h8 := hzz_141 h9; omega) (by omega)).ec (by omega)⟩⟩
        · replace c_147 := (I_eq (a := z_145) (b := 44) rz_145 (show rng 44 from ⟨by decide, by decide⟩)).mp c_147
          have h0_149 : cc_134 = 0 := by omega
          have hp_150 := hT_136.2.2.2.2.2.2.1 h0_149
          have hp_150j := And.intro hT_136.2.2.1 (And.intro hT_136.2.2.2.1 (And.intro hT_136.2.2.2.2.1 hT_136.2.2.2.2.2.1))
          clear hUhT_136
          refine lv_iconst (v := I 1) hx hb dX1_readList_72 (by decide) ?_
          refine lv_goto (tgt := 77) hx hb dX1_readList_73 (by decide) ?_
          refine lv_istore (lv' := [(4, .int (I 1)), (0, .ref a), (1, .ref b), (2, .int (I dp)), (5, .int (I v5q99))]) hx hb dX1_readList_77 hl (by decide) rfl (fun ls hl => ?_)
          refine lv_iload hx hb dX1_readList_79 (lv_at hl 0 rfl) ?_
          refine lv_if_eq (tgt := 91) hx hb dX1_readList_81 (by decide) (fun c_151 => absurd c_151 (by decide)) (fun _ => ?_)
          refine lv_aload_n hx hb dX1_readList_84 rfl (lv_at hl 1 rfl) ?_
          refine ok.getR hO h_a (by decide) k10_0 (by decide) (fun _ _ he hv kk => th_get (ci := 1) (C := RX1) (T := TX1) (N := 1) hx hb hts inX1 hown hK hH he rfl 0 (by decide) fl0 hv dX1_readList_85 kk) ?_
          obtain ⟨_, hc_152⟩ := hO.cell hp_13 (by decide) (ci := 8) rfl
          refine th_callv (va_runV (As := []) (rest := []) ⟨hx, hb, hml, hown, hts⟩ (f_step l G y b0 σ_s_133 E hO (ad E a 0) hp_13 T cc_134 jj_135 hT_136) (cwV 0 hts gX1_readList_X8_step rfl rfl rfl (by decide +kernel) ⟨(by first | (simp only [headSpec]; omega) | omega | (dsimp only; omega)), (by first | (simp only [headSpec]; omega) | omega | (dsimp only; omega))⟩) (th_PV hK hH rfl hc_152) rfl rfl hl.1 rfl (lv_room (Nat.le_of_ble_eq_true rfl)) dX1_readList_88 ⟨(by first | (simp only [headSpec]; omega) | omega | (dsimp only; omega)), (by first | (simp only [headSpec]; omega) | omega | (dsimp only; omega))⟩) hS (fun σ_s_154 H locs hw_153 hH hS => ?_)
          obtain ⟨hO9, hF9, hw_153⟩ := hw_153
          have e_155 : gI σ_s_154 b 4 = z_137 := (fr.ki hO hF9 h_b (by decide) (by decide) _).trans e_138
          have hk_156 := fun (h9 : cc_134 = 0) => gr.mv hO hF9 h_b (by decide) (hg_144 h9)
          replace hO := hO9
          replace hF := hF.tu hF9 (by decide)
          replace hw_153 : ∃ c1 j1, TSt E σ_s_154 (ad E a 0) T c1 j1 ∧ c1 = cc_134 ∧ (cc_134 ≠ 0 → j1 = jj_135) ∧ (cc_134 = 0 → tK T jj_135 ≠ 259 → j1 = jj_135 + 1) := hw_153
          obtain ⟨cc_157, jj_158, hT_159, hw_153⟩ := hw_153
          have hUhT_159 := hT_159.2.2
          have hw_153j : jj_158 = jj_135 + 1 := by omega
          have h0_160 : cc_157 = 0 := by omega
          have hp_161 := hT_159.2.2.2.2.2.2.1 h0_160
          have hp_161j := And.intro hT_159.2.2.1 (And.intro hT_159.2.2.2.1 (And.intro hT_159.2.2.2.2.1 hT_159.2.2.2.2.2.1))
          clear hUhT_159
          clear hw_153
          refine lv_iinc (v := I (v5q99 + 1)) (lv' := [(5, .int (I (v5q99 + 1))), (4, .int (I 1)), (0, .ref a), (1, .ref b), (2, .int (I dp))]) hx hb dX1_readList_91 hl (k := 4) rfl (I_add _ _) (by decide) rfl (fun ls hl => ?_)
          refine lv_goto (tgt := 38) hx hb dX1_readList_94 (by decide) ?_
          exact ihJ_100 (1, v5q99 + 1) σ_s_154 _ _ _ (by first | omega | (dsimp only; omega)) ⟨hO, hF, hH, hS, lv_sub hl [2, 3, 4, 1, 0] rfl, (show rng 1 from ⟨by decide, by decide⟩), ⟨by first | omega | (dsimp only; omega), by first | omega | (dsimp only; omega)⟩, by first | omega | (dsimp only; omega), by first | omega | (dsimp only; omega), by first | omega | (dsimp only; omega), by first | omega | (dsimp only; omega), ⟨cc_157, jj_158, kk_103 ++ [0], hT_159, fun h9 => hk_156 (by omega), fun h9 => by have h8 := hpr_143 (by omega); have h7 := hP_106 (by omega); omega, (lin.item (op := 91) (z := zz_139) (by unfold brk; omega) (hL_107.em (by omega)) kyR.list hPt_140 (fun h9 => by have h8 := hzz_141 h9; omega) (by omega)).ec (by omega)⟩⟩
  · replace c_26 := mt (I_eq (a := z_24) (b := 93) rz_24 (show rng 93 from ⟨by decide, by decide⟩)).mpr c_26
    refine lv_iconst (v := I 1) hx hb dX1_readList_28 (by decide) ?_
    refine lv_goto (tgt := 33) hx hb dX1_readList_29 (by decide) ?_
    refine lv_istore (lv' := [(4, .int (I 1)), (0, .ref a), (1, .ref b), (2, .int (I dp)), (3, .int (I ky))]) hx hb dX1_readList_33 hl (by decide) rfl (fun ls hl => ?_)
    refine lv_iconst (v := I 0) hx hb dX1_readList_35 (by decide) ?_
    refine lv_istore (lv' := [(5, .int (I 0)), (4, .int (I 1)), (0, .ref a), (1, .ref b), (2, .int (I dp)), (3, .int (I ky))]) hx hb dX1_readList_36 hl (by decide) rfl (fun ls hl => ?_)
    replace hl : lv_has ls 6 [(5, .int (I 0)), (4, .int (I 1)), (0, .ref a), (1, .ref b), (2, .int (I dp))] := lv_sub hl [0, 1, 2, 3, 4] rfl
    refine th_loop (α := Int × Int) (pc := 38) (fun x9 => (400 - x9.2).toNat) (fun x9 σ9 H9 l9 ls9 => ok y E σ9 ∧ fr [3, 1] E σ σ9 ∧ th_H G b0 σ9 H9 ∧ va_S (th_A b0) s.heap H9 l9 ∧ lv_has ls9 6 [(0, .ref a), (1, .ref b), (2, .int (I dp)), (4, .int (I x9.1)), (5, .int (I x9.2))] ∧ rng x9.1 ∧ rng x9.2 ∧ (0 ≤ x9.1) ∧ (x9.1 ≤ 1) ∧ (0 ≤ x9.2) ∧ (x9.2 ≤ 400) ∧ (∃ c2 j2 k2, TSt E σ9 (ad E a 0) T c2 j2 ∧ (c2 = 0 → gr E σ σ9 b (gI σ b 4) dp ky) ∧ (c2 = 0 → jt + 1 + x9.2 ≤ j2) ∧ lin T 1 93 dp jt (gI σ b 4) k2 x9.1 c2 j2 (gI σ9 b 4))) ?_ (1, 0) σ_s_16 _ _ _ ⟨hO, hF, hH, hS, lv_sub hl [2, 3, 4, 1, 0] rfl, (show rng 1 from ⟨by decide, by decide⟩), (show rng 0 from ⟨by decide, by decide⟩), by first | omega | (dsimp only; omega), by first | omega | (dsimp only; omega), by first | omega | (dsimp only; omega), by first | omega | (dsimp only; omega), ⟨cc_19, jj_20, [], hT_21, fun _ => hk_18 trivial, fun _ => by omega, (lin.start (op := 91) (by unfold brk; omega) (by omega) (by omega) (by omega) (by omega) (by omega)).ec (by omega)⟩⟩
    intro x9 σ_J_163 H locs ls hI9 ihJ_163
    obtain ⟨v4q162, v5q162⟩ := x9
    obtain ⟨hO, hF, hH, hS, hl, rv4q162, rv5q162, J_163_0, J_163_1, J_163_2, J_163_3, J_163_4⟩ := hI9
    have hl : lv_has ls 6 [(0, .ref a), (1, .ref b), (2, .int (I dp)), (4, .int (I v4q162)), (5, .int (I v5q162))] := hl
    have rv4q162 : rng v4q162 := rv4q162
    have rv5q162 : rng v5q162 := rv5q162
    replace J_163_0 : 0 ≤ v4q162 := J_163_0
    replace J_163_1 : v4q162 ≤ 1 := J_163_1
    replace J_163_2 : 0 ≤ v5q162 := J_163_2
    replace J_163_3 : v5q162 ≤ 400 := J_163_3
    replace J_163_4 : ∃ c2 j2 k2, TSt E σ_J_163 (ad E a 0) T c2 j2 ∧ (c2 = 0 → gr E σ σ_J_163 b (gI σ b 4) dp ky) ∧ (c2 = 0 → jt + 1 + v5q162 ≤ j2) ∧ lin T 1 93 dp jt (gI σ b 4) k2 v4q162 c2 j2 (gI σ_J_163 b 4) := J_163_4
    obtain ⟨cc_164, jj_165, kk_166, hT_167, hG_168, hP_169, hL_170⟩ := J_163_4
    have hUhT_167 := hT_167.2.2
    have h0hL_170 := hL_170.c0
    obtain ⟨z_171, e_172, rz_171, lz_171, uz_171⟩ := hO.gi h_b (by decide) k1_4
    have hg_173 := fun (h9 : cc_164 = 0) => (hG_168 h9)
    refine lv_iload hx hb dX1_readList_38 (lv_at hl 3 rfl) ?_
    refine lv_if_eq (tgt := 97) hx hb dX1_readList_40 (by decide) (fun c_174 => ?_) (fun c_174 => ?_)
    · replace c_174 := (I_eq (a := v4q162) (b := 0) rv4q162 (show rng 0 from ⟨by decide, by decide⟩)).mp c_174
      refine lv_aload_n hx hb dX1_readList_97 rfl (lv_at hl 0 rfl) ?_
      refine ok.getR hO h_a (by decide) k10_0 (by decide) (fun _ _ he hv kk => th_get (ci := 1) (C := RX1) (T := TX1) (N := 1) hx hb hts inX1 hown hK hH he rfl 0 (by decide) fl0 hv dX1_readList_98 kk) ?_
      refine lv_bipush (v := I 93) hx hb dX1_readList_101 (by decide) ?_
      obtain ⟨_, hc_175⟩ := hO.cell hp_13 (by decide) (ci := 8) rfl
      refine th_callv (va_runV (As := [.int (I 93)]) (rest := []) ⟨hx, hb, hml, hown, hts⟩ (f_expect l G y b0 σ_J_163 E hO (ad E a 0) hp_13 93 (show rng 93 from (show rng 93 from ⟨by decide, by decide⟩)) (by omega) (by omega) T cc_164 jj_165 hT_167) (cwV 1 hts gX1_readList_X8_expect rfl rfl rfl (by decide +kernel) ⟨(by first | (simp only [headSpec]; omega) | omega | (dsimp only; omega)), (by first | (simp only [headSpec]; omega) | omega | (dsimp only; omega))⟩) (th_PV hK hH rfl hc_175) rfl rfl hl.1 rfl (lv_room (Nat.le_of_ble_eq_true rfl)) dX1_readList_103 ⟨(by first | (simp only [headSpec]; omega) | omega | (dsimp only; omega)), (by first | (simp only [headSpec]; omega) | omega | (dsimp only; omega))⟩) hS (fun σ_s_177 H locs hw_176 hH hS => ?_)
      obtain ⟨hO9, hF9, hw_176⟩ := hw_176
      have e_178 : gI σ_s_177 b 4 = z_171 := (fr.ki hO hF9 h_b (by decide) (by decide) _).trans e_172
      have hk_179 := fun (h9 : cc_164 = 0) => gr.mv hO hF9 h_b (by decide) (hg_173 h9)
      replace hO := hO9
      replace hF := hF.tu hF9 (by decide)
      replace hw_176 : ∃ c1 j1, TSt E σ_s_177 (ad E a 0) T c1 j1 ∧ (cc_164 ≠ 0 → c1 = cc_164 ∧ j1 = jj_165) ∧ (cc_164 = 0 → (tK T jj_165 = 93 ∧ c1 = 0 ∧ j1 = jj_165 + 1) ∨ (tK T jj_165 ≠ 93 ∧ c1 = 1 ∧ j1 = jj_165)) := hw_176
      obtain ⟨cc_180, jj_181, hT_182, hw_176⟩ := hw_176
      have hUhT_182 := hT_182.2.2
      exact th_vret hx hb hr hlocks hH hS ⟨hO, hF, (by first | (exfalso; omega) | exact ⟨cc_180, jj_181, hT_182, (by have h8 := (hL_170.em (mo2 := 0) (by omega)).done hw_176.1 hw_176.2; rw [show (gI σ_J_163 b 4) = gI σ_s_177 b 4 by omega] at h8; exact h8), fun h9 => ⟨by have h8 := hP_169 (by omega); omega, hk_179 (by omega)⟩⟩)⟩ dX1_readList_106
    · replace c_174 := mt (I_eq (a := v4q162) (b := 0) rv4q162 (show rng 0 from ⟨by decide, by decide⟩)).mpr c_174
      refine lv_iload hx hb dX1_readList_43 (lv_at hl 4 rfl) ?_
      refine lv_sipush (v := I 400) hx hb dX1_readList_45 (by decide) ?_
      refine lv_icmp_ge (tgt := 97) hx hb dX1_readList_48 (by decide) (fun c_183 => ?_) (fun c_183 => ?_)
      · replace c_183 := (I_le (a := 400) (b := v5q162) (show rng 400 from ⟨by decide, by decide⟩) rv5q162).mp c_183
        refine lv_aload_n hx hb dX1_readList_97 rfl (lv_at hl 0 rfl) ?_
        refine ok.getR hO h_a (by decide) k10_0 (by decide) (fun _ _ he hv kk => th_get (ci := 1) (C := RX1) (T := TX1) (N := 1) hx hb hts inX1 hown hK hH he rfl 0 (by decide) fl0 hv dX1_readList_98 kk) ?_
        refine lv_bipush (v := I 93) hx hb dX1_readList_101 (by decide) ?_
        obtain ⟨_, hc_184⟩ := hO.cell hp_13 (by decide) (ci := 8) rfl
        refine th_callv (va_runV (As := [.int (I 93)]) (rest := []) ⟨hx, hb, hml, hown, hts⟩ (f_expect l G y b0 σ_J_163 E hO (ad E a 0) hp_13 93 (show rng 93 from (show rng 93 from ⟨by decide, by decide⟩)) (by omega) (by omega) T cc_164 jj_165 hT_167) (cwV 1 hts gX1_readList_X8_expect rfl rfl rfl (by decide +kernel) ⟨(by first | (simp only [headSpec]; omega) | omega | (dsimp only; omega)), (by first | (simp only [headSpec]; omega) | omega | (dsimp only; omega))⟩) (th_PV hK hH rfl hc_184) rfl rfl hl.1 rfl (lv_room (Nat.le_of_ble_eq_true rfl)) dX1_readList_103 ⟨(by first | (simp only [headSpec]; omega) | omega | (dsimp only; omega)), (by first | (simp only [headSpec]; omega) | omega | (dsimp only; omega))⟩) hS (fun σ_s_186 H locs hw_185 hH hS => ?_)
        obtain ⟨hO9, hF9, hw_185⟩ := hw_185
        have e_187 : gI σ_s_186 b 4 = z_171 := (fr.ki hO hF9 h_b (by decide) (by decide) _).trans e_172
        have hk_188 := fun (h9 : cc_164 = 0) => gr.mv hO hF9 h_b (by decide) (hg_173 h9)
        replace hO := hO9
        replace hF := hF.tu hF9 (by decide)
        replace hw_185 : ∃ c1 j1, TSt E σ_s_186 (ad E a 0) T c1 j1 ∧ (cc_164 ≠ 0 → c1 = cc_164 ∧ j1 = jj_165) ∧ (cc_164 = 0 → (tK T jj_165 = 93 ∧ c1 = 0 ∧ j1 = jj_165 + 1) ∨ (tK T jj_165 ≠ 93 ∧ c1 = 1 ∧ j1 = jj_165)) := hw_185
        obtain ⟨cc_189, jj_190, hT_191, hw_185⟩ := hw_185
        have hUhT_191 := hT_191.2.2
        exact th_vret hx hb hr hlocks hH hS ⟨hO, hF, (by first | (exfalso; omega) | exact ⟨cc_189, jj_190, hT_191, (by have h8 := (hL_170.em (mo2 := 0) (by omega)).done hw_185.1 hw_185.2; rw [show (gI σ_J_163 b 4) = gI σ_s_186 b 4 by omega] at h8; exact h8), fun h9 => ⟨by have h8 := hP_169 (by omega); omega, hk_188 (by omega)⟩⟩)⟩ dX1_readList_106
      · replace c_183 := mt (I_le (a := 400) (b := v5q162) (show rng 400 from ⟨by decide, by decide⟩) rv5q162).mpr c_183
        have h0_192 : cc_164 = 0 := by omega
        have hp_193 := hT_167.2.2.2.2.2.2.1 h0_192
        have hp_193j := And.intro hT_167.2.2.1 (And.intro hT_167.2.2.2.1 (And.intro hT_167.2.2.2.2.1 hT_167.2.2.2.2.2.1))
        clear hUhT_167
        refine lv_aload_n hx hb dX1_readList_51 rfl (lv_at hl 0 rfl) ?_
        refine lv_aload_n hx hb dX1_readList_52 rfl (lv_at hl 1 rfl) ?_
        refine lv_iload_n hx hb dX1_readList_53 rfl (lv_at hl 2 rfl) ?_
        refine lv_iconst (v := I 1) hx hb dX1_readList_54 (by decide) ?_
        refine lv_iadd hx hb dX1_readList_55 ?_
        refine nq_top (I_add _ _) ?_
        refine lv_iconst (v := I 0) hx hb dX1_readList_56 (by decide) ?_
        obtain ⟨_, hc_194⟩ := hO.cell h_a (by decide) (ci := 1) rfl
        refine th_callv (va_runV (As := [.ref b, .int (I (dp + 1)), .int (I 0)]) (rest := []) ⟨hx, hb, hml, hown, hts⟩ (ih l G y b0 σ_J_163 E hO a h_a b h_b (dp + 1) (show rng (dp + 1) from ⟨by omega, by omega⟩) (by omega) (by omega) 0 (show rng 0 from (show rng 0 from ⟨by decide, by decide⟩)) T cc_164 jj_165 hT_167 (by omega)) (cwV 3 hts gX1_readList_X1_readThing rfl rfl rfl (by decide +kernel) ⟨(by first | (simp only [headSpec]; omega) | omega | (dsimp only; omega)), (by first | (simp only [headSpec]; omega) | omega | (dsimp only; omega))⟩) (th_PV hK hH rfl hc_194) rfl rfl hl.1 rfl (lv_room (Nat.le_of_ble_eq_true rfl)) dX1_readList_57 ⟨(by first | (simp only [headSpec]; omega) | omega | (dsimp only; omega)), (by first | (simp only [headSpec]; omega) | omega | (dsimp only; omega))⟩) hS (fun σ_s_196 H locs hw_195 hH hS => ?_)
        obtain ⟨hO9, hF9, hw_195⟩ := hw_195
        replace hO := hO9
        replace hF := hF.tu hF9 (by decide)
        replace hw_195 : ∃ c1 j1, TSt E σ_s_196 (ad E a 0) T c1 j1 ∧ (cc_164 ≠ 0 → c1 = cc_164 ∧ j1 = jj_165) ∧ (cc_164 = 0 → PTh T (dp + 1) jj_165 (gI σ_J_163 b 4) c1 j1 (gI σ_s_196 b 4) ∧ (c1 = 0 → jj_165 < j1 ∧ gr E σ_J_163 σ_s_196 b (gI σ_J_163 b 4) (dp + 1) 0)) := hw_195
        obtain ⟨cc_197, jj_198, hT_199, hw_195⟩ := hw_195
        have hUhT_199 := hT_199.2.2
        obtain ⟨z_200, e_201, rz_200, lz_200, uz_200⟩ := hO.gi h_b (by decide) k1_4
        obtain ⟨⟨zz_202, hPt_203, hzz_204⟩, hgr_205⟩ := hw_195.2 (by omega)
        have hpr_206 := fun h9 => (hgr_205 h9).1
        have hg_207 := fun (h9 : cc_197 = 0) => (hg_173 (by omega)).child (hgr_205 h9).2 rfl
        refine lv_aload_n hx hb dX1_readList_60 rfl (lv_at hl 0 rfl) ?_
        refine ok.getR hO h_a (by decide) k10_0 (by decide) (fun _ _ he hv kk => th_get (ci := 1) (C := RX1) (T := TX1) (N := 1) hx hb hts inX1 hown hK hH he rfl 0 (by decide) fl0 hv dX1_readList_61 kk) ?_
        refine ok.getI hO hp_13 (by decide) k3_6 (fun _ _ he hv kk => th_getN (ci := 8) (C := RX8) (T := TX8) (N := 9) hx hb hts inX8 hown hK hH he rfl 6 (by decide) (nl_4 hK) hv dX1_readList_64 kk) (fun z_208 e_209 rz_208 lz_208 uz_208 => ?_)
        refine lv_bipush (v := I 44) hx hb dX1_readList_67 (by decide) ?_
        refine lv_icmp_ne (tgt := 76) hx hb dX1_readList_69 (by decide) (fun c_210 => ?_) (fun c_210 => ?_)
        · replace c_210 := mt (I_eq (a := z_208) (b := 44) rz_208 (show rng 44 from ⟨by decide, by decide⟩)).mpr c_210
          refine lv_iconst (v := I 0) hx hb dX1_readList_76 (by decide) ?_
          refine lv_istore (lv' := [(4, .int (I 0)), (0, .ref a), (1, .ref b), (2, .int (I dp)), (5, .int (I v5q162))]) hx hb dX1_readList_77 hl (by decide) rfl (fun ls hl => ?_)
          refine lv_iload hx hb dX1_readList_79 (lv_at hl 0 rfl) ?_
          refine lv_if_eq (tgt := 91) hx hb dX1_readList_81 (by decide) (fun _ => ?_) (fun c_211 => absurd (by decide) c_211)
          refine lv_iinc (v := I (v5q162 + 1)) (lv' := [(5, .int (I (v5q162 + 1))), (4, .int (I 0)), (0, .ref a), (1, .ref b), (2, .int (I dp))]) hx hb dX1_readList_91 hl (k := 4) rfl (I_add _ _) (by decide) rfl (fun ls hl => ?_)
          refine lv_goto (tgt := 38) hx hb dX1_readList_94 (by decide) ?_
          exact ihJ_163 (0, v5q162 + 1) σ_s_196 _ _ _ (by first | omega | (dsimp only; omega)) ⟨hO, hF, hH, hS, lv_sub hl [2, 3, 4, 1, 0] rfl, (show rng 0 from ⟨by decide, by decide⟩), ⟨by first | omega | (dsimp only; omega), by first | omega | (dsimp only; omega)⟩, by first | omega | (dsimp only; omega), by first | omega | (dsimp only; omega), by first | omega | (dsimp only; omega), by first | omega | (dsimp only; omega), ⟨cc_197, jj_198, kk_166 ++ [0], hT_199, fun h9 => hg_207 (by omega), fun h9 => by have h8 := hpr_206 (by omega); have h7 := hP_169 (by omega); omega, (lin.item (op := 91) (z := zz_202) (by unfold brk; omega) (hL_170.em (by omega)) kyR.list hPt_203 (fun h9 => by have h8 := hzz_204 h9; omega) (by omega)).ec (by omega)⟩⟩
        · replace c_210 := (I_eq (a := z_208) (b := 44) rz_208 (show rng 44 from ⟨by decide, by decide⟩)).mp c_210
          have h0_212 : cc_197 = 0 := by omega
          have hp_213 := hT_199.2.2.2.2.2.2.1 h0_212
          have hp_213j := And.intro hT_199.2.2.1 (And.intro hT_199.2.2.2.1 (And.intro hT_199.2.2.2.2.1 hT_199.2.2.2.2.2.1))
          clear hUhT_199
          refine lv_iconst (v := I 1) hx hb dX1_readList_72 (by decide) ?_
          refine lv_goto (tgt := 77) hx hb dX1_readList_73 (by decide) ?_
          refine lv_istore (lv' := [(4, .int (I 1)), (0, .ref a), (1, .ref b), (2, .int (I dp)), (5, .int (I v5q162))]) hx hb dX1_readList_77 hl (by decide) rfl (fun ls hl => ?_)
          refine lv_iload hx hb dX1_readList_79 (lv_at hl 0 rfl) ?_
          refine lv_if_eq (tgt := 91) hx hb dX1_readList_81 (by decide) (fun c_214 => absurd c_214 (by decide)) (fun _ => ?_)
          refine lv_aload_n hx hb dX1_readList_84 rfl (lv_at hl 1 rfl) ?_
          refine ok.getR hO h_a (by decide) k10_0 (by decide) (fun _ _ he hv kk => th_get (ci := 1) (C := RX1) (T := TX1) (N := 1) hx hb hts inX1 hown hK hH he rfl 0 (by decide) fl0 hv dX1_readList_85 kk) ?_
          obtain ⟨_, hc_215⟩ := hO.cell hp_13 (by decide) (ci := 8) rfl
          refine th_callv (va_runV (As := []) (rest := []) ⟨hx, hb, hml, hown, hts⟩ (f_step l G y b0 σ_s_196 E hO (ad E a 0) hp_13 T cc_197 jj_198 hT_199) (cwV 0 hts gX1_readList_X8_step rfl rfl rfl (by decide +kernel) ⟨(by first | (simp only [headSpec]; omega) | omega | (dsimp only; omega)), (by first | (simp only [headSpec]; omega) | omega | (dsimp only; omega))⟩) (th_PV hK hH rfl hc_215) rfl rfl hl.1 rfl (lv_room (Nat.le_of_ble_eq_true rfl)) dX1_readList_88 ⟨(by first | (simp only [headSpec]; omega) | omega | (dsimp only; omega)), (by first | (simp only [headSpec]; omega) | omega | (dsimp only; omega))⟩) hS (fun σ_s_217 H locs hw_216 hH hS => ?_)
          obtain ⟨hO9, hF9, hw_216⟩ := hw_216
          have e_218 : gI σ_s_217 b 4 = z_200 := (fr.ki hO hF9 h_b (by decide) (by decide) _).trans e_201
          have hk_219 := fun (h9 : cc_197 = 0) => gr.mv hO hF9 h_b (by decide) (hg_207 h9)
          replace hO := hO9
          replace hF := hF.tu hF9 (by decide)
          replace hw_216 : ∃ c1 j1, TSt E σ_s_217 (ad E a 0) T c1 j1 ∧ c1 = cc_197 ∧ (cc_197 ≠ 0 → j1 = jj_198) ∧ (cc_197 = 0 → tK T jj_198 ≠ 259 → j1 = jj_198 + 1) := hw_216
          obtain ⟨cc_220, jj_221, hT_222, hw_216⟩ := hw_216
          have hUhT_222 := hT_222.2.2
          have hw_216j : jj_221 = jj_198 + 1 := by omega
          have h0_223 : cc_220 = 0 := by omega
          have hp_224 := hT_222.2.2.2.2.2.2.1 h0_223
          have hp_224j := And.intro hT_222.2.2.1 (And.intro hT_222.2.2.2.1 (And.intro hT_222.2.2.2.2.1 hT_222.2.2.2.2.2.1))
          clear hUhT_222
          clear hw_216
          refine lv_iinc (v := I (v5q162 + 1)) (lv' := [(5, .int (I (v5q162 + 1))), (4, .int (I 1)), (0, .ref a), (1, .ref b), (2, .int (I dp))]) hx hb dX1_readList_91 hl (k := 4) rfl (I_add _ _) (by decide) rfl (fun ls hl => ?_)
          refine lv_goto (tgt := 38) hx hb dX1_readList_94 (by decide) ?_
          exact ihJ_163 (1, v5q162 + 1) σ_s_217 _ _ _ (by first | omega | (dsimp only; omega)) ⟨hO, hF, hH, hS, lv_sub hl [2, 3, 4, 1, 0] rfl, (show rng 1 from ⟨by decide, by decide⟩), ⟨by first | omega | (dsimp only; omega), by first | omega | (dsimp only; omega)⟩, by first | omega | (dsimp only; omega), by first | omega | (dsimp only; omega), by first | omega | (dsimp only; omega), by first | omega | (dsimp only; omega), ⟨cc_220, jj_221, kk_166 ++ [0], hT_222, fun h9 => hk_219 (by omega), fun h9 => by have h8 := hpr_206 (by omega); have h7 := hP_169 (by omega); omega, (lin.item (op := 91) (z := zz_202) (by unfold brk; omega) (hL_170.em (by omega)) kyR.list hPt_203 (fun h9 => by have h8 := hzz_204 h9; omega) (by omega)).ec (by omega)⟩⟩
