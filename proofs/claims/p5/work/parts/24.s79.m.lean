set_option maxHeartbeats 20000000 in
set_option maxRecDepth 100000 in
theorem n_readMany (n : Nat) (ih : ∀ (l : Launch) (G : va_G) (y : Nat → ClassId) (b0 : Nat) (σ : th_M) (E : th_E) (hO : ok y E σ) (a : Nat) (h_a : kd E a = 13) (ky : Int) (rky : rng ky) (dp : Int) (rdp : rng dp) (l_dp : 0 ≤ dp) (u_dp : dp ≤ 8) (f2 : Nat → Int32) (ef2 : aF σ (ad E a 2) = f2) (Bf : Int → Int) (hsr : sr E σ a Bf) (T : tkT) (hSt : tkSt Bf T) (fc jt : Int) (hR0 : RSt σ a T fc jt) (hy0 : 0 ≤ gI σ a 17 ∧ gI σ a 17 ≤ gI σ a 13 ∧ gI σ a 13 ≤ gI σ a 11 ∧ gI σ a 11 ≤ 400) (hy1 : gI σ a 19 = 0) (hn : (8 - dp).toNat < n), Met l yX11_readThing wsX11_readThing ({ frames := 4*n+12, cells := 0, slots := 0, locals := (120*n+900) }) (th_P G y b0 σ [.ref a, .int (I ky), .int (I dp)]) (th_Qv G b0 (fun σ1 => ok y E σ1 ∧ fr [13] E σ σ1 ∧ fm [13, 14, 15, 16, 17, 18, 19, 20, 2, 22] E σ σ1 a ∧ ((((gI σ a 13 ≤ gI σ1 a 13 ∧ gI σ1 a 13 ≤ gI σ a 11 ∧ 0 ≤ gI σ1 a 17 ∧ gI σ1 a 17 ≤ gI σ1 a 13) ∧ pgo (gI σ1 a 19) (gI σ1 a 14) (gI σ a 13) (gI σ1 a 13)) ∧ gI σ a 22 ≤ gI σ1 a 22 ∧ (¬ gI σ1 a 19 = 0 ∨ rdT f2 (aF σ1 (ad E a 2)) (gI σ a 22) (gI σ1 a 22) ky dp)) ∧ ∃ c1 j1, RSt σ1 a T c1 j1 ∧ PTh T dp jt (gI σ a 22) c1 j1 (gI σ1 a 22)))) 0 0 (th_A b0)) (l : Launch) (G : va_G) (y : Nat → ClassId) (b0 : Nat) (σ : th_M) (E : th_E) (hO : ok y E σ) (a : Nat) (h_a : kd E a = 13) (k : Int) (rk : rng k) (l_k : 0 ≤ k) (u_k : k ≤ 236) (dp : Int) (rdp : rng dp) (l_dp : 0 ≤ dp) (u_dp : dp ≤ 7) (en : Int) (ren : rng en) (f2 : Nat → Int32) (ef2 : aF σ (ad E a 2) = f2) (Bf : Int → Int) (hsr : sr E σ a Bf) (T : tkT) (hSt : tkSt Bf T) (fc jt : Int) (hR0 : RSt σ a T fc jt) (md : Int) (hy0 : 0 ≤ gI σ a 17 ∧ gI σ a 17 ≤ gI σ a 13 ∧ gI σ a 13 ≤ gI σ a 11 ∧ gI σ a 11 ≤ 400) (hy1 : k % 4 = 0) (hy2 : k / 4 + 1 = gI σ a 22) (hy3 : (8 - dp).toNat < n + 1) (hy4 : fc = 0) (hy5 : (mK f2 (k / 4) = 3 ∧ en = 125 ∧ md = 2 ∧ tK T jt = 123) ∨ (mK f2 (k / 4) = 2 ∧ en = 93 ∧ md = 1 ∧ tK T jt = 91)) : Met l yX11_readMany wsX11_readMany ({ frames := 4*n+14, cells := 0, slots := 0, locals := (120*n+960) }) (th_P G y b0 σ [.ref a, .int (I k), .int (I dp), .int (I en)]) (th_Qv G b0 (fun σ1 => ok y E σ1 ∧ fr [13] E σ σ1 ∧ fm [13, 14, 15, 16, 17, 18, 19, 20, 2, 22] E σ σ1 a ∧ ((((gI σ a 13 ≤ gI σ1 a 13 ∧ gI σ1 a 13 ≤ gI σ a 11 ∧ 0 ≤ gI σ1 a 17 ∧ gI σ1 a 17 ≤ gI σ1 a 13) ∧ pgo (gI σ1 a 19) (gI σ1 a 14) (gI σ a 13) (gI σ1 a 13)) ∧ gI σ a 22 ≤ gI σ1 a 22 ∧ (¬ gI σ1 a 19 = 0 ∨ rdF f2 (aF σ1 (ad E a 2)) (k / 4) (gI σ1 a 22) dp)) ∧ ∃ c1 j1, RSt σ1 a T c1 j1 ∧ PTh T dp jt (k / 4) c1 j1 (gI σ1 a 22)))) 0 0 (th_A b0) := by
  refine Met.ofW (cc := cX11_readMany) (maxL := 6) (ret := none) (by decide) rfl ?_
  intro p e s m args below meth c s₁ B hml hv
  obtain ⟨rfl, hH, hK⟩ := hv
  have hx := B.exec
  have hb := B.bytes
  have hr := B.returns
  have hts := atoms_spec (ws := wsX11_readMany) B.pre
  have hown : s.vm.findClass RX11 = some m.cls := findClass_of_methodNamed B.named
  have hlocks := B.notSynchronized
  have h00 : b0 ≤ s.heap.size := hH.1
  have hS : va_S (th_A b0) s.heap s.heap [] := va_S.rf
  have hF : fr [13] E σ σ := fr.rf
  have hM : fm [13, 14, 15, 16, 17, 18, 19, 20, 2, 22] E σ σ a := fm.rf
  have hbk9 : brk md (tK T jt) en := by unfold brk; omega
  have hen9 : 0 ≤ en ∧ en ≤ 255 := by omega
  have inX11 : ∀ w ∈ wsX110, w ∈ wsX11_readMany := by decide +kernel
  have fl0 := hts (.fieldLink RX11 162 "NestQueryModel" "bad" "I") (by decide +kernel)
  have fl1 := hts (.fieldLink RX11 13 "NestQueryModel" "data" "[I") (by decide +kernel)
  have hl := lv_entry ([.ref a, .int (I k), .int (I dp), .int (I en)]) (n := 6) (Nat.le_of_ble_eq_true rfl)
  rw [lg_entry_eq]
  generalize (lg_sl ([.ref a, .int (I k), .int (I dp), .int (I en)]) ++ List.replicate (6 - (lg_sl ([.ref a, .int (I k), .int (I dp), .int (I en)])).length) Slot.unset).toArray = ls at hl ⊢
  have hl : lv_has ls 6 [(0, .ref a), (1, .int (I k)), (2, .int (I dp)), (3, .int (I en))] := hl
  obtain ⟨a110, ea110, ra110, la110, ua110⟩ := hO.gi h_a (by decide) k13_11
  obtain ⟨a130, ea130, ra130, la130, ua130⟩ := hO.gi h_a (by decide) k13_13
  obtain ⟨a140, ea140, ra140, la140, ua140⟩ := hO.gi h_a (by decide) k13_14
  obtain ⟨a170, ea170, ra170, la170, ua170⟩ := hO.gi h_a (by decide) k13_17
  obtain ⟨a190, ea190, ra190, la190, ua190⟩ := hO.gi h_a (by decide) k13_19
  obtain ⟨a220, ea220, ra220, la220, ua220⟩ := hO.gi h_a (by decide) k13_22
  have hV0 := hR0.1
  have h0_1 : fc = 0 := by omega
  try simp only [h0_1, ne_eq, not_true_eq_false, not_false_eq_true, false_implies, true_implies, true_and, and_true, eq_self, false_or, or_false, false_and, and_false] at hV0
  refine lv_aload_n hx hb dX11_readMany_0 rfl (lv_at hl 0 rfl) ?_
  obtain ⟨_, hc_2⟩ := hO.cell h_a (by decide) (ci := 11) rfl
  refine th_callv (va_runV (As := []) (rest := []) ⟨hx, hb, hml, hown, hts⟩ (n_pass l G y b0 σ E hO a h_a Bf hsr T hSt fc jt hR0 (by omega) (by omega)) (cwV 0 hts gX11_readMany_X11_pass rfl rfl rfl (by decide +kernel) ⟨(by first | exact fr_q (by decide) | exact fr_r (by decide) | exact fr_s (by decide) | (simp only [headSpec]; omega) | omega | (dsimp only; omega)), (by first | exact fr_q (by decide) | exact fr_r (by decide) | exact fr_s (by decide) | (simp only [headSpec]; omega) | omega | (dsimp only; omega))⟩) (th_PV hK hH rfl hc_2) rfl rfl hl.1 rfl (lv_room (Nat.le_of_ble_eq_true rfl)) dX11_readMany_1 ⟨(by first | exact fr_q (by decide) | exact fr_r (by decide) | exact fr_s (by decide) | (simp only [headSpec]; omega) | omega | (dsimp only; omega)), (by first | exact fr_q (by decide) | exact fr_r (by decide) | exact fr_s (by decide) | (simp only [headSpec]; omega) | omega | (dsimp only; omega))⟩) hS (fun σ_s_4 H locs hw_3 hH hS => ?_)
  obtain ⟨hO9, hF9, hM9, hw_3⟩ := hw_3
  replace hM := hM.tu hM9 (by decide)
  replace hF := hF.tu hF9 (by decide)
  have e_5 : aF σ_s_4 (ad E a 2) = f2 := (hM9.a (by decide) (by decide)).trans ef2
  have e_6 : gI σ_s_4 a 11 = a110 := (hM9.i (by decide)).trans ea110
  have e_7 : gI σ_s_4 a 19 = a190 := (hM9.i (by decide)).trans ea190
  have e_8 : gI σ_s_4 a 22 = a220 := (hM9.i (by decide)).trans ea220
  replace hsr := hsr.mv hM9 (by decide) (by decide) (by decide) (by decide) (by decide)
  replace hO := hO9
  replace hw_3 : ((gI σ a 13 ≤ gI σ_s_4 a 13 ∧ gI σ_s_4 a 13 ≤ gI σ a 11 ∧ 0 ≤ gI σ_s_4 a 17 ∧ gI σ_s_4 a 17 ≤ gI σ_s_4 a 13) ∧ pgo (gI σ_s_4 a 19) (gI σ_s_4 a 14) (gI σ a 13) (gI σ_s_4 a 13) ∧ gI σ_s_4 a 19 = gI σ a 19) ∧ ∃ c1 j1, RSt σ_s_4 a T c1 j1 ∧ (c1 = fc ∧ (fc ≠ 0 → j1 = jt) ∧ (fc = 0 → j1 = jt + 1)) := hw_3
  replace hV0 := hid.mk hV0
  have hn_9 := hw_3.2
  replace hw_3 := hw_3.1
  obtain ⟨cc_10, jj_11, hR_12, hn_9⟩ := hn_9
  have hVhR_12 := hR_12.1
  have h0_13 : cc_10 = 0 := by omega
  try simp only [h0_13, ne_eq, not_true_eq_false, not_false_eq_true, false_implies, true_implies, true_and, and_true, eq_self, false_or, or_false, false_and, and_false] at hVhR_12
  try simp only [h0_1, h0_13, ne_eq, not_true_eq_false, not_false_eq_true, false_implies, true_implies, true_and, and_true, eq_self, false_or, or_false, false_and, and_false] at hn_9
  have hj9 : jt + 1 = jj_11 := by omega
  subst hj9
  refine lv_aload_n hx hb dX11_readMany_4 rfl (lv_at hl 0 rfl) ?_
  refine lv_iload_n hx hb dX11_readMany_5 rfl (lv_at hl 3 rfl) ?_
  obtain ⟨_, hc_14⟩ := hO.cell h_a (by decide) (ci := 11) rfl
  refine th_calli (va_runV (As := [.int (I en)]) (rest := []) ⟨hx, hb, hml, hown, hts⟩ (n_isMarked l G y b0 σ_s_4 E hO a h_a en (show rng en from ren) (by omega) (by omega) Bf hsr T hSt cc_10 (jt + 1) hR_12 (by omega)) (cwV 1 hts gX11_readMany_X11_isMarked rfl rfl rfl (by decide +kernel) ⟨(by first | exact fr_q (by decide) | exact fr_r (by decide) | exact fr_s (by decide) | (simp only [headSpec]; omega) | omega | (dsimp only; omega)), (by first | exact fr_q (by decide) | exact fr_r (by decide) | exact fr_s (by decide) | (simp only [headSpec]; omega) | omega | (dsimp only; omega))⟩) (th_PV hK hH rfl hc_14) rfl rfl hl.1 rfl (lv_room (Nat.le_of_ble_eq_true rfl)) dX11_readMany_6 ⟨(by first | exact fr_q (by decide) | exact fr_r (by decide) | exact fr_s (by decide) | (simp only [headSpec]; omega) | omega | (dsimp only; omega)), (by first | exact fr_q (by decide) | exact fr_r (by decide) | exact fr_s (by decide) | (simp only [headSpec]; omega) | omega | (dsimp only; omega))⟩) hS (fun z_17 σ_s_16 H locs rz_17 hw_15 hH hS => ?_)
  obtain ⟨e9, bhw_15, hw_15⟩ := hw_15
  replace e9 := e9.symm
  subst e9
  replace hw_15 : (z_17 = 1 ∧ cc_10 = 0 ∧ tK T (jt + 1) = en) ∨ (z_17 = 0 ∧ (cc_10 ≠ 0 ∨ tK T (jt + 1) ≠ en)) := hw_15
  have hb_18 := hw_3.1
  replace hw_3 := hid.mk hw_3
  replace hn_9 := hid.mk hn_9
  refine lv_if_eq (tgt := 17) hx hb dX11_readMany_9 (by decide) (fun c_19 => ?_) (fun c_19 => ?_)
  · replace c_19 := (I_eq (a := z_17) (b := 0) rz_17 (show rng 0 from ⟨by decide, by decide⟩)).mp c_19
    refine lv_iconst (v := I 1) hx hb dX11_readMany_17 (by decide) ?_
    refine lv_istore (lv' := [(4, .int (I 1)), (0, .ref a), (1, .int (I k)), (2, .int (I dp)), (3, .int (I en))]) hx hb dX11_readMany_18 hl (by decide) rfl (fun ls hl => ?_)
    obtain ⟨z_20, e_21, rz_20, lz_20, uz_20⟩ := hO.gi h_a (by decide) k13_13
    refine th_loop (α := Int × Int × Int × (Nat → Int32)) (pc := 20) (fun x9 => (2 * (gI σ a 11 - x9.2.1) + x9.1).toNat) (fun x9 σ9 H9 l9 ls9 => ok y E σ9 ∧ fr [13] E σ σ9 ∧ fm [13, 14, 15, 16, 17, 18, 19, 20, 2, 22] E σ σ9 a ∧ sr E σ9 a Bf ∧ th_H G b0 σ9 H9 ∧ va_S (th_A b0) s.heap H9 l9 ∧ lv_has ls9 6 [(0, .ref a), (1, .int (I k)), (2, .int (I dp)), (3, .int (I en)), (4, .int (I x9.1))] ∧ rng x9.1 ∧ rng x9.2.1 ∧ rng x9.2.2.1 ∧ (gI σ a 13 ≤ x9.2.1) ∧ (x9.2.1 ≤ gI σ a 11) ∧ (0 ≤ gI σ9 a 17) ∧ (gI σ9 a 17 ≤ x9.2.1) ∧ (k / 4 + 1 ≤ x9.2.2.1) ∧ (x9.2.2.1 ≤ 60) ∧ (0 ≤ x9.1) ∧ (x9.1 ≤ 1) ∧ (pgo (gI σ9 a 19) (gI σ9 a 14) (gI σ a 13) x9.2.1) ∧ (0 ≤ x9.2.2.1) ∧ (¬ gI σ9 a 19 = 0 ∨ rdF f2 x9.2.2.2 (k / 4) x9.2.2.1 dp) ∧ (∃ c2 j2 k2, RSt σ9 a T c2 j2 ∧ (c2 = 0 → krl x9.2.2.2 (k / 4) x9.2.2.1 k2) ∧ lin T md en dp jt (k / 4) k2 x9.1 c2 j2 x9.2.2.1) ∧ (gI σ9 a 11 = a110) ∧ (aF σ9 (ad E a 2) = x9.2.2.2) ∧ (gI σ9 a 13 = x9.2.1) ∧ (gI σ9 a 22 = x9.2.2.1)) ?_ (1, z_20, a220, f2) σ_s_4 _ _ _ ⟨hO, hF, hM, hsr, hH, hS, lv_sub hl [1, 2, 3, 4, 0] rfl, (show rng 1 from ⟨by decide, by decide⟩), rz_20, ra220, by first | (dsimp only; omega) | omega, by first | (dsimp only; omega) | omega, by first | (dsimp only; omega) | omega, by first | (dsimp only; omega) | omega, by first | (dsimp only; omega) | omega, by first | (dsimp only; omega) | omega, by first | (dsimp only; omega) | omega, by first | (dsimp only; omega) | omega, (by have h7 := hw_3.2.1; unfold pgo at h7 ⊢; first | (dsimp only; omega) | omega), by first | (dsimp only; omega) | omega, (Or.inr (by rw [show a220 = k / 4 + 1 by omega]; exact rdF.zero same.rf)), ⟨cc_10, jt + 1, [], hR_12, fun _ => (by rw [show a220 = k / 4 + 1 by omega]; exact krl.zero), (lin.start (op := tK T jt) (mo := 1) hbk9 rfl (by omega) (by omega) (by first | (dsimp only; omega) | omega) (by omega)).ec (by omega)⟩, e_6, e_5, e_21, e_8⟩
    intro x9 σ_J_230 H locs ls hI9 ihJ_230
    obtain ⟨v4q229, G13q227, G22q228, F2q226⟩ := x9
    obtain ⟨hO, hF, hM, hsr, hH, hS, hl, rv4q229, rG13q227, rG22q228, J_230_0, J_230_1, J_230_2, J_230_3, J_230_4, J_230_5, J_230_6, J_230_7, J_230_8, J_230_9, J_230_10, J_230_11, J_230_12, J_230_13, J_230_14, J_230_15⟩ := hI9
    have hl : lv_has ls 6 [(0, .ref a), (1, .int (I k)), (2, .int (I dp)), (3, .int (I en)), (4, .int (I v4q229))] := hl
    have rv4q229 : rng v4q229 := rv4q229
    have rG13q227 : rng G13q227 := rG13q227
    have rG22q228 : rng G22q228 := rG22q228
    replace J_230_0 : gI σ a 13 ≤ G13q227 := J_230_0
    replace J_230_1 : G13q227 ≤ gI σ a 11 := J_230_1
    replace J_230_2 : 0 ≤ gI σ_J_230 a 17 := J_230_2
    replace J_230_3 : gI σ_J_230 a 17 ≤ G13q227 := J_230_3
    replace J_230_4 : k / 4 + 1 ≤ G22q228 := J_230_4
    replace J_230_5 : G22q228 ≤ 60 := J_230_5
    replace J_230_6 : 0 ≤ v4q229 := J_230_6
    replace J_230_7 : v4q229 ≤ 1 := J_230_7
    replace J_230_8 : pgo (gI σ_J_230 a 19) (gI σ_J_230 a 14) (gI σ a 13) G13q227 := J_230_8
    replace J_230_9 : 0 ≤ G22q228 := J_230_9
    replace J_230_10 : ¬ gI σ_J_230 a 19 = 0 ∨ rdF f2 F2q226 (k / 4) G22q228 dp := J_230_10
    replace J_230_11 : ∃ c2 j2 k2, RSt σ_J_230 a T c2 j2 ∧ (c2 = 0 → krl F2q226 (k / 4) G22q228 k2) ∧ lin T md en dp jt (k / 4) k2 v4q229 c2 j2 G22q228 := J_230_11
    replace J_230_12 : gI σ_J_230 a 11 = a110 := J_230_12
    replace J_230_13 : aF σ_J_230 (ad E a 2) = F2q226 := J_230_13
    replace J_230_14 : gI σ_J_230 a 13 = G13q227 := J_230_14
    replace J_230_15 : gI σ_J_230 a 22 = G22q228 := J_230_15
    obtain ⟨cc_231, jj_232, kk_233, hR_234, hk_235, hL_236⟩ := J_230_11
    have hVhR_234 := hR_234.1
    have h0hL_236 := hL_236.c0
    replace hVhR_12 := hid.mk hVhR_12
    replace hw_15 := hid.mk hw_15
    replace hy5 := hid.mk hy5
    replace J_230_10 := hid.mk J_230_10
    refine lv_iload hx hb dX11_readMany_20 (lv_at hl 4 rfl) ?_
    refine lv_if_eq (tgt := 89) hx hb dX11_readMany_22 (by decide) (fun c_237 => ?_) (fun c_237 => ?_)
    · replace c_237 := (I_eq (a := v4q229) (b := 0) rv4q229 (show rng 0 from ⟨by decide, by decide⟩)).mp c_237
      refine lv_aload_n hx hb dX11_readMany_89 rfl (lv_at hl 0 rfl) ?_
      refine lv_iload_n hx hb dX11_readMany_90 rfl (lv_at hl 3 rfl) ?_
      obtain ⟨_, hc_238⟩ := hO.cell h_a (by decide) (ci := 11) rfl
      refine th_callv (va_runV (As := [.int (I en)]) (rest := []) ⟨hx, hb, hml, hown, hts⟩ (n_need l G y b0 σ_J_230 E hO a h_a en (show rng en from ren) (by omega) (by omega) Bf hsr T hSt cc_231 jj_232 hR_234 (by omega)) (cwV 1 hts gX11_readMany_X11_need rfl rfl rfl (by decide +kernel) ⟨(by first | exact fr_q (by decide) | exact fr_r (by decide) | exact fr_s (by decide) | (simp only [headSpec]; omega) | omega | (dsimp only; omega)), (by first | exact fr_q (by decide) | exact fr_r (by decide) | exact fr_s (by decide) | (simp only [headSpec]; omega) | omega | (dsimp only; omega))⟩) (th_PV hK hH rfl hc_238) rfl rfl hl.1 rfl (lv_room (Nat.le_of_ble_eq_true rfl)) dX11_readMany_91 ⟨(by first | exact fr_q (by decide) | exact fr_r (by decide) | exact fr_s (by decide) | (simp only [headSpec]; omega) | omega | (dsimp only; omega)), (by first | exact fr_q (by decide) | exact fr_r (by decide) | exact fr_s (by decide) | (simp only [headSpec]; omega) | omega | (dsimp only; omega))⟩) hS (fun σ_s_240 H locs hw_239 hH hS => ?_)
      obtain ⟨hO9, hF9, hM9, hw_239⟩ := hw_239
      replace hM := hM.tu hM9 (by decide)
      replace hF := hF.tu hF9 (by decide)
      have e_241 : gI σ_s_240 a 11 = a110 := (hM9.i (by decide)).trans J_230_12
      have e_242 : aF σ_s_240 (ad E a 2) = F2q226 := (hM9.a (by decide) (by decide)).trans J_230_13
      have e_243 : gI σ_s_240 a 22 = G22q228 := (hM9.i (by decide)).trans J_230_15
      replace hsr := hsr.mv hM9 (by decide) (by decide) (by decide) (by decide) (by decide)
      replace hO := hO9
      replace hw_239 : ((gI σ_J_230 a 13 ≤ gI σ_s_240 a 13 ∧ gI σ_s_240 a 13 ≤ gI σ_J_230 a 11 ∧ 0 ≤ gI σ_s_240 a 17 ∧ gI σ_s_240 a 17 ≤ gI σ_s_240 a 13) ∧ pgo (gI σ_s_240 a 19) (gI σ_s_240 a 14) (gI σ_J_230 a 13) (gI σ_s_240 a 13) ∧ bdo (gI σ_J_230 a 19) (gI σ_s_240 a 19)) ∧ ∃ c1 j1, RSt σ_s_240 a T c1 j1 ∧ ((cc_231 ≠ 0 → c1 = cc_231 ∧ j1 = jj_232) ∧ (cc_231 = 0 → (tK T jj_232 = en ∧ c1 = 0 ∧ j1 = jj_232 + 1) ∨ (tK T jj_232 ≠ en ∧ c1 = 1 ∧ j1 = jj_232))) := hw_239
      replace hVhR_234 := hid.mk hVhR_234
      have hn_244 := hw_239.2
      replace hw_239 := hw_239.1
      obtain ⟨cc_245, jj_246, hR_247, hn_244⟩ := hn_244
      have hVhR_247 := hR_247.1
      try simp only [h0_1, h0_13, ne_eq, not_true_eq_false, not_false_eq_true, false_implies, true_implies, true_and, and_true, eq_self, false_or, or_false, false_and, and_false] at hn_244
      exact th_vret hx hb hr hlocks hH hS ⟨hO, hF, hM, ⟨⟨⟨by omega, pgo.of (by have h7 := J_230_8; have h8 := hw_239.2.1; have h6 := hw_239.2.2; unfold pgo at h7 h8; unfold bdo at h6; omega)⟩, by omega, (J_230_10).elim (fun h9 => Or.inl (by have h6 := hw_239.2; unfold bdo at h6; omega)) (fun h9 => Or.inr (by rw [show gI σ_s_240 a 22 = G22q228 by omega, show aF σ_s_240 (ad E a 2) = F2q226 from e_242]; exact h9))⟩, cc_245, jj_246, hR_247, (by have h9 := (hL_236.em (mo2 := 0) (by omega)).done hn_244.1 hn_244.2; rw [show G22q228 = gI σ_s_240 a 22 by omega] at h9; exact h9)⟩⟩ dX11_readMany_94
    · replace c_237 := mt (I_eq (a := v4q229) (b := 0) rv4q229 (show rng 0 from ⟨by decide, by decide⟩)).mpr c_237
      have h0_248 : cc_231 = 0 := by omega
      try simp only [h0_248, ne_eq, not_true_eq_false, not_false_eq_true, false_implies, true_implies, true_and, and_true, eq_self, false_or, or_false, false_and, and_false] at hVhR_234
      refine lv_aload_n hx hb dX11_readMany_25 rfl (lv_at hl 0 rfl) ?_
      refine ok.getI hO h_a (by decide) k13_19 (fun _ _ he hv kk => th_get (ci := 11) (C := RX11) (T := TX11) (N := 66) hx hb hts inX11 hown hK hH he rfl 19 (by decide) fl0 hv dX11_readMany_26 kk) (fun z_249 e_250 rz_249 lz_249 uz_249 => ?_)
      refine lv_if_ne (tgt := 89) hx hb dX11_readMany_29 (by decide) (fun c_251 => ?_) (fun c_251 => ?_)
      · replace c_251 := mt (I_eq (a := z_249) (b := 0) rz_249 (show rng 0 from ⟨by decide, by decide⟩)).mpr c_251
        exfalso; omega
      · replace c_251 := (I_eq (a := z_249) (b := 0) rz_249 (show rng 0 from ⟨by decide, by decide⟩)).mp c_251
        have hR9 := (J_230_10).resolve_left (by omega)
        have hK9 := hR9.k (by omega)
        refine lv_aload_n hx hb dX11_readMany_32 rfl (lv_at hl 0 rfl) ?_
        refine ok.getR hO h_a (by decide) k13_2 (by decide) (fun _ _ he hv kk => th_get (ci := 11) (C := RX11) (T := TX11) (N := 66) hx hb hts inX11 hown hK hH he rfl 2 (by decide) fl1 hv dX11_readMany_33 kk) ?_
        refine lv_iload_n hx hb dX11_readMany_36 rfl (lv_at hl 1 rfl) ?_
        refine m_iald hx hb hK hH hO h_a k13_2 isA1 J_230_13 rk (by omega) (by omega) dX11_readMany_37 (fun z_252 ez_252 rz_252 elx9 => ?_)
        have hK8 : mK F2q226 (k / 4) = z_252 := (by unfold mK; rw [show 4 * (k / 4) = k by omega]; exact ez_252)
        have hmd9 : (z_252 = 3 ∧ md = 2) ∨ (z_252 = 2 ∧ md = 1) := by
          have h9 : (mK f2 (k / 4) = 3 ∧ en = 125 ∧ md = 2 ∧ tK T jt = 123) ∨ (mK f2 (k / 4) = 2 ∧ en = 93 ∧ md = 1 ∧ tK T jt = 91) := hy5
          rw [← hK9, hK8] at h9
          clear hK8 hK9
          omega
        refine lv_iconst (v := I 3) hx hb dX11_readMany_38 (by decide) ?_
        refine lv_icmp_ne (tgt := 50) hx hb dX11_readMany_39 (by decide) (fun c_253 => ?_) (fun c_253 => ?_)
        · replace c_253 := mt (I_eq (a := z_252) (b := 3) rz_252 (show rng 3 from ⟨by decide, by decide⟩)).mpr c_253
          replace hmd9 : md = 1 := by omega
          refine lv_iconst (v := I 0) hx hb dX11_readMany_50 (by decide) ?_
          refine lv_istore (lv' := [(5, .int (I 0)), (0, .ref a), (1, .int (I k)), (2, .int (I dp)), (3, .int (I en)), (4, .int (I v4q229))]) hx hb dX11_readMany_51 hl (by decide) rfl (fun ls hl => ?_)
          refine lv_aload_n hx hb dX11_readMany_53 rfl (lv_at hl 1 rfl) ?_
          refine ok.getIc hO h_a (by decide) k13_19 e_250 (fun _ _ he hv kk => th_get (ci := 11) (C := RX11) (T := TX11) (N := 66) hx hb hts inX11 hown hK hH he rfl 19 (by decide) fl0 hv dX11_readMany_54 kk) ?_
          refine lv_if_ne (tgt := 69) hx hb dX11_readMany_57 (by decide) (fun c_254 => ?_) (fun c_254 => ?_)
          · replace c_254 := mt (I_eq (a := z_249) (b := 0) rz_249 (show rng 0 from ⟨by decide, by decide⟩)).mpr c_254
            exfalso; omega
          · replace c_254 := (I_eq (a := z_249) (b := 0) rz_249 (show rng 0 from ⟨by decide, by decide⟩)).mp c_254
            refine lv_aload_n hx hb dX11_readMany_60 rfl (lv_at hl 1 rfl) ?_
            refine lv_iload hx hb dX11_readMany_61 (lv_at hl 0 rfl) ?_
            refine lv_iload_n hx hb dX11_readMany_63 rfl (lv_at hl 3 rfl) ?_
            refine lv_iconst (v := I 1) hx hb dX11_readMany_64 (by decide) ?_
            refine lv_iadd hx hb dX11_readMany_65 ?_
            refine nq_top (I_add _ _) ?_
            obtain ⟨_, hc_255⟩ := hO.cell h_a (by decide) (ci := 11) rfl
            refine th_callv (va_runV (As := [.int (I 0), .int (I (dp + 1))]) (rest := []) ⟨hx, hb, hml, hown, hts⟩ (ih l G y b0 σ_J_230 E hO a h_a 0 (show rng 0 from (show rng 0 from ⟨by decide, by decide⟩)) (dp + 1) (show rng (dp + 1) from ⟨by omega, by omega⟩) (by omega) (by omega) F2q226 J_230_13 Bf hsr T hSt cc_231 jj_232 hR_234 (by omega) (by omega) (by omega)) (cwV 2 hts gX11_readMany_X11_readThing rfl rfl rfl (by decide +kernel) ⟨(by first | exact fr_q (by decide) | exact fr_r (by decide) | exact fr_s (by decide) | (simp only [headSpec]; omega) | omega | (dsimp only; omega)), (by first | exact fr_q (by decide) | exact fr_r (by decide) | exact fr_s (by decide) | (simp only [headSpec]; omega) | omega | (dsimp only; omega))⟩) (th_PV hK hH rfl hc_255) rfl rfl hl.1 rfl (lv_room (Nat.le_of_ble_eq_true rfl)) dX11_readMany_66 ⟨(by first | exact fr_q (by decide) | exact fr_r (by decide) | exact fr_s (by decide) | (simp only [headSpec]; omega) | omega | (dsimp only; omega)), (by first | exact fr_q (by decide) | exact fr_r (by decide) | exact fr_s (by decide) | (simp only [headSpec]; omega) | omega | (dsimp only; omega))⟩) hS (fun σ_s_257 H locs hw_256 hH hS => ?_)
            obtain ⟨hO9, hF9, hM9, hw_256⟩ := hw_256
            replace hM := hM.tu hM9 (by decide)
            replace hF := hF.tu hF9 (by decide)
            have e_258 : gI σ_s_257 a 11 = a110 := (hM9.i (by decide)).trans J_230_12
            replace hsr := hsr.mv hM9 (by decide) (by decide) (by decide) (by decide) (by decide)
            replace hO := hO9
            generalize ef_260 : aF σ_s_257 (ad E a 2) = g_259 at hw_256
            replace hw_256 : (((gI σ_J_230 a 13 ≤ gI σ_s_257 a 13 ∧ gI σ_s_257 a 13 ≤ gI σ_J_230 a 11 ∧ 0 ≤ gI σ_s_257 a 17 ∧ gI σ_s_257 a 17 ≤ gI σ_s_257 a 13) ∧ pgo (gI σ_s_257 a 19) (gI σ_s_257 a 14) (gI σ_J_230 a 13) (gI σ_s_257 a 13)) ∧ gI σ_J_230 a 22 ≤ gI σ_s_257 a 22 ∧ (¬ gI σ_s_257 a 19 = 0 ∨ rdT F2q226 g_259 (gI σ_J_230 a 22) (gI σ_s_257 a 22) 0 (dp + 1))) ∧ ∃ c1 j1, RSt σ_s_257 a T c1 j1 ∧ PTh T (dp + 1) jj_232 (gI σ_J_230 a 22) c1 j1 (gI σ_s_257 a 22) := hw_256
            replace hVhR_234 := hid.mk hVhR_234
            have hn_261 := hw_256.2
            replace hw_256 := hw_256.1
            obtain ⟨cc_262, jj_263, hR_264, hn_261⟩ := hn_261
            have hVhR_264 := hR_264.1
            have ht0hR_264 := hR_264.t0
            rcases Classical.em (cc_262 = 0) with h0_265 | h0_265
            · try simp only [h0_265, ne_eq, not_true_eq_false, not_false_eq_true, false_implies, true_implies, true_and, and_true, eq_self, false_or, or_false, false_and, and_false] at hVhR_264
              refine lv_aload_n hx hb dX11_readMany_69 rfl (lv_at hl 1 rfl) ?_
              refine lv_bipush (v := I 44) hx hb dX11_readMany_70 (by decide) ?_
              obtain ⟨_, hc_266⟩ := hO.cell h_a (by decide) (ci := 11) rfl
              refine th_calli (va_runV (As := [.int (I 44)]) (rest := []) ⟨hx, hb, hml, hown, hts⟩ (n_isMarked l G y b0 σ_s_257 E hO a h_a 44 (show rng 44 from (show rng 44 from ⟨by decide, by decide⟩)) (by omega) (by omega) Bf hsr T hSt cc_262 jj_263 hR_264 (by omega)) (cwV 1 hts gX11_readMany_X11_isMarked rfl rfl rfl (by decide +kernel) ⟨(by first | exact fr_q (by decide) | exact fr_r (by decide) | exact fr_s (by decide) | (simp only [headSpec]; omega) | omega | (dsimp only; omega)), (by first | exact fr_q (by decide) | exact fr_r (by decide) | exact fr_s (by decide) | (simp only [headSpec]; omega) | omega | (dsimp only; omega))⟩) (th_PV hK hH rfl hc_266) rfl rfl hl.1 rfl (lv_room (Nat.le_of_ble_eq_true rfl)) dX11_readMany_72 ⟨(by first | exact fr_q (by decide) | exact fr_r (by decide) | exact fr_s (by decide) | (simp only [headSpec]; omega) | omega | (dsimp only; omega)), (by first | exact fr_q (by decide) | exact fr_r (by decide) | exact fr_s (by decide) | (simp only [headSpec]; omega) | omega | (dsimp only; omega))⟩) hS (fun z_269 σ_s_268 H locs rz_269 hw_267 hH hS => ?_)
              obtain ⟨e9, bhw_267, hw_267⟩ := hw_267
              replace e9 := e9.symm
              subst e9
              replace hw_267 : (z_269 = 1 ∧ cc_262 = 0 ∧ tK T jj_263 = 44) ∨ (z_269 = 0 ∧ (cc_262 ≠ 0 ∨ tK T jj_263 ≠ 44)) := hw_267
              have hb_270 := hw_256.1.1
              have hb_271 := hw_256.2.1
              replace hw_256 := hid.mk hw_256
              replace hn_261 := hid.mk hn_261
              refine lv_istore (lv' := [(4, .int (I z_269)), (5, .int (I 0)), (0, .ref a), (1, .int (I k)), (2, .int (I dp)), (3, .int (I en))]) hx hb dX11_readMany_75 hl (by decide) rfl (fun ls hl => ?_)
              refine lv_iload hx hb dX11_readMany_77 (lv_at hl 0 rfl) ?_
              refine lv_if_eq (tgt := 86) hx hb dX11_readMany_79 (by decide) (fun c_272 => ?_) (fun c_272 => ?_)
              · replace c_272 := (I_eq (a := z_269) (b := 0) rz_269 (show rng 0 from ⟨by decide, by decide⟩)).mp c_272
                refine lv_goto (tgt := 20) hx hb dX11_readMany_86 (by decide) ?_
                replace hl : lv_has ls 6 [(4, .int (I z_269)), (0, .ref a), (1, .int (I k)), (2, .int (I dp)), (3, .int (I en))] := lv_sub hl [0, 2, 3, 4, 5] rfl
                obtain ⟨z_273, e_274, rz_273, lz_273, uz_273⟩ := hO.gi h_a (by decide) k13_13
                obtain ⟨z_275, e_276, rz_275, lz_275, uz_275⟩ := hO.gi h_a (by decide) k13_22
                exact ihJ_230 (z_269, z_273, z_275, g_259) σ_s_257 _ _ _ (by have h8 := hw_256.1.2; unfold pgo at h8; first | (dsimp only; omega) | omega) ⟨hO, hF, hM, hsr, hH, hS, lv_sub hl [1, 2, 3, 4, 0] rfl, rz_269, rz_273, rz_275, by first | (dsimp only; omega) | omega, by first | (dsimp only; omega) | omega, by first | (dsimp only; omega) | omega, by first | (dsimp only; omega) | omega, by first | (dsimp only; omega) | omega, by first | (dsimp only; omega) | omega, by first | (dsimp only; omega) | omega, by first | (dsimp only; omega) | omega, (by have h8 := hw_256.1.2; unfold pgo at h8; unfold pgo; first | (dsimp only; omega) | omega), by first | (dsimp only; omega) | omega, (hw_256.2.2.elim (fun h9 => Or.inl (by omega)) (fun h9 => Or.inr (by rw [show z_275 = gI σ_s_257 a 22 by omega]; exact hR9.step (by rwa [show gI σ_J_230 a 22 = G22q228 by omega] at h9) (by intro h9; first | exact absurd h9 (by omega) | (have h8 := hX.2.2.resolve_left (by omega); rwa [show gI σ a 22 = G22q228 by omega] at h8)) (by omega)))), ⟨cc_262, jj_263, kk_233 ++ [0], hR_264, fun h9 => by have h8 := hw_256.2.2.resolve_left (by omega); rw [show gI σ_J_230 a 22 = G22q228 by omega, show gI σ_s_257 a 22 = z_275 by omega] at h8; exact krl.step (hk_235 (by omega)) h8 (by omega), by obtain ⟨z9, hP9, hz9⟩ := hn_261; rw [show gI σ_J_230 a 22 = G22q228 by omega] at hP9; exact (lin.item (op := tK T jt) (mo := z_269) (s4 := z_275) (c4 := cc_262) (j4 := jj_263) hbk9 (hL_236.em (by omega)) (by rw [show md = 1 by omega]; exact kyR.list) hP9 (fun h9 => by have h8 := hz9 h9; omega) (by omega)).ec (by omega)⟩, e_258, ef_260, e_274, e_276⟩
              · replace c_272 := mt (I_eq (a := z_269) (b := 0) rz_269 (show rng 0 from ⟨by decide, by decide⟩)).mpr c_272
                refine lv_aload_n hx hb dX11_readMany_82 rfl (lv_at hl 2 rfl) ?_
                obtain ⟨z_277, e_278, rz_277, lz_277, uz_277⟩ := hO.gi h_a (by decide) k13_22
                obtain ⟨_, hc_279⟩ := hO.cell h_a (by decide) (ci := 11) rfl
                refine th_callv (va_runV (As := []) (rest := []) ⟨hx, hb, hml, hown, hts⟩ (n_pass l G y b0 σ_s_257 E hO a h_a Bf hsr T hSt cc_262 jj_263 hR_264 (by omega) (by omega)) (cwV 0 hts gX11_readMany_X11_pass rfl rfl rfl (by decide +kernel) ⟨(by first | exact fr_q (by decide) | exact fr_r (by decide) | exact fr_s (by decide) | (simp only [headSpec]; omega) | omega | (dsimp only; omega)), (by first | exact fr_q (by decide) | exact fr_r (by decide) | exact fr_s (by decide) | (simp only [headSpec]; omega) | omega | (dsimp only; omega))⟩) (th_PV hK hH rfl hc_279) rfl rfl hl.1 rfl (lv_room (Nat.le_of_ble_eq_true rfl)) dX11_readMany_83 ⟨(by first | exact fr_q (by decide) | exact fr_r (by decide) | exact fr_s (by decide) | (simp only [headSpec]; omega) | omega | (dsimp only; omega)), (by first | exact fr_q (by decide) | exact fr_r (by decide) | exact fr_s (by decide) | (simp only [headSpec]; omega) | omega | (dsimp only; omega))⟩) hS (fun σ_s_281 H locs hw_280 hH hS => ?_)
                obtain ⟨hO9, hF9, hM9, hw_280⟩ := hw_280
                replace hM := hM.tu hM9 (by decide)
                replace hF := hF.tu hF9 (by decide)
                have e_282 : gI σ_s_281 a 11 = a110 := (hM9.i (by decide)).trans e_258
                have e_283 : aF σ_s_281 (ad E a 2) = g_259 := (hM9.a (by decide) (by decide)).trans ef_260
                have e_284 : gI σ_s_281 a 22 = z_277 := (hM9.i (by decide)).trans e_278
                replace hsr := hsr.mv hM9 (by decide) (by decide) (by decide) (by decide) (by decide)
                replace hO := hO9
                replace hw_280 : ((gI σ_s_257 a 13 ≤ gI σ_s_281 a 13 ∧ gI σ_s_281 a 13 ≤ gI σ_s_257 a 11 ∧ 0 ≤ gI σ_s_281 a 17 ∧ gI σ_s_281 a 17 ≤ gI σ_s_281 a 13) ∧ pgo (gI σ_s_281 a 19) (gI σ_s_281 a 14) (gI σ_s_257 a 13) (gI σ_s_281 a 13) ∧ gI σ_s_281 a 19 = gI σ_s_257 a 19) ∧ ∃ c1 j1, RSt σ_s_281 a T c1 j1 ∧ (c1 = cc_262 ∧ (cc_262 ≠ 0 → j1 = jj_263) ∧ (cc_262 = 0 → j1 = jj_263 + 1)) := hw_280
                replace hVhR_264 := hid.mk hVhR_264
                first | replace hw_267 := hw_267.resolve_right (by omega) | replace hw_267 := hw_267.resolve_left (by omega) | skip
                have hn_285 := hw_280.2
                replace hw_280 := hw_280.1
                obtain ⟨cc_286, jj_287, hR_288, hn_285⟩ := hn_285
                have hVhR_288 := hR_288.1
                have h0_289 : cc_286 = 0 := by omega
                try simp only [h0_289, ne_eq, not_true_eq_false, not_false_eq_true, false_implies, true_implies, true_and, and_true, eq_self, false_or, or_false, false_and, and_false] at hVhR_288
                try simp only [h0_1, h0_13, h0_248, h0_265, h0_289, ne_eq, not_true_eq_false, not_false_eq_true, false_implies, true_implies, true_and, and_true, eq_self, false_or, or_false, false_and, and_false] at hn_285
                refine lv_goto (tgt := 20) hx hb dX11_readMany_86 (by decide) ?_
                replace hl : lv_has ls 6 [(4, .int (I z_269)), (0, .ref a), (1, .int (I k)), (2, .int (I dp)), (3, .int (I en))] := lv_sub hl [0, 2, 3, 4, 5] rfl
                obtain ⟨z_290, e_291, rz_290, lz_290, uz_290⟩ := hO.gi h_a (by decide) k13_13
                exact ihJ_230 (z_269, z_290, z_277, g_259) σ_s_281 _ _ _ (by have h8 := hw_256.1.2; unfold pgo at h8; first | (dsimp only; omega) | omega) ⟨hO, hF, hM, hsr, hH, hS, lv_sub hl [1, 2, 3, 4, 0] rfl, rz_269, rz_290, rz_277, by first | (dsimp only; omega) | omega, by first | (dsimp only; omega) | omega, by first | (dsimp only; omega) | omega, by first | (dsimp only; omega) | omega, by first | (dsimp only; omega) | omega, by first | (dsimp only; omega) | omega, by first | (dsimp only; omega) | omega, by first | (dsimp only; omega) | omega, (by have h8 := hw_256.1.2; unfold pgo at h8; unfold pgo; first | (dsimp only; omega) | omega), by first | (dsimp only; omega) | omega, (hw_256.2.2.elim (fun h9 => Or.inl (by omega)) (fun h9 => Or.inr (by rw [show z_277 = gI σ_s_257 a 22 by omega]; exact hR9.step (by rwa [show gI σ_J_230 a 22 = G22q228 by omega] at h9) (by intro h9; first | exact absurd h9 (by omega) | (have h8 := hX.2.2.resolve_left (by omega); rwa [show gI σ a 22 = G22q228 by omega] at h8)) (by omega)))), ⟨cc_286, jj_287, kk_233 ++ [0], hR_288, fun h9 => by have h8 := hw_256.2.2.resolve_left (by omega); rw [show gI σ_J_230 a 22 = G22q228 by omega, show gI σ_s_257 a 22 = z_277 by omega] at h8; exact krl.step (hk_235 (by omega)) h8 (by omega), by obtain ⟨z9, hP9, hz9⟩ := hn_261; rw [show gI σ_J_230 a 22 = G22q228 by omega] at hP9; exact (lin.item (op := tK T jt) (mo := z_269) (s4 := z_277) (c4 := cc_262) (j4 := jj_263) hbk9 (hL_236.em (by omega)) (by rw [show md = 1 by omega]; exact kyR.list) hP9 (fun h9 => by have h8 := hz9 h9; omega) (by omega)).ec (by omega)⟩, e_282, e_283, e_291, e_284⟩
            · try simp only [h0_265, ne_eq, not_true_eq_false, not_false_eq_true, false_implies, true_implies, true_and, and_true, eq_self, false_or, or_false, false_and, and_false] at hVhR_264
              refine lv_aload_n hx hb dX11_readMany_69 rfl (lv_at hl 1 rfl) ?_
              refine lv_bipush (v := I 44) hx hb dX11_readMany_70 (by decide) ?_
              obtain ⟨_, hc_292⟩ := hO.cell h_a (by decide) (ci := 11) rfl
              refine th_calli (va_runV (As := [.int (I 44)]) (rest := []) ⟨hx, hb, hml, hown, hts⟩ (n_isMarked l G y b0 σ_s_257 E hO a h_a 44 (show rng 44 from (show rng 44 from ⟨by decide, by decide⟩)) (by omega) (by omega) Bf hsr T hSt cc_262 jj_263 hR_264 (by omega)) (cwV 1 hts gX11_readMany_X11_isMarked rfl rfl rfl (by decide +kernel) ⟨(by first | exact fr_q (by decide) | exact fr_r (by decide) | exact fr_s (by decide) | (simp only [headSpec]; omega) | omega | (dsimp only; omega)), (by first | exact fr_q (by decide) | exact fr_r (by decide) | exact fr_s (by decide) | (simp only [headSpec]; omega) | omega | (dsimp only; omega))⟩) (th_PV hK hH rfl hc_292) rfl rfl hl.1 rfl (lv_room (Nat.le_of_ble_eq_true rfl)) dX11_readMany_72 ⟨(by first | exact fr_q (by decide) | exact fr_r (by decide) | exact fr_s (by decide) | (simp only [headSpec]; omega) | omega | (dsimp only; omega)), (by first | exact fr_q (by decide) | exact fr_r (by decide) | exact fr_s (by decide) | (simp only [headSpec]; omega) | omega | (dsimp only; omega))⟩) hS (fun z_295 σ_s_294 H locs rz_295 hw_293 hH hS => ?_)
              obtain ⟨e9, bhw_293, hw_293⟩ := hw_293
              replace e9 := e9.symm
              subst e9
              replace hw_293 : (z_295 = 1 ∧ cc_262 = 0 ∧ tK T jj_263 = 44) ∨ (z_295 = 0 ∧ (cc_262 ≠ 0 ∨ tK T jj_263 ≠ 44)) := hw_293
              have hb_296 := hw_256.1.1
              have hb_297 := hw_256.2.1
              replace hw_256 := hid.mk hw_256
              replace hn_261 := hid.mk hn_261
              refine lv_istore (lv' := [(4, .int (I z_295)), (5, .int (I 0)), (0, .ref a), (1, .int (I k)), (2, .int (I dp)), (3, .int (I en))]) hx hb dX11_readMany_75 hl (by decide) rfl (fun ls hl => ?_)
              refine lv_iload hx hb dX11_readMany_77 (lv_at hl 0 rfl) ?_
              refine lv_if_eq (tgt := 86) hx hb dX11_readMany_79 (by decide) (fun c_298 => ?_) (fun c_298 => ?_)
              · replace c_298 := (I_eq (a := z_295) (b := 0) rz_295 (show rng 0 from ⟨by decide, by decide⟩)).mp c_298
                refine lv_goto (tgt := 20) hx hb dX11_readMany_86 (by decide) ?_
                replace hl : lv_has ls 6 [(4, .int (I z_295)), (0, .ref a), (1, .int (I k)), (2, .int (I dp)), (3, .int (I en))] := lv_sub hl [0, 2, 3, 4, 5] rfl
                obtain ⟨z_299, e_300, rz_299, lz_299, uz_299⟩ := hO.gi h_a (by decide) k13_13
                obtain ⟨z_301, e_302, rz_301, lz_301, uz_301⟩ := hO.gi h_a (by decide) k13_22
                exact ihJ_230 (z_295, z_299, z_301, g_259) σ_s_257 _ _ _ (by have h8 := hw_256.1.2; unfold pgo at h8; first | (dsimp only; omega) | omega) ⟨hO, hF, hM, hsr, hH, hS, lv_sub hl [1, 2, 3, 4, 0] rfl, rz_295, rz_299, rz_301, by first | (dsimp only; omega) | omega, by first | (dsimp only; omega) | omega, by first | (dsimp only; omega) | omega, by first | (dsimp only; omega) | omega, by first | (dsimp only; omega) | omega, by first | (dsimp only; omega) | omega, by first | (dsimp only; omega) | omega, by first | (dsimp only; omega) | omega, (by have h8 := hw_256.1.2; unfold pgo at h8; unfold pgo; first | (dsimp only; omega) | omega), by first | (dsimp only; omega) | omega, (hw_256.2.2.elim (fun h9 => Or.inl (by omega)) (fun h9 => Or.inr (by rw [show z_301 = gI σ_s_257 a 22 by omega]; exact hR9.step (by rwa [show gI σ_J_230 a 22 = G22q228 by omega] at h9) (by intro h9; first | exact absurd h9 (by omega) | (have h8 := hX.2.2.resolve_left (by omega); rwa [show gI σ a 22 = G22q228 by omega] at h8)) (by omega)))), ⟨cc_262, jj_263, kk_233 ++ [0], hR_264, fun h9 => by have h8 := hw_256.2.2.resolve_left (by omega); rw [show gI σ_J_230 a 22 = G22q228 by omega, show gI σ_s_257 a 22 = z_301 by omega] at h8; exact krl.step (hk_235 (by omega)) h8 (by omega), by obtain ⟨z9, hP9, hz9⟩ := hn_261; rw [show gI σ_J_230 a 22 = G22q228 by omega] at hP9; exact (lin.item (op := tK T jt) (mo := z_295) (s4 := z_301) (c4 := cc_262) (j4 := jj_263) hbk9 (hL_236.em (by omega)) (by rw [show md = 1 by omega]; exact kyR.list) hP9 (fun h9 => by have h8 := hz9 h9; omega) (by omega)).ec (by omega)⟩, e_258, ef_260, e_300, e_302⟩
              · replace c_298 := mt (I_eq (a := z_295) (b := 0) rz_295 (show rng 0 from ⟨by decide, by decide⟩)).mpr c_298
                exfalso; omega
        · replace c_253 := (I_eq (a := z_252) (b := 3) rz_252 (show rng 3 from ⟨by decide, by decide⟩)).mp c_253
          replace hmd9 : md = 2 := by omega
          refine lv_aload_n hx hb dX11_readMany_42 rfl (lv_at hl 0 rfl) ?_
          refine lv_iload_n hx hb dX11_readMany_43 rfl (lv_at hl 1 rfl) ?_
          obtain ⟨_, hc_303⟩ := hO.cell h_a (by decide) (ci := 11) rfl
          refine th_calli (va_runV (As := [.int (I k)]) (rest := []) ⟨hx, hb, hml, hown, hts⟩ (n_readKey l G y b0 σ_J_230 E hO a h_a k (show rng k from rk) (by omega) (by omega) F2q226 J_230_13 Bf hsr T hSt cc_231 jj_232 hR_234 kk_233 (by omega) (by omega) (by omega) ((by rw [show gI σ_J_230 a 22 = G22q228 by omega]; exact hR9.1.1)) (by omega) ((by have h9 := hk_235 (by omega); rw [show gI σ_J_230 a 22 = G22q228 by omega]; exact h9))) (cwV 1 hts gX11_readMany_X11_readKey rfl rfl rfl (by decide +kernel) ⟨(by first | exact fr_q (by decide) | exact fr_r (by decide) | exact fr_s (by decide) | (simp only [headSpec]; omega) | omega | (dsimp only; omega)), (by first | exact fr_q (by decide) | exact fr_r (by decide) | exact fr_s (by decide) | (simp only [headSpec]; omega) | omega | (dsimp only; omega))⟩) (th_PV hK hH rfl hc_303) rfl rfl hl.1 rfl (lv_room (Nat.le_of_ble_eq_true rfl)) dX11_readMany_44 ⟨(by first | exact fr_q (by decide) | exact fr_r (by decide) | exact fr_s (by decide) | (simp only [headSpec]; omega) | omega | (dsimp only; omega)), (by first | exact fr_q (by decide) | exact fr_r (by decide) | exact fr_s (by decide) | (simp only [headSpec]; omega) | omega | (dsimp only; omega))⟩) hS (fun z_306 σ_s_305 H locs rz_306 hw_304 hH hS => ?_)
          obtain ⟨hO9, hF9, hM9, hw_304⟩ := hw_304
          replace hM := hM.tu hM9 (by decide)
          replace hF := hF.tu hF9 (by decide)
          have e_307 : gI σ_s_305 a 11 = a110 := (hM9.i (by decide)).trans J_230_12
          have e_308 : aF σ_s_305 (ad E a 2) = F2q226 := (hM9.a (by decide) (by decide)).trans J_230_13
          have e_309 : gI σ_s_305 a 22 = G22q228 := (hM9.i (by decide)).trans J_230_15
          replace hsr := hsr.mv hM9 (by decide) (by decide) (by decide) (by decide) (by decide)
          replace hO := hO9
          replace hw_304 : (((gI σ_J_230 a 13 ≤ gI σ_s_305 a 13 ∧ gI σ_s_305 a 13 ≤ gI σ_J_230 a 11 ∧ 0 ≤ gI σ_s_305 a 17 ∧ gI σ_s_305 a 17 ≤ gI σ_s_305 a 13) ∧ pgo (gI σ_s_305 a 19) (gI σ_s_305 a 14) (gI σ_J_230 a 13) (gI σ_s_305 a 13)) ∧ bdo (gI σ_J_230 a 19) (gI σ_s_305 a 19) ∧ (¬ gI σ_s_305 a 19 = 0 ∨ nok F2q226 (k / 4 + 1) (gI σ_J_230 a 22) z_306)) ∧ ∃ c1 j1, RSt σ_s_305 a T c1 j1 ∧ kyR T 2 jj_232 kk_233 c1 j1 z_306 := hw_304
          replace hVhR_234 := hid.mk hVhR_234
          have hn_310 := hw_304.2
          replace hw_304 := hw_304.1
          obtain ⟨cc_311, jj_312, hR_313, hn_310⟩ := hn_310
          have hVhR_313 := hR_313.1
          refine lv_goto (tgt := 51) hx hb dX11_readMany_47 (by decide) ?_
          refine lv_istore (lv' := [(5, .int (I z_306)), (0, .ref a), (1, .int (I k)), (2, .int (I dp)), (3, .int (I en)), (4, .int (I v4q229))]) hx hb dX11_readMany_51 hl (by decide) rfl (fun ls hl => ?_)
          refine lv_aload_n hx hb dX11_readMany_53 rfl (lv_at hl 1 rfl) ?_
          refine ok.getI hO h_a (by decide) k13_19 (fun _ _ he hv kk => th_get (ci := 11) (C := RX11) (T := TX11) (N := 66) hx hb hts inX11 hown hK hH he rfl 19 (by decide) fl0 hv dX11_readMany_54 kk) (fun z_314 e_315 rz_314 lz_314 uz_314 => ?_)
          refine lv_if_ne (tgt := 69) hx hb dX11_readMany_57 (by decide) (fun c_316 => ?_) (fun c_316 => ?_)
          · replace c_316 := mt (I_eq (a := z_314) (b := 0) rz_314 (show rng 0 from ⟨by decide, by decide⟩)).mpr c_316
            have ht0hR_313 := hR_313.t0
            have h0_317 : ¬ cc_311 = 0 := by omega
            try simp only [h0_317, ne_eq, not_true_eq_false, not_false_eq_true, false_implies, true_implies, true_and, and_true, eq_self, false_or, or_false, false_and, and_false] at hVhR_313
            refine lv_aload_n hx hb dX11_readMany_69 rfl (lv_at hl 1 rfl) ?_
            refine lv_bipush (v := I 44) hx hb dX11_readMany_70 (by decide) ?_
            obtain ⟨_, hc_318⟩ := hO.cell h_a (by decide) (ci := 11) rfl
            refine th_calli (va_runV (As := [.int (I 44)]) (rest := []) ⟨hx, hb, hml, hown, hts⟩ (n_isMarked l G y b0 σ_s_305 E hO a h_a 44 (show rng 44 from (show rng 44 from ⟨by decide, by decide⟩)) (by omega) (by omega) Bf hsr T hSt cc_311 jj_312 hR_313 (by omega)) (cwV 1 hts gX11_readMany_X11_isMarked rfl rfl rfl (by decide +kernel) ⟨(by first | exact fr_q (by decide) | exact fr_r (by decide) | exact fr_s (by decide) | (simp only [headSpec]; omega) | omega | (dsimp only; omega)), (by first | exact fr_q (by decide) | exact fr_r (by decide) | exact fr_s (by decide) | (simp only [headSpec]; omega) | omega | (dsimp only; omega))⟩) (th_PV hK hH rfl hc_318) rfl rfl hl.1 rfl (lv_room (Nat.le_of_ble_eq_true rfl)) dX11_readMany_72 ⟨(by first | exact fr_q (by decide) | exact fr_r (by decide) | exact fr_s (by decide) | (simp only [headSpec]; omega) | omega | (dsimp only; omega)), (by first | exact fr_q (by decide) | exact fr_r (by decide) | exact fr_s (by decide) | (simp only [headSpec]; omega) | omega | (dsimp only; omega))⟩) hS (fun z_321 σ_s_320 H locs rz_321 hw_319 hH hS => ?_)
            obtain ⟨e9, bhw_319, hw_319⟩ := hw_319
            replace e9 := e9.symm
            subst e9
            replace hw_319 : (z_321 = 1 ∧ cc_311 = 0 ∧ tK T jj_312 = 44) ∨ (z_321 = 0 ∧ (cc_311 ≠ 0 ∨ tK T jj_312 ≠ 44)) := hw_319
            have hb_322 := hw_304.1.1
            replace hw_304 := hid.mk hw_304
            replace hn_310 := hid.mk hn_310
            refine lv_istore (lv' := [(4, .int (I z_321)), (5, .int (I z_306)), (0, .ref a), (1, .int (I k)), (2, .int (I dp)), (3, .int (I en))]) hx hb dX11_readMany_75 hl (by decide) rfl (fun ls hl => ?_)
            refine lv_iload hx hb dX11_readMany_77 (lv_at hl 0 rfl) ?_
            refine lv_if_eq (tgt := 86) hx hb dX11_readMany_79 (by decide) (fun c_323 => ?_) (fun c_323 => ?_)
            · replace c_323 := (I_eq (a := z_321) (b := 0) rz_321 (show rng 0 from ⟨by decide, by decide⟩)).mp c_323
              refine lv_goto (tgt := 20) hx hb dX11_readMany_86 (by decide) ?_
              replace hl : lv_has ls 6 [(4, .int (I z_321)), (0, .ref a), (1, .int (I k)), (2, .int (I dp)), (3, .int (I en))] := lv_sub hl [0, 2, 3, 4, 5] rfl
              obtain ⟨z_324, e_325, rz_324, lz_324, uz_324⟩ := hO.gi h_a (by decide) k13_13
              exact ihJ_230 (z_321, z_324, G22q228, F2q226) σ_s_305 _ _ _ (by first | (dsimp only; omega) | omega) ⟨hO, hF, hM, hsr, hH, hS, lv_sub hl [1, 2, 3, 4, 0] rfl, rz_321, rz_324, rG22q228, by first | (dsimp only; omega) | omega, by first | (dsimp only; omega) | omega, by first | (dsimp only; omega) | omega, by first | (dsimp only; omega) | omega, by first | (dsimp only; omega) | omega, by first | (dsimp only; omega) | omega, by first | (dsimp only; omega) | omega, by first | (dsimp only; omega) | omega, (by unfold pgo; first | (dsimp only; omega) | omega), by first | (dsimp only; omega) | omega, (Or.inl (by omega)), ⟨cc_311, jj_312, kk_233, hR_313, fun h9 => absurd h9 (by omega), ((lin.key (op := tK T jt) hbk9 (hL_236.em (by omega)) (by have h8 := hn_310; rw [show md = 2 by omega]; exact h8) (by omega)).ec (by omega)).em (by first | (dsimp only; omega) | omega)⟩, e_307, e_308, e_325, e_309⟩
            · replace c_323 := mt (I_eq (a := z_321) (b := 0) rz_321 (show rng 0 from ⟨by decide, by decide⟩)).mpr c_323
              exfalso; omega
          · replace c_316 := (I_eq (a := z_314) (b := 0) rz_314 (show rng 0 from ⟨by decide, by decide⟩)).mp c_316
            have h0_326 : cc_311 = 0 := by omega
            try simp only [h0_326, ne_eq, not_true_eq_false, not_false_eq_true, false_implies, true_implies, true_and, and_true, eq_self, false_or, or_false, false_and, and_false] at hVhR_313
            refine lv_aload_n hx hb dX11_readMany_60 rfl (lv_at hl 1 rfl) ?_
            refine lv_iload hx hb dX11_readMany_61 (lv_at hl 0 rfl) ?_
            refine lv_iload_n hx hb dX11_readMany_63 rfl (lv_at hl 3 rfl) ?_
            refine lv_iconst (v := I 1) hx hb dX11_readMany_64 (by decide) ?_
            refine lv_iadd hx hb dX11_readMany_65 ?_
            refine nq_top (I_add _ _) ?_
            obtain ⟨_, hc_327⟩ := hO.cell h_a (by decide) (ci := 11) rfl
            refine th_callv (va_runV (As := [.int (I z_306), .int (I (dp + 1))]) (rest := []) ⟨hx, hb, hml, hown, hts⟩ (ih l G y b0 σ_s_305 E hO a h_a z_306 (show rng z_306 from rz_306) (dp + 1) (show rng (dp + 1) from ⟨by omega, by omega⟩) (by omega) (by omega) F2q226 e_308 Bf hsr T hSt cc_311 jj_312 hR_313 (by omega) (by omega) (by omega)) (cwV 2 hts gX11_readMany_X11_readThing rfl rfl rfl (by decide +kernel) ⟨(by first | exact fr_q (by decide) | exact fr_r (by decide) | exact fr_s (by decide) | (simp only [headSpec]; omega) | omega | (dsimp only; omega)), (by first | exact fr_q (by decide) | exact fr_r (by decide) | exact fr_s (by decide) | (simp only [headSpec]; omega) | omega | (dsimp only; omega))⟩) (th_PV hK hH rfl hc_327) rfl rfl hl.1 rfl (lv_room (Nat.le_of_ble_eq_true rfl)) dX11_readMany_66 ⟨(by first | exact fr_q (by decide) | exact fr_r (by decide) | exact fr_s (by decide) | (simp only [headSpec]; omega) | omega | (dsimp only; omega)), (by first | exact fr_q (by decide) | exact fr_r (by decide) | exact fr_s (by decide) | (simp only [headSpec]; omega) | omega | (dsimp only; omega))⟩) hS (fun σ_s_329 H locs hw_328 hH hS => ?_)
            obtain ⟨hO9, hF9, hM9, hw_328⟩ := hw_328
            replace hM := hM.tu hM9 (by decide)
            replace hF := hF.tu hF9 (by decide)
            have e_330 : gI σ_s_329 a 11 = a110 := (hM9.i (by decide)).trans e_307
            replace hsr := hsr.mv hM9 (by decide) (by decide) (by decide) (by decide) (by decide)
            replace hO := hO9
            generalize ef_332 : aF σ_s_329 (ad E a 2) = g_331 at hw_328
            replace hw_328 : (((gI σ_s_305 a 13 ≤ gI σ_s_329 a 13 ∧ gI σ_s_329 a 13 ≤ gI σ_s_305 a 11 ∧ 0 ≤ gI σ_s_329 a 17 ∧ gI σ_s_329 a 17 ≤ gI σ_s_329 a 13) ∧ pgo (gI σ_s_329 a 19) (gI σ_s_329 a 14) (gI σ_s_305 a 13) (gI σ_s_329 a 13)) ∧ gI σ_s_305 a 22 ≤ gI σ_s_329 a 22 ∧ (¬ gI σ_s_329 a 19 = 0 ∨ rdT F2q226 g_331 (gI σ_s_305 a 22) (gI σ_s_329 a 22) z_306 (dp + 1))) ∧ ∃ c1 j1, RSt σ_s_329 a T c1 j1 ∧ PTh T (dp + 1) jj_312 (gI σ_s_305 a 22) c1 j1 (gI σ_s_329 a 22) := hw_328
            have hb_333 := hw_304.1.1
            replace hw_304 := hid.mk hw_304
            replace hn_310 := hid.mk hn_310
            replace hVhR_313 := hid.mk hVhR_313
            have hn_334 := hw_328.2
            replace hw_328 := hw_328.1
            obtain ⟨cc_335, jj_336, hR_337, hn_334⟩ := hn_334
            have hVhR_337 := hR_337.1
            have ht0hR_337 := hR_337.t0
            rcases Classical.em (cc_335 = 0) with h0_338 | h0_338
            · try simp only [h0_338, ne_eq, not_true_eq_false, not_false_eq_true, false_implies, true_implies, true_and, and_true, eq_self, false_or, or_false, false_and, and_false] at hVhR_337
              refine lv_aload_n hx hb dX11_readMany_69 rfl (lv_at hl 1 rfl) ?_
              refine lv_bipush (v := I 44) hx hb dX11_readMany_70 (by decide) ?_
              obtain ⟨_, hc_339⟩ := hO.cell h_a (by decide) (ci := 11) rfl
              refine th_calli (va_runV (As := [.int (I 44)]) (rest := []) ⟨hx, hb, hml, hown, hts⟩ (n_isMarked l G y b0 σ_s_329 E hO a h_a 44 (show rng 44 from (show rng 44 from ⟨by decide, by decide⟩)) (by omega) (by omega) Bf hsr T hSt cc_335 jj_336 hR_337 (by omega)) (cwV 1 hts gX11_readMany_X11_isMarked rfl rfl rfl (by decide +kernel) ⟨(by first | exact fr_q (by decide) | exact fr_r (by decide) | exact fr_s (by decide) | (simp only [headSpec]; omega) | omega | (dsimp only; omega)), (by first | exact fr_q (by decide) | exact fr_r (by decide) | exact fr_s (by decide) | (simp only [headSpec]; omega) | omega | (dsimp only; omega))⟩) (th_PV hK hH rfl hc_339) rfl rfl hl.1 rfl (lv_room (Nat.le_of_ble_eq_true rfl)) dX11_readMany_72 ⟨(by first | exact fr_q (by decide) | exact fr_r (by decide) | exact fr_s (by decide) | (simp only [headSpec]; omega) | omega | (dsimp only; omega)), (by first | exact fr_q (by decide) | exact fr_r (by decide) | exact fr_s (by decide) | (simp only [headSpec]; omega) | omega | (dsimp only; omega))⟩) hS (fun z_342 σ_s_341 H locs rz_342 hw_340 hH hS => ?_)
              obtain ⟨e9, bhw_340, hw_340⟩ := hw_340
              replace e9 := e9.symm
              subst e9
              replace hw_340 : (z_342 = 1 ∧ cc_335 = 0 ∧ tK T jj_336 = 44) ∨ (z_342 = 0 ∧ (cc_335 ≠ 0 ∨ tK T jj_336 ≠ 44)) := hw_340
              have hb_343 := hw_328.1.1
              have hb_344 := hw_328.2.1
              replace hw_328 := hid.mk hw_328
              replace hn_334 := hid.mk hn_334
              refine lv_istore (lv' := [(4, .int (I z_342)), (5, .int (I z_306)), (0, .ref a), (1, .int (I k)), (2, .int (I dp)), (3, .int (I en))]) hx hb dX11_readMany_75 hl (by decide) rfl (fun ls hl => ?_)
              refine lv_iload hx hb dX11_readMany_77 (lv_at hl 0 rfl) ?_
              refine lv_if_eq (tgt := 86) hx hb dX11_readMany_79 (by decide) (fun c_345 => ?_) (fun c_345 => ?_)
              · replace c_345 := (I_eq (a := z_342) (b := 0) rz_342 (show rng 0 from ⟨by decide, by decide⟩)).mp c_345
                refine lv_goto (tgt := 20) hx hb dX11_readMany_86 (by decide) ?_
                replace hl : lv_has ls 6 [(4, .int (I z_342)), (0, .ref a), (1, .int (I k)), (2, .int (I dp)), (3, .int (I en))] := lv_sub hl [0, 2, 3, 4, 5] rfl
                obtain ⟨z_346, e_347, rz_346, lz_346, uz_346⟩ := hO.gi h_a (by decide) k13_13
                obtain ⟨z_348, e_349, rz_348, lz_348, uz_348⟩ := hO.gi h_a (by decide) k13_22
                exact ihJ_230 (z_342, z_346, z_348, g_331) σ_s_329 _ _ _ (by have h8 := hw_328.1.2; unfold pgo at h8; first | (dsimp only; omega) | omega) ⟨hO, hF, hM, hsr, hH, hS, lv_sub hl [1, 2, 3, 4, 0] rfl, rz_342, rz_346, rz_348, by first | (dsimp only; omega) | omega, by first | (dsimp only; omega) | omega, by first | (dsimp only; omega) | omega, by first | (dsimp only; omega) | omega, by first | (dsimp only; omega) | omega, by first | (dsimp only; omega) | omega, by first | (dsimp only; omega) | omega, by first | (dsimp only; omega) | omega, (by have h8 := hw_328.1.2; unfold pgo at h8; unfold pgo; first | (dsimp only; omega) | omega), by first | (dsimp only; omega) | omega, (hw_328.2.2.elim (fun h9 => Or.inl (by omega)) (fun h9 => Or.inr (by rw [show z_348 = gI σ_s_329 a 22 by omega]; exact hR9.step (by rwa [show gI σ_s_305 a 22 = G22q228 by omega] at h9) (by intro h9; first | exact absurd h9 (by omega) | (have h8 := hw_304.2.2.resolve_left (by omega); rwa [show gI σ_J_230 a 22 = G22q228 by omega] at h8)) (by omega)))), ⟨cc_335, jj_336, kk_233 ++ [z_306], hR_337, fun h9 => by have h8 := hw_328.2.2.resolve_left (by omega); rw [show gI σ_s_305 a 22 = G22q228 by omega, show gI σ_s_329 a 22 = z_348 by omega] at h8; exact krl.step (hk_235 (by omega)) h8 (by omega), by obtain ⟨z9, hP9, hz9⟩ := hn_334; rw [show gI σ_s_305 a 22 = G22q228 by omega] at hP9; exact (lin.item (op := tK T jt) (mo := z_342) (s4 := z_348) (c4 := cc_335) (j4 := jj_336) hbk9 (hL_236.em (by omega)) (by have h8 := hn_310; rw [show md = 2 by omega, show (0 : Int) = cc_311 by omega]; exact h8) hP9 (fun h9 => by have h8 := hz9 h9; omega) (by omega)).ec (by omega)⟩, e_330, ef_332, e_347, e_349⟩
              · replace c_345 := mt (I_eq (a := z_342) (b := 0) rz_342 (show rng 0 from ⟨by decide, by decide⟩)).mpr c_345
                refine lv_aload_n hx hb dX11_readMany_82 rfl (lv_at hl 2 rfl) ?_
                obtain ⟨z_350, e_351, rz_350, lz_350, uz_350⟩ := hO.gi h_a (by decide) k13_22
                obtain ⟨_, hc_352⟩ := hO.cell h_a (by decide) (ci := 11) rfl
                refine th_callv (va_runV (As := []) (rest := []) ⟨hx, hb, hml, hown, hts⟩ (n_pass l G y b0 σ_s_329 E hO a h_a Bf hsr T hSt cc_335 jj_336 hR_337 (by omega) (by omega)) (cwV 0 hts gX11_readMany_X11_pass rfl rfl rfl (by decide +kernel) ⟨(by first | exact fr_q (by decide) | exact fr_r (by decide) | exact fr_s (by decide) | (simp only [headSpec]; omega) | omega | (dsimp only; omega)), (by first | exact fr_q (by decide) | exact fr_r (by decide) | exact fr_s (by decide) | (simp only [headSpec]; omega) | omega | (dsimp only; omega))⟩) (th_PV hK hH rfl hc_352) rfl rfl hl.1 rfl (lv_room (Nat.le_of_ble_eq_true rfl)) dX11_readMany_83 ⟨(by first | exact fr_q (by decide) | exact fr_r (by decide) | exact fr_s (by decide) | (simp only [headSpec]; omega) | omega | (dsimp only; omega)), (by first | exact fr_q (by decide) | exact fr_r (by decide) | exact fr_s (by decide) | (simp only [headSpec]; omega) | omega | (dsimp only; omega))⟩) hS (fun σ_s_354 H locs hw_353 hH hS => ?_)
                obtain ⟨hO9, hF9, hM9, hw_353⟩ := hw_353
                replace hM := hM.tu hM9 (by decide)
                replace hF := hF.tu hF9 (by decide)
                have e_355 : gI σ_s_354 a 11 = a110 := (hM9.i (by decide)).trans e_330
                have e_356 : aF σ_s_354 (ad E a 2) = g_331 := (hM9.a (by decide) (by decide)).trans ef_332
                have e_357 : gI σ_s_354 a 22 = z_350 := (hM9.i (by decide)).trans e_351
                replace hsr := hsr.mv hM9 (by decide) (by decide) (by decide) (by decide) (by decide)
                replace hO := hO9
                replace hw_353 : ((gI σ_s_329 a 13 ≤ gI σ_s_354 a 13 ∧ gI σ_s_354 a 13 ≤ gI σ_s_329 a 11 ∧ 0 ≤ gI σ_s_354 a 17 ∧ gI σ_s_354 a 17 ≤ gI σ_s_354 a 13) ∧ pgo (gI σ_s_354 a 19) (gI σ_s_354 a 14) (gI σ_s_329 a 13) (gI σ_s_354 a 13) ∧ gI σ_s_354 a 19 = gI σ_s_329 a 19) ∧ ∃ c1 j1, RSt σ_s_354 a T c1 j1 ∧ (c1 = cc_335 ∧ (cc_335 ≠ 0 → j1 = jj_336) ∧ (cc_335 = 0 → j1 = jj_336 + 1)) := hw_353
                replace hVhR_337 := hid.mk hVhR_337
                first | replace hw_340 := hw_340.resolve_right (by omega) | replace hw_340 := hw_340.resolve_left (by omega) | skip
                have hn_358 := hw_353.2
                replace hw_353 := hw_353.1
                obtain ⟨cc_359, jj_360, hR_361, hn_358⟩ := hn_358
                have hVhR_361 := hR_361.1
                have h0_362 : cc_359 = 0 := by omega
                try simp only [h0_362, ne_eq, not_true_eq_false, not_false_eq_true, false_implies, true_implies, true_and, and_true, eq_self, false_or, or_false, false_and, and_false] at hVhR_361
                try simp only [h0_1, h0_13, h0_248, h0_326, h0_338, h0_362, ne_eq, not_true_eq_false, not_false_eq_true, false_implies, true_implies, true_and, and_true, eq_self, false_or, or_false, false_and, and_false] at hn_358
                refine lv_goto (tgt := 20) hx hb dX11_readMany_86 (by decide) ?_
                replace hl : lv_has ls 6 [(4, .int (I z_342)), (0, .ref a), (1, .int (I k)), (2, .int (I dp)), (3, .int (I en))] := lv_sub hl [0, 2, 3, 4, 5] rfl
                obtain ⟨z_363, e_364, rz_363, lz_363, uz_363⟩ := hO.gi h_a (by decide) k13_13
                exact ihJ_230 (z_342, z_363, z_350, g_331) σ_s_354 _ _ _ (by have h8 := hw_328.1.2; unfold pgo at h8; first | (dsimp only; omega) | omega) ⟨hO, hF, hM, hsr, hH, hS, lv_sub hl [1, 2, 3, 4, 0] rfl, rz_342, rz_363, rz_350, by first | (dsimp only; omega) | omega, by first | (dsimp only; omega) | omega, by first | (dsimp only; omega) | omega, by first | (dsimp only; omega) | omega, by first | (dsimp only; omega) | omega, by first | (dsimp only; omega) | omega, by first | (dsimp only; omega) | omega, by first | (dsimp only; omega) | omega, (by have h8 := hw_328.1.2; unfold pgo at h8; unfold pgo; first | (dsimp only; omega) | omega), by first | (dsimp only; omega) | omega, (hw_328.2.2.elim (fun h9 => Or.inl (by omega)) (fun h9 => Or.inr (by rw [show z_350 = gI σ_s_329 a 22 by omega]; exact hR9.step (by rwa [show gI σ_s_305 a 22 = G22q228 by omega] at h9) (by intro h9; first | exact absurd h9 (by omega) | (have h8 := hw_304.2.2.resolve_left (by omega); rwa [show gI σ_J_230 a 22 = G22q228 by omega] at h8)) (by omega)))), ⟨cc_359, jj_360, kk_233 ++ [z_306], hR_361, fun h9 => by have h8 := hw_328.2.2.resolve_left (by omega); rw [show gI σ_s_305 a 22 = G22q228 by omega, show gI σ_s_329 a 22 = z_350 by omega] at h8; exact krl.step (hk_235 (by omega)) h8 (by omega), by obtain ⟨z9, hP9, hz9⟩ := hn_334; rw [show gI σ_s_305 a 22 = G22q228 by omega] at hP9; exact (lin.item (op := tK T jt) (mo := z_342) (s4 := z_350) (c4 := cc_335) (j4 := jj_336) hbk9 (hL_236.em (by omega)) (by have h8 := hn_310; rw [show md = 2 by omega, show (0 : Int) = cc_311 by omega]; exact h8) hP9 (fun h9 => by have h8 := hz9 h9; omega) (by omega)).ec (by omega)⟩, e_355, e_356, e_364, e_357⟩
            · try simp only [h0_338, ne_eq, not_true_eq_false, not_false_eq_true, false_implies, true_implies, true_and, and_true, eq_self, false_or, or_false, false_and, and_false] at hVhR_337
              refine lv_aload_n hx hb dX11_readMany_69 rfl (lv_at hl 1 rfl) ?_
              refine lv_bipush (v := I 44) hx hb dX11_readMany_70 (by decide) ?_
              obtain ⟨_, hc_365⟩ := hO.cell h_a (by decide) (ci := 11) rfl
              refine th_calli (va_runV (As := [.int (I 44)]) (rest := []) ⟨hx, hb, hml, hown, hts⟩ (n_isMarked l G y b0 σ_s_329 E hO a h_a 44 (show rng 44 from (show rng 44 from ⟨by decide, by decide⟩)) (by omega) (by omega) Bf hsr T hSt cc_335 jj_336 hR_337 (by omega)) (cwV 1 hts gX11_readMany_X11_isMarked rfl rfl rfl (by decide +kernel) ⟨(by first | exact fr_q (by decide) | exact fr_r (by decide) | exact fr_s (by decide) | (simp only [headSpec]; omega) | omega | (dsimp only; omega)), (by first | exact fr_q (by decide) | exact fr_r (by decide) | exact fr_s (by decide) | (simp only [headSpec]; omega) | omega | (dsimp only; omega))⟩) (th_PV hK hH rfl hc_365) rfl rfl hl.1 rfl (lv_room (Nat.le_of_ble_eq_true rfl)) dX11_readMany_72 ⟨(by first | exact fr_q (by decide) | exact fr_r (by decide) | exact fr_s (by decide) | (simp only [headSpec]; omega) | omega | (dsimp only; omega)), (by first | exact fr_q (by decide) | exact fr_r (by decide) | exact fr_s (by decide) | (simp only [headSpec]; omega) | omega | (dsimp only; omega))⟩) hS (fun z_368 σ_s_367 H locs rz_368 hw_366 hH hS => ?_)
              obtain ⟨e9, bhw_366, hw_366⟩ := hw_366
              replace e9 := e9.symm
              subst e9
              replace hw_366 : (z_368 = 1 ∧ cc_335 = 0 ∧ tK T jj_336 = 44) ∨ (z_368 = 0 ∧ (cc_335 ≠ 0 ∨ tK T jj_336 ≠ 44)) := hw_366
              have hb_369 := hw_328.1.1
              have hb_370 := hw_328.2.1
              replace hw_328 := hid.mk hw_328
              replace hn_334 := hid.mk hn_334
              refine lv_istore (lv' := [(4, .int (I z_368)), (5, .int (I z_306)), (0, .ref a), (1, .int (I k)), (2, .int (I dp)), (3, .int (I en))]) hx hb dX11_readMany_75 hl (by decide) rfl (fun ls hl => ?_)
              refine lv_iload hx hb dX11_readMany_77 (lv_at hl 0 rfl) ?_
              refine lv_if_eq (tgt := 86) hx hb dX11_readMany_79 (by decide) (fun c_371 => ?_) (fun c_371 => ?_)
              · replace c_371 := (I_eq (a := z_368) (b := 0) rz_368 (show rng 0 from ⟨by decide, by decide⟩)).mp c_371
                refine lv_goto (tgt := 20) hx hb dX11_readMany_86 (by decide) ?_
                replace hl : lv_has ls 6 [(4, .int (I z_368)), (0, .ref a), (1, .int (I k)), (2, .int (I dp)), (3, .int (I en))] := lv_sub hl [0, 2, 3, 4, 5] rfl
                obtain ⟨z_372, e_373, rz_372, lz_372, uz_372⟩ := hO.gi h_a (by decide) k13_13
                obtain ⟨z_374, e_375, rz_374, lz_374, uz_374⟩ := hO.gi h_a (by decide) k13_22
                exact ihJ_230 (z_368, z_372, z_374, g_331) σ_s_329 _ _ _ (by have h8 := hw_328.1.2; unfold pgo at h8; first | (dsimp only; omega) | omega) ⟨hO, hF, hM, hsr, hH, hS, lv_sub hl [1, 2, 3, 4, 0] rfl, rz_368, rz_372, rz_374, by first | (dsimp only; omega) | omega, by first | (dsimp only; omega) | omega, by first | (dsimp only; omega) | omega, by first | (dsimp only; omega) | omega, by first | (dsimp only; omega) | omega, by first | (dsimp only; omega) | omega, by first | (dsimp only; omega) | omega, by first | (dsimp only; omega) | omega, (by have h8 := hw_328.1.2; unfold pgo at h8; unfold pgo; first | (dsimp only; omega) | omega), by first | (dsimp only; omega) | omega, (hw_328.2.2.elim (fun h9 => Or.inl (by omega)) (fun h9 => Or.inr (by rw [show z_374 = gI σ_s_329 a 22 by omega]; exact hR9.step (by rwa [show gI σ_s_305 a 22 = G22q228 by omega] at h9) (by intro h9; first | exact absurd h9 (by omega) | (have h8 := hw_304.2.2.resolve_left (by omega); rwa [show gI σ_J_230 a 22 = G22q228 by omega] at h8)) (by omega)))), ⟨cc_335, jj_336, kk_233 ++ [z_306], hR_337, fun h9 => by have h8 := hw_328.2.2.resolve_left (by omega); rw [show gI σ_s_305 a 22 = G22q228 by omega, show gI σ_s_329 a 22 = z_374 by omega] at h8; exact krl.step (hk_235 (by omega)) h8 (by omega), by obtain ⟨z9, hP9, hz9⟩ := hn_334; rw [show gI σ_s_305 a 22 = G22q228 by omega] at hP9; exact (lin.item (op := tK T jt) (mo := z_368) (s4 := z_374) (c4 := cc_335) (j4 := jj_336) hbk9 (hL_236.em (by omega)) (by have h8 := hn_310; rw [show md = 2 by omega, show (0 : Int) = cc_311 by omega]; exact h8) hP9 (fun h9 => by have h8 := hz9 h9; omega) (by omega)).ec (by omega)⟩, e_330, ef_332, e_373, e_375⟩
              · replace c_371 := mt (I_eq (a := z_368) (b := 0) rz_368 (show rng 0 from ⟨by decide, by decide⟩)).mpr c_371
                exfalso; omega
  · replace c_19 := mt (I_eq (a := z_17) (b := 0) rz_17 (show rng 0 from ⟨by decide, by decide⟩)).mpr c_19
    refine lv_aload_n hx hb dX11_readMany_12 rfl (lv_at hl 0 rfl) ?_
    obtain ⟨_, hc_376⟩ := hO.cell h_a (by decide) (ci := 11) rfl
    refine th_callv (va_runV (As := []) (rest := []) ⟨hx, hb, hml, hown, hts⟩ (n_pass l G y b0 σ_s_4 E hO a h_a Bf hsr T hSt cc_10 (jt + 1) hR_12 (by omega) (by omega)) (cwV 0 hts gX11_readMany_X11_pass rfl rfl rfl (by decide +kernel) ⟨(by first | exact fr_q (by decide) | exact fr_r (by decide) | exact fr_s (by decide) | (simp only [headSpec]; omega) | omega | (dsimp only; omega)), (by first | exact fr_q (by decide) | exact fr_r (by decide) | exact fr_s (by decide) | (simp only [headSpec]; omega) | omega | (dsimp only; omega))⟩) (th_PV hK hH rfl hc_376) rfl rfl hl.1 rfl (lv_room (Nat.le_of_ble_eq_true rfl)) dX11_readMany_13 ⟨(by first | exact fr_q (by decide) | exact fr_r (by decide) | exact fr_s (by decide) | (simp only [headSpec]; omega) | omega | (dsimp only; omega)), (by first | exact fr_q (by decide) | exact fr_r (by decide) | exact fr_s (by decide) | (simp only [headSpec]; omega) | omega | (dsimp only; omega))⟩) hS (fun σ_s_378 H locs hw_377 hH hS => ?_)
    obtain ⟨hO9, hF9, hM9, hw_377⟩ := hw_377
    replace hM := hM.tu hM9 (by decide)
    replace hF := hF.tu hF9 (by decide)
    have e_379 : aF σ_s_378 (ad E a 2) = f2 := (hM9.a (by decide) (by decide)).trans e_5
    have e_380 : gI σ_s_378 a 11 = a110 := (hM9.i (by decide)).trans e_6
    have e_381 : gI σ_s_378 a 19 = a190 := (hM9.i (by decide)).trans e_7
    have e_382 : gI σ_s_378 a 22 = a220 := (hM9.i (by decide)).trans e_8
    replace hsr := hsr.mv hM9 (by decide) (by decide) (by decide) (by decide) (by decide)
    replace hO := hO9
    replace hw_377 : ((gI σ_s_4 a 13 ≤ gI σ_s_378 a 13 ∧ gI σ_s_378 a 13 ≤ gI σ_s_4 a 11 ∧ 0 ≤ gI σ_s_378 a 17 ∧ gI σ_s_378 a 17 ≤ gI σ_s_378 a 13) ∧ pgo (gI σ_s_378 a 19) (gI σ_s_378 a 14) (gI σ_s_4 a 13) (gI σ_s_378 a 13) ∧ gI σ_s_378 a 19 = gI σ_s_4 a 19) ∧ ∃ c1 j1, RSt σ_s_378 a T c1 j1 ∧ (c1 = cc_10 ∧ (cc_10 ≠ 0 → j1 = (jt + 1)) ∧ (cc_10 = 0 → j1 = (jt + 1) + 1)) := hw_377
    replace hVhR_12 := hid.mk hVhR_12
    first | replace hw_15 := hw_15.resolve_right (by omega) | replace hw_15 := hw_15.resolve_left (by omega) | skip
    have hn_383 := hw_377.2
    replace hw_377 := hw_377.1
    obtain ⟨cc_384, jj_385, hR_386, hn_383⟩ := hn_383
    have hVhR_386 := hR_386.1
    have h0_387 : cc_384 = 0 := by omega
    try simp only [h0_387, ne_eq, not_true_eq_false, not_false_eq_true, false_implies, true_implies, true_and, and_true, eq_self, false_or, or_false, false_and, and_false] at hVhR_386
    try simp only [h0_1, h0_13, h0_387, ne_eq, not_true_eq_false, not_false_eq_true, false_implies, true_implies, true_and, and_true, eq_self, false_or, or_false, false_and, and_false] at hn_383
    exact th_vret hx hb hr hlocks hH hS ⟨hO, hF, hM, ⟨⟨⟨by omega, pgo.of (by have h7 := hw_3.2.1; have h8 := hw_377.2.1; unfold pgo at h7 h8; omega)⟩, by omega, Or.inr (by rw [show gI σ_s_378 a 22 = k / 4 + 1 by omega]; exact rdF.zero (by rw [show aF σ_s_378 (ad E a 2) = f2 from e_379]; exact same.rf))⟩, cc_384, jj_385, hR_386, PTh.empty (op := tK T jt) hbk9 rfl (by omega) (by omega) (by omega) (by omega) (by omega)⟩⟩ dX11_readMany_16
