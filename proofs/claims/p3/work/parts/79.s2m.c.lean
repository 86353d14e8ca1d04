set_option maxHeartbeats 20000000 in
set_option maxRecDepth 100000 in
theorem n_readMany (n : Nat) (ih : ∀ (l : Launch) (G : va_G) (y : Nat → ClassId) (b0 : Nat) (σ : th_M) (E : th_E) (hO : ok y E σ) (a : Nat) (h_a : kd E a = 13) (ky : Int) (rky : rng ky) (dp : Int) (rdp : rng dp) (l_dp : 0 ≤ dp) (u_dp : dp ≤ 8) (f2 : Nat → Int32) (ef2 : aF σ (ad E a 2) = f2) (Bf : Int → Int) (hsr : sr E σ a Bf) (T : tkT) (hSt : tkSt Bf T) (fc jt : Int) (hR0 : RSt σ a T fc jt) (hy0 : 0 ≤ gI σ a 17 ∧ gI σ a 17 ≤ gI σ a 13 ∧ gI σ a 13 ≤ gI σ a 11 ∧ gI σ a 11 ≤ 400) (hy1 : gI σ a 19 = 0) (hn : (8 - dp).toNat < n), Met l yX11_readThing wsX11_readThing ({ frames := 4*n+12, cells := 0, slots := 0, locals := (120*n+900) }) (th_P G y b0 σ [.ref a, .int (I ky), .int (I dp)]) (th_Qv G b0 (fun σ1 => ok y E σ1 ∧ fr [13] E σ σ1 ∧ fm [13, 14, 15, 16, 17, 18, 19, 20, 2, 22] E σ σ1 a ∧ ((((gI σ a 13 ≤ gI σ1 a 13 ∧ gI σ1 a 13 ≤ gI σ a 11 ∧ 0 ≤ gI σ1 a 17 ∧ gI σ1 a 17 ≤ gI σ1 a 13) ∧ pgo (gI σ1 a 19) (gI σ1 a 14) (gI σ a 13) (gI σ1 a 13)) ∧ gI σ a 22 ≤ gI σ1 a 22 ∧ (¬ gI σ1 a 19 = 0 ∨ rdT f2 (aF σ1 (ad E a 2)) (gI σ a 22) (gI σ1 a 22) ky dp)) ∧ ∃ c1 j1, RSt σ1 a T c1 j1 ∧ PTh T dp jt (gI σ a 22) c1 j1 (gI σ1 a 22)))) 0 0 (th_A b0)) (l : Launch) (G : va_G) (y : Nat → ClassId) (b0 : Nat) (σ : th_M) (E : th_E) (hO : ok y E σ) (a : Nat) (h_a : kd E a = 13) (k : Int) (rk : rng k) (l_k : 0 ≤ k) (u_k : k ≤ 236) (dp : Int) (rdp : rng dp) (l_dp : 0 ≤ dp) (u_dp : dp ≤ 7) (en : Int) (ren : rng en) (f2 : Nat → Int32) (ef2 : aF σ (ad E a 2) = f2) (Bf : Int → Int) (hsr : sr E σ a Bf) (T : tkT) (hSt : tkSt Bf T) (fc jt : Int) (hR0 : RSt σ a T fc jt) (md : Int) (hy0 : 0 ≤ gI σ a 17 ∧ gI σ a 17 ≤ gI σ a 13 ∧ gI σ a 13 ≤ gI σ a 11 ∧ gI σ a 11 ≤ 400) (hy1 : k % 4 = 0) (hy2 : k / 4 + 1 = gI σ a 22) (hy3 : (8 - dp).toNat < n + 1) (hy4 : fc = 0) (hy5 : (mK f2 (k / 4) = 3 ∧ en = 125 ∧ md = 2 ∧ tK T jt = 123) ∨ (mK f2 (k / 4) = 2 ∧ en = 93 ∧ md = 1 ∧ tK T jt = 91)) : Met l yX11_readMany wsX11_readMany ({ frames := 4*n+14, cells := 0, slots := 0, locals := (120*n+960) }) (th_P G y b0 σ [.ref a, .int (I k), .int (I dp), .int (I en)]) (th_Qv G b0 (fun σ1 => ok y E σ1 ∧ fr [13] E σ σ1 ∧ fm [13, 14, 15, 16, 17, 18, 19, 20, 2, 22] E σ σ1 a ∧ ((((gI σ a 13 ≤ gI σ1 a 13 ∧ gI σ1 a 13 ≤ gI σ a 11 ∧ 0 ≤ gI σ1 a 17 ∧ gI σ1 a 17 ≤ gI σ1 a 13) ∧ pgo (gI σ1 a 19) (gI σ1 a 14) (gI σ a 13) (gI σ1 a 13)) ∧ gI σ a 22 ≤ gI σ1 a 22 ∧ (¬ gI σ1 a 19 = 0 ∨ rdF f2 (aF σ1 (ad E a 2)) (k / 4) (gI σ1 a 22) dp)) ∧ ∃ c1 j1, RSt σ1 a T c1 j1 ∧ PTh T dp jt (k / 4) c1 j1 (gI σ1 a 22)))) 0 0 (th_A b0) := by
  refine Met.ofW (cc := cX11_readMany) (maxL := 6) (ret := none) (by decide) rfl ?_
  intro p e s m args below meth c s₁ B hml hv
  obtain ⟨rfl, hH, hK⟩ := hv
  have hx := B.exec
  have hb := B.bytes
  have hr := B.returns
  have hts := atoms_spec (ws := wsX11_readMany) B.pre
  have hown : s.vm.findClass RX11 = some m.cls := findClass_of_methodNamed B.named
  have hlocks := B.notSynchronized
  have h00 : b0 ≤ s.heap.size := hH.1
  have hS : va_S (th_A b0) s.heap s.heap [] := va_S.rf
  have hF : fr [13] E σ σ := fr.rf
  have hM : fm [13, 14, 15, 16, 17, 18, 19, 20, 2, 22] E σ σ a := fm.rf
  have inX11 : ∀ w ∈ wsX110, w ∈ wsX11_readMany := by decide +kernel
  have fl0 := hts (.fieldLink RX11 162 "NestQueryModel" "bad" "I") (by decide +kernel)
  have fl1 := hts (.fieldLink RX11 13 "NestQueryModel" "data" "[I") (by decide +kernel)
  have hl := lv_entry ([.ref a, .int (I k), .int (I dp), .int (I en)]) (n := 6) (Nat.le_of_ble_eq_true rfl)
  rw [lg_entry_eq]
  generalize (lg_sl ([.ref a, .int (I k), .int (I dp), .int (I en)]) ++ List.replicate (6 - (lg_sl ([.ref a, .int (I k), .int (I dp), .int (I en)])).length) Slot.unset).toArray = ls at hl ⊢
  have hl : lv_has ls 6 [(0, .ref a), (1, .int (I k)), (2, .int (I dp)), (3, .int (I en))] := hl
  obtain ⟨a110, ea110, ra110, la110, ua110⟩ := hO.gi h_a (by decide) k13_11
  obtain ⟨a130, ea130, ra130, la130, ua130⟩ := hO.gi h_a (by decide) k13_13
  obtain ⟨a140, ea140, ra140, la140, ua140⟩ := hO.gi h_a (by decide) k13_14
  obtain ⟨a170, ea170, ra170, la170, ua170⟩ := hO.gi h_a (by decide) k13_17
  obtain ⟨a190, ea190, ra190, la190, ua190⟩ := hO.gi h_a (by decide) k13_19
  obtain ⟨a220, ea220, ra220, la220, ua220⟩ := hO.gi h_a (by decide) k13_22
  have hV0 := hR0.1
  have h0_1 : fc = 0 := by omega
  try simp only [h0_1, ne_eq, not_true_eq_false, not_false_eq_true, false_implies, true_implies, true_and, and_true, eq_self, false_or, or_false, false_and, and_false] at hV0
  refine lv_aload_n hx hb dX11_readMany_0 rfl (lv_at hl 0 rfl) ?_
  obtain ⟨_, hc_2⟩ := hO.cell h_a (by decide) (ci := 11) rfl
  refine th_callv (va_runV (As := []) (rest := []) ⟨hx, hb, hml, hown, hts⟩ (n_pass l G y b0 σ E hO a h_a Bf hsr T hSt fc jt hR0 (by omega) (by omega)) (cwV 0 hts gX11_readMany_X11_pass rfl rfl rfl (by decide +kernel) ⟨(by first | (simp only [headSpec]; omega) | omega | (dsimp only; omega)), (by first | (simp only [headSpec]; omega) | omega | (dsimp only; omega))⟩) (th_PV hK hH rfl hc_2) rfl rfl hl.1 rfl (lv_room (Nat.le_of_ble_eq_true rfl)) dX11_readMany_1 ⟨(by first | (simp only [headSpec]; omega) | omega | (dsimp only; omega)), (by first | (simp only [headSpec]; omega) | omega | (dsimp only; omega))⟩) hS (fun σ_s_4 H locs hw_3 hH hS => ?_)
  obtain ⟨hO9, hF9, hM9, hw_3⟩ := hw_3
  replace hM := hM.tu hM9 (by decide)
  replace hF := hF.tu hF9 (by decide)
  have e_5 : aF σ_s_4 (ad E a 2) = f2 := (hM9.a (by decide) (by decide)).trans ef2
  have e_6 : gI σ_s_4 a 11 = a110 := (hM9.i (by decide)).trans ea110
  have e_7 : gI σ_s_4 a 19 = a190 := (hM9.i (by decide)).trans ea190
  have e_8 : gI σ_s_4 a 22 = a220 := (hM9.i (by decide)).trans ea220
  replace hsr := hsr.mv hM9 (by decide) (by decide) (by decide) (by decide) (by decide)
  replace hO := hO9
  replace hw_3 : ((gI σ a 13 ≤ gI σ_s_4 a 13 ∧ gI σ_s_4 a 13 ≤ gI σ a 11 ∧ 0 ≤ gI σ_s_4 a 17 ∧ gI σ_s_4 a 17 ≤ gI σ_s_4 a 13) ∧ pgo (gI σ_s_4 a 19) (gI σ_s_4 a 14) (gI σ a 13) (gI σ_s_4 a 13) ∧ gI σ_s_4 a 19 = gI σ a 19) ∧ ∃ c1 j1, RSt σ_s_4 a T c1 j1 ∧ (c1 = fc ∧ (fc ≠ 0 → j1 = jt) ∧ (fc = 0 → j1 = jt + 1)) := hw_3
  have hn_9 := hw_3.2
  replace hw_3 := hw_3.1
  obtain ⟨cc_10, jj_11, hR_12, hn_9⟩ := hn_9
  have hVhR_12 := hR_12.1
  have h0_13 : cc_10 = 0 := by omega
  try simp only [h0_13, ne_eq, not_true_eq_false, not_false_eq_true, false_implies, true_implies, true_and, and_true, eq_self, false_or, or_false, false_and, and_false] at hVhR_12
  have hj9 : jt + 1 = jj_11 := by omega
  subst hj9
  refine lv_aload_n hx hb dX11_readMany_4 rfl (lv_at hl 0 rfl) ?_
  refine lv_iload_n hx hb dX11_readMany_5 rfl (lv_at hl 3 rfl) ?_
  obtain ⟨_, hc_14⟩ := hO.cell h_a (by decide) (ci := 11) rfl
  refine th_calli (va_runV (As := [.int (I en)]) (rest := []) ⟨hx, hb, hml, hown, hts⟩ (n_isMarked l G y b0 σ_s_4 E hO a h_a en (show rng en from ren) (by omega) (by omega) Bf hsr T hSt cc_10 (jt + 1) hR_12 (by omega)) (cwV 1 hts gX11_readMany_X11_isMarked rfl rfl rfl (by decide +kernel) ⟨(by first | (simp only [headSpec]; omega) | omega | (dsimp only; omega)), (by first | (simp only [headSpec]; omega) | omega | (dsimp only; omega))⟩) (th_PV hK hH rfl hc_14) rfl rfl hl.1 rfl (lv_room (Nat.le_of_ble_eq_true rfl)) dX11_readMany_6 ⟨(by first | (simp only [headSpec]; omega) | omega | (dsimp only; omega)), (by first | (simp only [headSpec]; omega) | omega | (dsimp only; omega))⟩) hS (fun z_17 σ_s_16 H locs rz_17 hw_15 hH hS => ?_)
  obtain ⟨e9, bhw_15, hw_15⟩ := hw_15
  replace e9 := e9.symm
  subst e9
  replace hw_15 : (z_17 = 1 ∧ cc_10 = 0 ∧ tK T (jt + 1) = en) ∨ (z_17 = 0 ∧ (cc_10 ≠ 0 ∨ tK T (jt + 1) ≠ en)) := hw_15
  refine lv_if_eq (tgt := 17) hx hb dX11_readMany_9 (by decide) (fun c_18 => ?_) (fun c_18 => ?_)
  · replace c_18 := (I_eq (a := z_17) (b := 0) rz_17 (show rng 0 from ⟨by decide, by decide⟩)).mp c_18
    refine lv_iconst (v := I 1) hx hb dX11_readMany_17 (by decide) ?_
    refine lv_istore (lv' := [(4, .int (I 1)), (0, .ref a), (1, .int (I k)), (2, .int (I dp)), (3, .int (I en))]) hx hb dX11_readMany_18 hl (by decide) rfl (fun ls hl => ?_)
    obtain ⟨z_19, e_20, rz_19, lz_19, uz_19⟩ := hO.gi h_a (by decide) k13_13
    refine th_loop (α := Int × Int × Int × (Nat → Int32)) (pc := 20) (fun x9 => (2 * (gI σ a 11 - x9.2.1) + x9.1).toNat) (fun x9 σ9 H9 l9 ls9 => ok y E σ9 ∧ fr [13] E σ σ9 ∧ fm [13, 14, 15, 16, 17, 18, 19, 20, 2, 22] E σ σ9 a ∧ sr E σ9 a Bf ∧ th_H G b0 σ9 H9 ∧ va_S (th_A b0) s.heap H9 l9 ∧ lv_has ls9 6 [(0, .ref a), (1, .int (I k)), (2, .int (I dp)), (3, .int (I en)), (4, .int (I x9.1))] ∧ rng x9.1 ∧ rng x9.2.1 ∧ rng x9.2.2.1 ∧ (gI σ a 13 ≤ x9.2.1) ∧ (x9.2.1 ≤ gI σ a 11) ∧ (0 ≤ gI σ9 a 17) ∧ (gI σ9 a 17 ≤ x9.2.1) ∧ (k / 4 + 1 ≤ x9.2.2.1) ∧ (x9.2.2.1 ≤ 60) ∧ (0 ≤ x9.1) ∧ (x9.1 ≤ 1) ∧ (pgo (gI σ9 a 19) (gI σ9 a 14) (gI σ a 13) x9.2.1) ∧ (0 ≤ x9.2.2.1) ∧ (¬ gI σ9 a 19 = 0 ∨ rdF f2 x9.2.2.2 (k / 4) x9.2.2.1 dp) ∧ (∃ c2 j2 k2, RSt σ9 a T c2 j2 ∧ (c2 = 0 → krl x9.2.2.2 (k / 4) x9.2.2.1 k2) ∧ lin T md en dp jt (k / 4) k2 x9.1 c2 j2 x9.2.2.1) ∧ (gI σ9 a 11 = a110) ∧ (aF σ9 (ad E a 2) = x9.2.2.2) ∧ (gI σ9 a 13 = x9.2.1) ∧ (gI σ9 a 22 = x9.2.2.1)) ?_ (1, z_19, a220, f2) σ_s_4 _ _ _ ⟨hO, hF, hM, hsr, hH, hS, lv_sub hl [1, 2, 3, 4, 0] rfl, (show rng 1 from ⟨by decide, by decide⟩), rz_19, ra220, by first | (dsimp only; omega) | omega, by first | (dsimp only; omega) | omega, by first | (dsimp only; omega) | omega, by first | (dsimp only; omega) | omega, by first | (dsimp only; omega) | omega, by first | (dsimp only; omega) | omega, by first | (dsimp only; omega) | omega, by first | (dsimp only; omega) | omega, (by have h7 := hw_3.2.1; unfold pgo at h7 ⊢; first | (dsimp only; omega) | omega), by first | (dsimp only; omega) | omega, (Or.inr (by rw [show a220 = k / 4 + 1 by omega]; exact rdF.zero same.rf)), ⟨cc_10, jt + 1, [], hR_12, fun _ => (by rw [show a220 = k / 4 + 1 by omega]; exact krl.zero), (lin.start (op := tK T jt) (mo := 1) (by unfold brk; omega) rfl (by omega) (by omega) (by first | (dsimp only; omega) | omega) (by omega)).ec (by omega)⟩, e_6, e_5, e_20, e_8⟩
    intro x9 σ_J_217 H locs ls hI9 ihJ_217
    obtain ⟨v4q216, G13q214, G22q215, F2q213⟩ := x9
    obtain ⟨hO, hF, hM, hsr, hH, hS, hl, rv4q216, rG13q214, rG22q215, J_217_0, J_217_1, J_217_2, J_217_3, J_217_4, J_217_5, J_217_6, J_217_7, J_217_8, J_217_9, J_217_10, J_217_11, J_217_12, J_217_13, J_217_14, J_217_15⟩ := hI9
    have hl : lv_has ls 6 [(0, .ref a), (1, .int (I k)), (2, .int (I dp)), (3, .int (I en)), (4, .int (I v4q216))] := hl
    have rv4q216 : rng v4q216 := rv4q216
    have rG13q214 : rng G13q214 := rG13q214
    have rG22q215 : rng G22q215 := rG22q215
    replace J_217_0 : gI σ a 13 ≤ G13q214 := J_217_0
    replace J_217_1 : G13q214 ≤ gI σ a 11 := J_217_1
    replace J_217_2 : 0 ≤ gI σ_J_217 a 17 := J_217_2
    replace J_217_3 : gI σ_J_217 a 17 ≤ G13q214 := J_217_3
    replace J_217_4 : k / 4 + 1 ≤ G22q215 := J_217_4
    replace J_217_5 : G22q215 ≤ 60 := J_217_5
    replace J_217_6 : 0 ≤ v4q216 := J_217_6
    replace J_217_7 : v4q216 ≤ 1 := J_217_7
    replace J_217_8 : pgo (gI σ_J_217 a 19) (gI σ_J_217 a 14) (gI σ a 13) G13q214 := J_217_8
    replace J_217_9 : 0 ≤ G22q215 := J_217_9
    replace J_217_10 : ¬ gI σ_J_217 a 19 = 0 ∨ rdF f2 F2q213 (k / 4) G22q215 dp := J_217_10
    replace J_217_11 : ∃ c2 j2 k2, RSt σ_J_217 a T c2 j2 ∧ (c2 = 0 → krl F2q213 (k / 4) G22q215 k2) ∧ lin T md en dp jt (k / 4) k2 v4q216 c2 j2 G22q215 := J_217_11
    replace J_217_12 : gI σ_J_217 a 11 = a110 := J_217_12
    replace J_217_13 : aF σ_J_217 (ad E a 2) = F2q213 := J_217_13
    replace J_217_14 : gI σ_J_217 a 13 = G13q214 := J_217_14
    replace J_217_15 : gI σ_J_217 a 22 = G22q215 := J_217_15
    obtain ⟨cc_218, jj_219, kk_220, hR_221, hk_222, hL_223⟩ := J_217_11
    have hVhR_221 := hR_221.1
    have h0hL_223 := hL_223.c0
    refine lv_iload hx hb dX11_readMany_20 (lv_at hl 4 rfl) ?_
    refine lv_if_eq (tgt := 89) hx hb dX11_readMany_22 (by decide) (fun c_224 => ?_) (fun c_224 => ?_)
    · replace c_224 := (I_eq (a := v4q216) (b := 0) rv4q216 (show rng 0 from ⟨by decide, by decide⟩)).mp c_224
      refine lv_aload_n hx hb dX11_readMany_89 rfl (lv_at hl 0 rfl) ?_
      refine lv_iload_n hx hb dX11_readMany_90 rfl (lv_at hl 3 rfl) ?_
      obtain ⟨_, hc_225⟩ := hO.cell h_a (by decide) (ci := 11) rfl
      refine th_callv (va_runV (As := [.int (I en)]) (rest := []) ⟨hx, hb, hml, hown, hts⟩ (n_need l G y b0 σ_J_217 E hO a h_a en (show rng en from ren) (by omega) (by omega) Bf hsr T hSt cc_218 jj_219 hR_221 (by omega)) (cwV 1 hts gX11_readMany_X11_need rfl rfl rfl (by decide +kernel) ⟨(by first | (simp only [headSpec]; omega) | omega | (dsimp only; omega)), (by first | (simp only [headSpec]; omega) | omega | (dsimp only; omega))⟩) (th_PV hK hH rfl hc_225) rfl rfl hl.1 rfl (lv_room (Nat.le_of_ble_eq_true rfl)) dX11_readMany_91 ⟨(by first | (simp only [headSpec]; omega) | omega | (dsimp only; omega)), (by first | (simp only [headSpec]; omega) | omega | (dsimp only; omega))⟩) hS (fun σ_s_227 H locs hw_226 hH hS => ?_)
      obtain ⟨hO9, hF9, hM9, hw_226⟩ := hw_226
      replace hM := hM.tu hM9 (by decide)
      replace hF := hF.tu hF9 (by decide)
      have e_228 : gI σ_s_227 a 11 = a110 := (hM9.i (by decide)).trans J_217_12
      have e_229 : aF σ_s_227 (ad E a 2) = F2q213 := (hM9.a (by decide) (by decide)).trans J_217_13
      have e_230 : gI σ_s_227 a 22 = G22q215 := (hM9.i (by decide)).trans J_217_15
      replace hsr := hsr.mv hM9 (by decide) (by decide) (by decide) (by decide) (by decide)
      replace hO := hO9
      replace hw_226 : ((gI σ_J_217 a 13 ≤ gI σ_s_227 a 13 ∧ gI σ_s_227 a 13 ≤ gI σ_J_217 a 11 ∧ 0 ≤ gI σ_s_227 a 17 ∧ gI σ_s_227 a 17 ≤ gI σ_s_227 a 13) ∧ pgo (gI σ_s_227 a 19) (gI σ_s_227 a 14) (gI σ_J_217 a 13) (gI σ_s_227 a 13) ∧ bdo (gI σ_J_217 a 19) (gI σ_s_227 a 19)) ∧ ∃ c1 j1, RSt σ_s_227 a T c1 j1 ∧ ((cc_218 ≠ 0 → c1 = cc_218 ∧ j1 = jj_219) ∧ (cc_218 = 0 → (tK T jj_219 = en ∧ c1 = 0 ∧ j1 = jj_219 + 1) ∨ (tK T jj_219 ≠ en ∧ c1 = 1 ∧ j1 = jj_219))) := hw_226
      have hn_231 := hw_226.2
      replace hw_226 := hw_226.1
      obtain ⟨cc_232, jj_233, hR_234, hn_231⟩ := hn_231
      have hVhR_234 := hR_234.1
      exact th_vret hx hb hr hlocks hH hS ⟨hO, hF, hM, (by first | (exfalso; omega) | exact ⟨⟨⟨by omega, pgo.of (by have h7 := J_217_8; have h8 := hw_226.2.1; have h6 := hw_226.2.2; unfold pgo at h7 h8; unfold bdo at h6; omega)⟩, by omega, (J_217_10).elim (fun h9 => Or.inl (by have h6 := hw_226.2; unfold bdo at h6; omega)) (fun h9 => Or.inr (by rw [show gI σ_s_227 a 22 = G22q215 by omega, show aF σ_s_227 (ad E a 2) = F2q213 from e_229]; exact h9))⟩, cc_232, jj_233, hR_234, (by have h9 := (hL_223.em (mo2 := 0) (by omega)).done hn_231.1 hn_231.2; rw [show G22q215 = gI σ_s_227 a 22 by omega] at h9; exact h9)⟩)⟩ dX11_readMany_94
    · replace c_224 := mt (I_eq (a := v4q216) (b := 0) rv4q216 (show rng 0 from ⟨by decide, by decide⟩)).mpr c_224
      refine lv_aload_n hx hb dX11_readMany_25 rfl (lv_at hl 0 rfl) ?_
      refine ok.getI hO h_a (by decide) k13_19 (fun _ _ he hv kk => th_get (ci := 11) (C := RX11) (T := TX11) (N := 66) hx hb hts inX11 hown hK hH he rfl 19 (by decide) fl0 hv dX11_readMany_26 kk) (fun z_235 e_236 rz_235 lz_235 uz_235 => ?_)
      refine lv_if_ne (tgt := 89) hx hb dX11_readMany_29 (by decide) (fun c_237 => ?_) (fun c_237 => ?_)
      · replace c_237 := mt (I_eq (a := z_235) (b := 0) rz_235 (show rng 0 from ⟨by decide, by decide⟩)).mpr c_237
        refine lv_aload_n hx hb dX11_readMany_89 rfl (lv_at hl 0 rfl) ?_
        refine lv_iload_n hx hb dX11_readMany_90 rfl (lv_at hl 3 rfl) ?_
        obtain ⟨_, hc_238⟩ := hO.cell h_a (by decide) (ci := 11) rfl
        refine th_callv (va_runV (As := [.int (I en)]) (rest := []) ⟨hx, hb, hml, hown, hts⟩ (n_need l G y b0 σ_J_217 E hO a h_a en (show rng en from ren) (by omega) (by omega) Bf hsr T hSt cc_218 jj_219 hR_221 (by omega)) (cwV 1 hts gX11_readMany_X11_need rfl rfl rfl (by decide +kernel) ⟨(by first | (simp only [headSpec]; omega) | omega | (dsimp only; omega)), (by first | (simp only [headSpec]; omega) | omega | (dsimp only; omega))⟩) (th_PV hK hH rfl hc_238) rfl rfl hl.1 rfl (lv_room (Nat.le_of_ble_eq_true rfl)) dX11_readMany_91 ⟨(by first | (simp only [headSpec]; omega) | omega | (dsimp only; omega)), (by first | (simp only [headSpec]; omega) | omega | (dsimp only; omega))⟩) hS (fun σ_s_240 H locs hw_239 hH hS => ?_)
        obtain ⟨hO9, hF9, hM9, hw_239⟩ := hw_239
        replace hM := hM.tu hM9 (by decide)
        replace hF := hF.tu hF9 (by decide)
        have e_241 : gI σ_s_240 a 11 = a110 := (hM9.i (by decide)).trans J_217_12
        have e_242 : aF σ_s_240 (ad E a 2) = F2q213 := (hM9.a (by decide) (by decide)).trans J_217_13
        have e_243 : gI σ_s_240 a 22 = G22q215 := (hM9.i (by decide)).trans J_217_15
        replace hsr := hsr.mv hM9 (by decide) (by decide) (by decide) (by decide) (by decide)
        replace hO := hO9
        replace hw_239 : ((gI σ_J_217 a 13 ≤ gI σ_s_240 a 13 ∧ gI σ_s_240 a 13 ≤ gI σ_J_217 a 11 ∧ 0 ≤ gI σ_s_240 a 17 ∧ gI σ_s_240 a 17 ≤ gI σ_s_240 a 13) ∧ pgo (gI σ_s_240 a 19) (gI σ_s_240 a 14) (gI σ_J_217 a 13) (gI σ_s_240 a 13) ∧ bdo (gI σ_J_217 a 19) (gI σ_s_240 a 19)) ∧ ∃ c1 j1, RSt σ_s_240 a T c1 j1 ∧ ((cc_218 ≠ 0 → c1 = cc_218 ∧ j1 = jj_219) ∧ (cc_218 = 0 → (tK T jj_219 = en ∧ c1 = 0 ∧ j1 = jj_219 + 1) ∨ (tK T jj_219 ≠ en ∧ c1 = 1 ∧ j1 = jj_219))) := hw_239
        have hn_244 := hw_239.2
        replace hw_239 := hw_239.1
        obtain ⟨cc_245, jj_246, hR_247, hn_244⟩ := hn_244
        have hVhR_247 := hR_247.1
        exact th_vret hx hb hr hlocks hH hS ⟨hO, hF, hM, (by first | (exfalso; omega) | exact ⟨⟨⟨by omega, pgo.of (by have h7 := J_217_8; have h8 := hw_239.2.1; have h6 := hw_239.2.2; unfold pgo at h7 h8; unfold bdo at h6; omega)⟩, by omega, (J_217_10).elim (fun h9 => Or.inl (by have h6 := hw_239.2; unfold bdo at h6; omega)) (fun h9 => Or.inr (by rw [show gI σ_s_240 a 22 = G22q215 by omega, show aF σ_s_240 (ad E a 2) = F2q213 from e_242]; exact h9))⟩, cc_245, jj_246, hR_247, (by have h9 := (hL_223.em (mo2 := 0) (by omega)).done hn_244.1 hn_244.2; rw [show G22q215 = gI σ_s_240 a 22 by omega] at h9; exact h9)⟩)⟩ dX11_readMany_94
      · replace c_237 := (I_eq (a := z_235) (b := 0) rz_235 (show rng 0 from ⟨by decide, by decide⟩)).mp c_237
        have h0_248 : cc_218 = 0 := by omega
        try simp only [h0_248, ne_eq, not_true_eq_false, not_false_eq_true, false_implies, true_implies, true_and, and_true, eq_self, false_or, or_false, false_and, and_false] at hVhR_221
        have hR9 := (J_217_10).resolve_left (by omega)
        have hK9 := hR9.k (by omega)
        refine lv_aload_n hx hb dX11_readMany_32 rfl (lv_at hl 0 rfl) ?_
        refine ok.getR hO h_a (by decide) k13_2 (by decide) (fun _ _ he hv kk => th_get (ci := 11) (C := RX11) (T := TX11) (N := 66) hx hb hts inX11 hown hK hH he rfl 2 (by decide) fl1 hv dX11_readMany_33 kk) ?_
        refine lv_iload_n hx hb dX11_readMany_36 rfl (lv_at hl 1 rfl) ?_
        refine m_iald hx hb hK hH hO h_a k13_2 isA1 J_217_13 rk (by omega) (by omega) dX11_readMany_37 (fun z_249 ez_249 rz_249 elx9 => ?_)
        have hK8 : mK F2q213 (k / 4) = z_249 := (by unfold mK; rw [show 4 * (k / 4) = k by omega]; exact ez_249)
        refine lv_iconst (v := I 3) hx hb dX11_readMany_38 (by decide) ?_
        refine lv_icmp_ne (tgt := 50) hx hb dX11_readMany_39 (by decide) (fun c_250 => ?_) (fun c_250 => ?_)
        · replace c_250 := mt (I_eq (a := z_249) (b := 3) rz_249 (show rng 3 from ⟨by decide, by decide⟩)).mpr c_250
          refine lv_iconst (v := I 0) hx hb dX11_readMany_50 (by decide) ?_
          refine lv_istore (lv' := [(5, .int (I 0)), (0, .ref a), (1, .int (I k)), (2, .int (I dp)), (3, .int (I en)), (4, .int (I v4q216))]) hx hb dX11_readMany_51 hl (by decide) rfl (fun ls hl => ?_)
          refine lv_aload_n hx hb dX11_readMany_53 rfl (lv_at hl 1 rfl) ?_
          refine ok.getIc hO h_a (by decide) k13_19 e_236 (fun _ _ he hv kk => th_get (ci := 11) (C := RX11) (T := TX11) (N := 66) hx hb hts inX11 hown hK hH he rfl 19 (by decide) fl0 hv dX11_readMany_54 kk) ?_
          refine lv_if_ne (tgt := 69) hx hb dX11_readMany_57 (by decide) (fun c_251 => ?_) (fun c_251 => ?_)
          · replace c_251 := mt (I_eq (a := z_235) (b := 0) rz_235 (show rng 0 from ⟨by decide, by decide⟩)).mpr c_251
            exfalso; omega
          · replace c_251 := (I_eq (a := z_235) (b := 0) rz_235 (show rng 0 from ⟨by decide, by decide⟩)).mp c_251
            refine lv_aload_n hx hb dX11_readMany_60 rfl (lv_at hl 1 rfl) ?_
            refine lv_iload hx hb dX11_readMany_61 (lv_at hl 0 rfl) ?_
            refine lv_iload_n hx hb dX11_readMany_63 rfl (lv_at hl 3 rfl) ?_
            refine lv_iconst (v := I 1) hx hb dX11_readMany_64 (by decide) ?_
            refine lv_iadd hx hb dX11_readMany_65 ?_
            refine nq_top (I_add _ _) ?_
            obtain ⟨_, hc_252⟩ := hO.cell h_a (by decide) (ci := 11) rfl
            refine th_callv (va_runV (As := [.int (I 0), .int (I (dp + 1))]) (rest := []) ⟨hx, hb, hml, hown, hts⟩ (ih l G y b0 σ_J_217 E hO a h_a 0 (show rng 0 from (show rng 0 from ⟨by decide, by decide⟩)) (dp + 1) (show rng (dp + 1) from ⟨by omega, by omega⟩) (by omega) (by omega) F2q213 J_217_13 Bf hsr T hSt cc_218 jj_219 hR_221 (by omega) (by omega) (by omega)) (cwV 2 hts gX11_readMany_X11_readThing rfl rfl rfl (by decide +kernel) ⟨(by first | (simp only [headSpec]; omega) | omega | (dsimp only; omega)), (by first | (simp only [headSpec]; omega) | omega | (dsimp only; omega))⟩) (th_PV hK hH rfl hc_252) rfl rfl hl.1 rfl (lv_room (Nat.le_of_ble_eq_true rfl)) dX11_readMany_66 ⟨(by first | (simp only [headSpec]; omega) | omega | (dsimp only; omega)), (by first | (simp only [headSpec]; omega) | omega | (dsimp only; omega))⟩) hS (fun σ_s_254 H locs hw_253 hH hS => ?_)
            obtain ⟨hO9, hF9, hM9, hw_253⟩ := hw_253
            replace hM := hM.tu hM9 (by decide)
            replace hF := hF.tu hF9 (by decide)
            have e_255 : gI σ_s_254 a 11 = a110 := (hM9.i (by decide)).trans J_217_12
            replace hsr := hsr.mv hM9 (by decide) (by decide) (by decide) (by decide) (by decide)
            replace hO := hO9
            generalize ef_257 : aF σ_s_254 (ad E a 2) = g_256 at hw_253
            replace hw_253 : (((gI σ_J_217 a 13 ≤ gI σ_s_254 a 13 ∧ gI σ_s_254 a 13 ≤ gI σ_J_217 a 11 ∧ 0 ≤ gI σ_s_254 a 17 ∧ gI σ_s_254 a 17 ≤ gI σ_s_254 a 13) ∧ pgo (gI σ_s_254 a 19) (gI σ_s_254 a 14) (gI σ_J_217 a 13) (gI σ_s_254 a 13)) ∧ gI σ_J_217 a 22 ≤ gI σ_s_254 a 22 ∧ (¬ gI σ_s_254 a 19 = 0 ∨ rdT F2q213 g_256 (gI σ_J_217 a 22) (gI σ_s_254 a 22) 0 (dp + 1))) ∧ ∃ c1 j1, RSt σ_s_254 a T c1 j1 ∧ PTh T (dp + 1) jj_219 (gI σ_J_217 a 22) c1 j1 (gI σ_s_254 a 22) := hw_253
            have hn_258 := hw_253.2
            replace hw_253 := hw_253.1
            obtain ⟨cc_259, jj_260, hR_261, hn_258⟩ := hn_258
            have hVhR_261 := hR_261.1
            have ht0hR_261 := hR_261.t0
            rcases Classical.em (cc_259 = 0) with h0_262 | h0_262
            · try simp only [h0_262, ne_eq, not_true_eq_false, not_false_eq_true, false_implies, true_implies, true_and, and_true, eq_self, false_or, or_false, false_and, and_false] at hVhR_261
              refine lv_aload_n hx hb dX11_readMany_69 rfl (lv_at hl 1 rfl) ?_
              refine lv_bipush (v := I 44) hx hb dX11_readMany_70 (by decide) ?_
              obtain ⟨_, hc_263⟩ := hO.cell h_a (by decide) (ci := 11) rfl
              refine th_calli (va_runV (As := [.int (I 44)]) (rest := []) ⟨hx, hb, hml, hown, hts⟩ (n_isMarked l G y b0 σ_s_254 E hO a h_a 44 (show rng 44 from (show rng 44 from ⟨by decide, by decide⟩)) (by omega) (by omega) Bf hsr T hSt cc_259 jj_260 hR_261 (by omega)) (cwV 1 hts gX11_readMany_X11_isMarked rfl rfl rfl (by decide +kernel) ⟨(by first | (simp only [headSpec]; omega) | omega | (dsimp only; omega)), (by first | (simp only [headSpec]; omega) | omega | (dsimp only; omega))⟩) (th_PV hK hH rfl hc_263) rfl rfl hl.1 rfl (lv_room (Nat.le_of_ble_eq_true rfl)) dX11_readMany_72 ⟨(by first | (simp only [headSpec]; omega) | omega | (dsimp only; omega)), (by first | (simp only [headSpec]; omega) | omega | (dsimp only; omega))⟩) hS (fun z_266 σ_s_265 H locs rz_266 hw_264 hH hS => ?_)
              obtain ⟨e9, bhw_264, hw_264⟩ := hw_264
              replace e9 := e9.symm
              subst e9
              replace hw_264 : (z_266 = 1 ∧ cc_259 = 0 ∧ tK T jj_260 = 44) ∨ (z_266 = 0 ∧ (cc_259 ≠ 0 ∨ tK T jj_260 ≠ 44)) := hw_264
              refine lv_istore (lv' := [(4, .int (I z_266)), (5, .int (I 0)), (0, .ref a), (1, .int (I k)), (2, .int (I dp)), (3, .int (I en))]) hx hb dX11_readMany_75 hl (by decide) rfl (fun ls hl => ?_)
              refine lv_iload hx hb dX11_readMany_77 (lv_at hl 0 rfl) ?_
              refine lv_if_eq (tgt := 86) hx hb dX11_readMany_79 (by decide) (fun c_267 => ?_) (fun c_267 => ?_)
              · replace c_267 := (I_eq (a := z_266) (b := 0) rz_266 (show rng 0 from ⟨by decide, by decide⟩)).mp c_267
                refine lv_goto (tgt := 20) hx hb dX11_readMany_86 (by decide) ?_
                replace hl : lv_has ls 6 [(4, .int (I z_266)), (0, .ref a), (1, .int (I k)), (2, .int (I dp)), (3, .int (I en))] := lv_sub hl [0, 2, 3, 4, 5] rfl
                obtain ⟨z_268, e_269, rz_268, lz_268, uz_268⟩ := hO.gi h_a (by decide) k13_13
                obtain ⟨z_270, e_271, rz_270, lz_270, uz_270⟩ := hO.gi h_a (by decide) k13_22
                exact ihJ_217 (z_266, z_268, z_270, g_256) σ_s_254 _ _ _ (by have h8 := hw_253.1.2; unfold pgo at h8; first | (dsimp only; omega) | omega) ⟨hO, hF, hM, hsr, hH, hS, lv_sub hl [1, 2, 3, 4, 0] rfl, rz_266, rz_268, rz_270, by first | (dsimp only; omega) | omega, by first | (dsimp only; omega) | omega, by first | (dsimp only; omega) | omega, by first | (dsimp only; omega) | omega, by first | (dsimp only; omega) | omega, by first | (dsimp only; omega) | omega, by first | (dsimp only; omega) | omega, by first | (dsimp only; omega) | omega, (by have h8 := hw_253.1.2; unfold pgo at h8; unfold pgo; first | (dsimp only; omega) | omega), by first | (dsimp only; omega) | omega, (hw_253.2.2.elim (fun h9 => Or.inl (by omega)) (fun h9 => Or.inr (by rw [show z_270 = gI σ_s_254 a 22 by omega]; exact hR9.step (by rwa [show gI σ_J_217 a 22 = G22q215 by omega] at h9) (by intro h9; first | exact absurd h9 (by omega) | (have h8 := hX.2.2.resolve_left (by omega); rwa [show gI σ a 22 = G22q215 by omega] at h8)) (by omega)))), ⟨cc_259, jj_260, kk_220 ++ [0], hR_261, fun h9 => by have h8 := hw_253.2.2.resolve_left (by omega); rw [show gI σ_J_217 a 22 = G22q215 by omega, show gI σ_s_254 a 22 = z_270 by omega] at h8; exact krl.step (hk_222 (by omega)) h8 (by omega), by obtain ⟨z9, hP9, hz9⟩ := hn_258; rw [show gI σ_J_217 a 22 = G22q215 by omega] at hP9; exact (lin.item (op := tK T jt) (mo := z_266) (s4 := z_270) (c4 := cc_259) (j4 := jj_260) (by unfold brk; omega) (hL_223.em (by omega)) (by rw [show md = 1 by omega]; exact kyR.list) hP9 (fun h9 => by have h8 := hz9 h9; omega) (by omega)).ec (by omega)⟩, e_255, ef_257, e_269, e_271⟩
              · replace c_267 := mt (I_eq (a := z_266) (b := 0) rz_266 (show rng 0 from ⟨by decide, by decide⟩)).mpr c_267
                refine lv_aload_n hx hb dX11_readMany_82 rfl (lv_at hl 2 rfl) ?_
                obtain ⟨z_272, e_273, rz_272, lz_272, uz_272⟩ := hO.gi h_a (by decide) k13_22
                obtain ⟨_, hc_274⟩ := hO.cell h_a (by decide) (ci := 11) rfl
                refine th_callv (va_runV (As := []) (rest := []) ⟨hx, hb, hml, hown, hts⟩ (n_pass l G y b0 σ_s_254 E hO a h_a Bf hsr T hSt cc_259 jj_260 hR_261 (by omega) (by omega)) (cwV 0 hts gX11_readMany_X11_pass rfl rfl rfl (by decide +kernel) ⟨(by first | (simp only [headSpec]; omega) | omega | (dsimp only; omega)), (by first | (simp only [headSpec]; omega) | omega | (dsimp only; omega))⟩) (th_PV hK hH rfl hc_274) rfl rfl hl.1 rfl (lv_room (Nat.le_of_ble_eq_true rfl)) dX11_readMany_83 ⟨(by first | (simp only [headSpec]; omega) | omega | (dsimp only; omega)), (by first | (simp only [headSpec]; omega) | omega | (dsimp only; omega))⟩) hS (fun σ_s_276 H locs hw_275 hH hS => ?_)
                obtain ⟨hO9, hF9, hM9, hw_275⟩ := hw_275
                replace hM := hM.tu hM9 (by decide)
                replace hF := hF.tu hF9 (by decide)
                have e_277 : gI σ_s_276 a 11 = a110 := (hM9.i (by decide)).trans e_255
                have e_278 : aF σ_s_276 (ad E a 2) = g_256 := (hM9.a (by decide) (by decide)).trans ef_257
                have e_279 : gI σ_s_276 a 22 = z_272 := (hM9.i (by decide)).trans e_273
                replace hsr := hsr.mv hM9 (by decide) (by decide) (by decide) (by decide) (by decide)
                replace hO := hO9
                replace hw_275 : ((gI σ_s_254 a 13 ≤ gI σ_s_276 a 13 ∧ gI σ_s_276 a 13 ≤ gI σ_s_254 a 11 ∧ 0 ≤ gI σ_s_276 a 17 ∧ gI σ_s_276 a 17 ≤ gI σ_s_276 a 13) ∧ pgo (gI σ_s_276 a 19) (gI σ_s_276 a 14) (gI σ_s_254 a 13) (gI σ_s_276 a 13) ∧ gI σ_s_276 a 19 = gI σ_s_254 a 19) ∧ ∃ c1 j1, RSt σ_s_276 a T c1 j1 ∧ (c1 = cc_259 ∧ (cc_259 ≠ 0 → j1 = jj_260) ∧ (cc_259 = 0 → j1 = jj_260 + 1)) := hw_275
                have hn_280 := hw_275.2
                replace hw_275 := hw_275.1
                obtain ⟨cc_281, jj_282, hR_283, hn_280⟩ := hn_280
                have hVhR_283 := hR_283.1
                have h0_284 : cc_281 = 0 := by omega
                try simp only [h0_284, ne_eq, not_true_eq_false, not_false_eq_true, false_implies, true_implies, true_and, and_true, eq_self, false_or, or_false, false_and, and_false] at hVhR_283
                refine lv_goto (tgt := 20) hx hb dX11_readMany_86 (by decide) ?_
                replace hl : lv_has ls 6 [(4, .int (I z_266)), (0, .ref a), (1, .int (I k)), (2, .int (I dp)), (3, .int (I en))] := lv_sub hl [0, 2, 3, 4, 5] rfl
                obtain ⟨z_285, e_286, rz_285, lz_285, uz_285⟩ := hO.gi h_a (by decide) k13_13
                exact ihJ_217 (z_266, z_285, z_272, g_256) σ_s_276 _ _ _ (by have h8 := hw_253.1.2; unfold pgo at h8; first | (dsimp only; omega) | omega) ⟨hO, hF, hM, hsr, hH, hS, lv_sub hl [1, 2, 3, 4, 0] rfl, rz_266, rz_285, rz_272, by first | (dsimp only; omega) | omega, by first | (dsimp only; omega) | omega, by first | (dsimp only; omega) | omega, by first | (dsimp only; omega) | omega, by first | (dsimp only; omega) | omega, by first | (dsimp only; omega) | omega, by first | (dsimp only; omega) | omega, by first | (dsimp only; omega) | omega, (by have h8 := hw_253.1.2; unfold pgo at h8; unfold pgo; first | (dsimp only; omega) | omega), by first | (dsimp only; omega) | omega, (hw_253.2.2.elim (fun h9 => Or.inl (by omega)) (fun h9 => Or.inr (by rw [show z_272 = gI σ_s_254 a 22 by omega]; exact hR9.step (by rwa [show gI σ_J_217 a 22 = G22q215 by omega] at h9) (by intro h9; first | exact absurd h9 (by omega) | (have h8 := hX.2.2.resolve_left (by omega); rwa [show gI σ a 22 = G22q215 by omega] at h8)) (by omega)))), ⟨cc_281, jj_282, kk_220 ++ [0], hR_283, fun h9 => by have h8 := hw_253.2.2.resolve_left (by omega); rw [show gI σ_J_217 a 22 = G22q215 by omega, show gI σ_s_254 a 22 = z_272 by omega] at h8; exact krl.step (hk_222 (by omega)) h8 (by omega), by obtain ⟨z9, hP9, hz9⟩ := hn_258; rw [show gI σ_J_217 a 22 = G22q215 by omega] at hP9; exact (lin.item (op := tK T jt) (mo := z_266) (s4 := z_272) (c4 := cc_259) (j4 := jj_260) (by unfold brk; omega) (hL_223.em (by omega)) (by rw [show md = 1 by omega]; exact kyR.list) hP9 (fun h9 => by have h8 := hz9 h9; omega) (by omega)).ec (by omega)⟩, e_277, e_278, e_286, e_279⟩
            · try simp only [h0_262, ne_eq, not_true_eq_false, not_false_eq_true, false_implies, true_implies, true_and, and_true, eq_self, false_or, or_false, false_and, and_false] at hVhR_261
              refine lv_aload_n hx hb dX11_readMany_69 rfl (lv_at hl 1 rfl) ?_
              refine lv_bipush (v := I 44) hx hb dX11_readMany_70 (by decide) ?_
              obtain ⟨_, hc_287⟩ := hO.cell h_a (by decide) (ci := 11) rfl
              refine th_calli (va_runV (As := [.int (I 44)]) (rest := []) ⟨hx, hb, hml, hown, hts⟩ (n_isMarked l G y b0 σ_s_254 E hO a h_a 44 (show rng 44 from (show rng 44 from ⟨by decide, by decide⟩)) (by omega) (by omega) Bf hsr T hSt cc_259 jj_260 hR_261 (by omega)) (cwV 1 hts gX11_readMany_X11_isMarked rfl rfl rfl (by decide +kernel) ⟨(by first | (simp only [headSpec]; omega) | omega | (dsimp only; omega)), (by first | (simp only [headSpec]; omega) | omega | (dsimp only; omega))⟩) (th_PV hK hH rfl hc_287) rfl rfl hl.1 rfl (lv_room (Nat.le_of_ble_eq_true rfl)) dX11_readMany_72 ⟨(by first | (simp only [headSpec]; omega) | omega | (dsimp only; omega)), (by first | (simp only [headSpec]; omega) | omega | (dsimp only; omega))⟩) hS (fun z_290 σ_s_289 H locs rz_290 hw_288 hH hS => ?_)
              obtain ⟨e9, bhw_288, hw_288⟩ := hw_288
              replace e9 := e9.symm
              subst e9
              replace hw_288 : (z_290 = 1 ∧ cc_259 = 0 ∧ tK T jj_260 = 44) ∨ (z_290 = 0 ∧ (cc_259 ≠ 0 ∨ tK T jj_260 ≠ 44)) := hw_288
              refine lv_istore (lv' := [(4, .int (I z_290)), (5, .int (I 0)), (0, .ref a), (1, .int (I k)), (2, .int (I dp)), (3, .int (I en))]) hx hb dX11_readMany_75 hl (by decide) rfl (fun ls hl => ?_)
              refine lv_iload hx hb dX11_readMany_77 (lv_at hl 0 rfl) ?_
              refine lv_if_eq (tgt := 86) hx hb dX11_readMany_79 (by decide) (fun c_291 => ?_) (fun c_291 => ?_)
              · replace c_291 := (I_eq (a := z_290) (b := 0) rz_290 (show rng 0 from ⟨by decide, by decide⟩)).mp c_291
                refine lv_goto (tgt := 20) hx hb dX11_readMany_86 (by decide) ?_
                replace hl : lv_has ls 6 [(4, .int (I z_290)), (0, .ref a), (1, .int (I k)), (2, .int (I dp)), (3, .int (I en))] := lv_sub hl [0, 2, 3, 4, 5] rfl
                obtain ⟨z_292, e_293, rz_292, lz_292, uz_292⟩ := hO.gi h_a (by decide) k13_13
                obtain ⟨z_294, e_295, rz_294, lz_294, uz_294⟩ := hO.gi h_a (by decide) k13_22
                exact ihJ_217 (z_290, z_292, z_294, g_256) σ_s_254 _ _ _ (by have h8 := hw_253.1.2; unfold pgo at h8; first | (dsimp only; omega) | omega) ⟨hO, hF, hM, hsr, hH, hS, lv_sub hl [1, 2, 3, 4, 0] rfl, rz_290, rz_292, rz_294, by first | (dsimp only; omega) | omega, by first | (dsimp only; omega) | omega, by first | (dsimp only; omega) | omega, by first | (dsimp only; omega) | omega, by first | (dsimp only; omega) | omega, by first | (dsimp only; omega) | omega, by first | (dsimp only; omega) | omega, by first | (dsimp only; omega) | omega, (by have h8 := hw_253.1.2; unfold pgo at h8; unfold pgo; first | (dsimp only; omega) | omega), by first | (dsimp only; omega) | omega, (hw_253.2.2.elim (fun h9 => Or.inl (by omega)) (fun h9 => Or.inr (by rw [show z_294 = gI σ_s_254 a 22 by omega]; exact hR9.step (by rwa [show gI σ_J_217 a 22 = G22q215 by omega] at h9) (by intro h9; first | exact absurd h9 (by omega) | (have h8 := hX.2.2.resolve_left (by omega); rwa [show gI σ a 22 = G22q215 by omega] at h8)) (by omega)))), ⟨cc_259, jj_260, kk_220 ++ [0], hR_261, fun h9 => by have h8 := hw_253.2.2.resolve_left (by omega); rw [show gI σ_J_217 a 22 = G22q215 by omega, show gI σ_s_254 a 22 = z_294 by omega] at h8; exact krl.step (hk_222 (by omega)) h8 (by omega), by obtain ⟨z9, hP9, hz9⟩ := hn_258; rw [show gI σ_J_217 a 22 = G22q215 by omega] at hP9; exact (lin.item (op := tK T jt) (mo := z_290) (s4 := z_294) (c4 := cc_259) (j4 := jj_260) (by unfold brk; omega) (hL_223.em (by omega)) (by rw [show md = 1 by omega]; exact kyR.list) hP9 (fun h9 => by have h8 := hz9 h9; omega) (by omega)).ec (by omega)⟩, e_255, ef_257, e_293, e_295⟩
              · replace c_291 := mt (I_eq (a := z_290) (b := 0) rz_290 (show rng 0 from ⟨by decide, by decide⟩)).mpr c_291
                refine lv_aload_n hx hb dX11_readMany_82 rfl (lv_at hl 2 rfl) ?_
                obtain ⟨z_296, e_297, rz_296, lz_296, uz_296⟩ := hO.gi h_a (by decide) k13_22
                obtain ⟨_, hc_298⟩ := hO.cell h_a (by decide) (ci := 11) rfl
                refine th_callv (va_runV (As := []) (rest := []) ⟨hx, hb, hml, hown, hts⟩ (n_pass l G y b0 σ_s_254 E hO a h_a Bf hsr T hSt cc_259 jj_260 hR_261 (by omega) (by omega)) (cwV 0 hts gX11_readMany_X11_pass rfl rfl rfl (by decide +kernel) ⟨(by first | (simp only [headSpec]; omega) | omega | (dsimp only; omega)), (by first | (simp only [headSpec]; omega) | omega | (dsimp only; omega))⟩) (th_PV hK hH rfl hc_298) rfl rfl hl.1 rfl (lv_room (Nat.le_of_ble_eq_true rfl)) dX11_readMany_83 ⟨(by first | (simp only [headSpec]; omega) | omega | (dsimp only; omega)), (by first | (simp only [headSpec]; omega) | omega | (dsimp only; omega))⟩) hS (fun σ_s_300 H locs hw_299 hH hS => ?_)
                obtain ⟨hO9, hF9, hM9, hw_299⟩ := hw_299
                replace hM := hM.tu hM9 (by decide)
                replace hF := hF.tu hF9 (by decide)
                have e_301 : gI σ_s_300 a 11 = a110 := (hM9.i (by decide)).trans e_255
                have e_302 : aF σ_s_300 (ad E a 2) = g_256 := (hM9.a (by decide) (by decide)).trans ef_257
                have e_303 : gI σ_s_300 a 22 = z_296 := (hM9.i (by decide)).trans e_297
                replace hsr := hsr.mv hM9 (by decide) (by decide) (by decide) (by decide) (by decide)
                replace hO := hO9
                replace hw_299 : ((gI σ_s_254 a 13 ≤ gI σ_s_300 a 13 ∧ gI σ_s_300 a 13 ≤ gI σ_s_254 a 11 ∧ 0 ≤ gI σ_s_300 a 17 ∧ gI σ_s_300 a 17 ≤ gI σ_s_300 a 13) ∧ pgo (gI σ_s_300 a 19) (gI σ_s_300 a 14) (gI σ_s_254 a 13) (gI σ_s_300 a 13) ∧ gI σ_s_300 a 19 = gI σ_s_254 a 19) ∧ ∃ c1 j1, RSt σ_s_300 a T c1 j1 ∧ (c1 = cc_259 ∧ (cc_259 ≠ 0 → j1 = jj_260) ∧ (cc_259 = 0 → j1 = jj_260 + 1)) := hw_299
                have hn_304 := hw_299.2
                replace hw_299 := hw_299.1
                obtain ⟨cc_305, jj_306, hR_307, hn_304⟩ := hn_304
                have hVhR_307 := hR_307.1
                have h0_308 : ¬ cc_305 = 0 := by omega
                try simp only [h0_308, ne_eq, not_true_eq_false, not_false_eq_true, false_implies, true_implies, true_and, and_true, eq_self, false_or, or_false, false_and, and_false] at hVhR_307
                refine lv_goto (tgt := 20) hx hb dX11_readMany_86 (by decide) ?_
                replace hl : lv_has ls 6 [(4, .int (I z_290)), (0, .ref a), (1, .int (I k)), (2, .int (I dp)), (3, .int (I en))] := lv_sub hl [0, 2, 3, 4, 5] rfl
                obtain ⟨z_309, e_310, rz_309, lz_309, uz_309⟩ := hO.gi h_a (by decide) k13_13
                exact ihJ_217 (z_290, z_309, z_296, g_256) σ_s_300 _ _ _ (by have h8 := hw_253.1.2; unfold pgo at h8; first | (dsimp only; omega) | omega) ⟨hO, hF, hM, hsr, hH, hS, lv_sub hl [1, 2, 3, 4, 0] rfl, rz_290, rz_309, rz_296, by first | (dsimp only; omega) | omega, by first | (dsimp only; omega) | omega, by first | (dsimp only; omega) | omega, by first | (dsimp only; omega) | omega, by first | (dsimp only; omega) | omega, by first | (dsimp only; omega) | omega, by first | (dsimp only; omega) | omega, by first | (dsimp only; omega) | omega, (by have h8 := hw_253.1.2; unfold pgo at h8; unfold pgo; first | (dsimp only; omega) | omega), by first | (dsimp only; omega) | omega, (hw_253.2.2.elim (fun h9 => Or.inl (by omega)) (fun h9 => Or.inr (by rw [show z_296 = gI σ_s_254 a 22 by omega]; exact hR9.step (by rwa [show gI σ_J_217 a 22 = G22q215 by omega] at h9) (by intro h9; first | exact absurd h9 (by omega) | (have h8 := hX.2.2.resolve_left (by omega); rwa [show gI σ a 22 = G22q215 by omega] at h8)) (by omega)))), ⟨cc_305, jj_306, kk_220 ++ [0], hR_307, fun h9 => by have h8 := hw_253.2.2.resolve_left (by omega); rw [show gI σ_J_217 a 22 = G22q215 by omega, show gI σ_s_254 a 22 = z_296 by omega] at h8; exact krl.step (hk_222 (by omega)) h8 (by omega), by obtain ⟨z9, hP9, hz9⟩ := hn_258; rw [show gI σ_J_217 a 22 = G22q215 by omega] at hP9; exact (lin.item (op := tK T jt) (mo := z_290) (s4 := z_296) (c4 := cc_259) (j4 := jj_260) (by unfold brk; omega) (hL_223.em (by omega)) (by rw [show md = 1 by omega]; exact kyR.list) hP9 (fun h9 => by have h8 := hz9 h9; omega) (by omega)).ec (by omega)⟩, e_301, e_302, e_310, e_303⟩
        · replace c_250 := (I_eq (a := z_249) (b := 3) rz_249 (show rng 3 from ⟨by decide, by decide⟩)).mp c_250
          refine lv_aload_n hx hb dX11_readMany_42 rfl (lv_at hl 0 rfl) ?_
          refine lv_iload_n hx hb dX11_readMany_43 rfl (lv_at hl 1 rfl) ?_
          obtain ⟨_, hc_311⟩ := hO.cell h_a (by decide) (ci := 11) rfl
          refine th_calli (va_runV (As := [.int (I k)]) (rest := []) ⟨hx, hb, hml, hown, hts⟩ (n_readKey l G y b0 σ_J_217 E hO a h_a k (show rng k from rk) (by omega) (by omega) F2q213 J_217_13 Bf hsr T hSt cc_218 jj_219 hR_221 kk_220 (by omega) (by omega) (by omega) ((by rw [show gI σ_J_217 a 22 = G22q215 by omega]; exact hR9.1.1)) (by omega) ((by have h9 := hk_222 (by omega); rw [show gI σ_J_217 a 22 = G22q215 by omega]; exact h9))) (cwV 1 hts gX11_readMany_X11_readKey rfl rfl rfl (by decide +kernel) ⟨(by first | (simp only [headSpec]; omega) | omega | (dsimp only; omega)), (by first | (simp only [headSpec]; omega) | omega | (dsimp only; omega))⟩) (th_PV hK hH rfl hc_311) rfl rfl hl.1 rfl (lv_room (Nat.le_of_ble_eq_true rfl)) dX11_readMany_44 ⟨(by first | (simp only [headSpec]; omega) | omega | (dsimp only; omega)), (by first | (simp only [headSpec]; omega) | omega | (dsimp only; omega))⟩) hS (fun z_314 σ_s_313 H locs rz_314 hw_312 hH hS => ?_)
          obtain ⟨hO9, hF9, hM9, hw_312⟩ := hw_312
          replace hM := hM.tu hM9 (by decide)
          replace hF := hF.tu hF9 (by decide)
          have e_315 : gI σ_s_313 a 11 = a110 := (hM9.i (by decide)).trans J_217_12
          have e_316 : aF σ_s_313 (ad E a 2) = F2q213 := (hM9.a (by decide) (by decide)).trans J_217_13
          have e_317 : gI σ_s_313 a 22 = G22q215 := (hM9.i (by decide)).trans J_217_15
          replace hsr := hsr.mv hM9 (by decide) (by decide) (by decide) (by decide) (by decide)
          replace hO := hO9
          replace hw_312 : (((gI σ_J_217 a 13 ≤ gI σ_s_313 a 13 ∧ gI σ_s_313 a 13 ≤ gI σ_J_217 a 11 ∧ 0 ≤ gI σ_s_313 a 17 ∧ gI σ_s_313 a 17 ≤ gI σ_s_313 a 13) ∧ pgo (gI σ_s_313 a 19) (gI σ_s_313 a 14) (gI σ_J_217 a 13) (gI σ_s_313 a 13)) ∧ bdo (gI σ_J_217 a 19) (gI σ_s_313 a 19) ∧ (¬ gI σ_s_313 a 19 = 0 ∨ nok F2q213 (k / 4 + 1) (gI σ_J_217 a 22) z_314)) ∧ ∃ c1 j1, RSt σ_s_313 a T c1 j1 ∧ kyR T 2 jj_219 kk_220 c1 j1 z_314 := hw_312
          have hn_318 := hw_312.2
          replace hw_312 := hw_312.1
          obtain ⟨cc_319, jj_320, hR_321, hn_318⟩ := hn_318
          have hVhR_321 := hR_321.1
          refine lv_goto (tgt := 51) hx hb dX11_readMany_47 (by decide) ?_
          refine lv_istore (lv' := [(5, .int (I z_314)), (0, .ref a), (1, .int (I k)), (2, .int (I dp)), (3, .int (I en)), (4, .int (I v4q216))]) hx hb dX11_readMany_51 hl (by decide) rfl (fun ls hl => ?_)
          refine lv_aload_n hx hb dX11_readMany_53 rfl (lv_at hl 1 rfl) ?_
          refine ok.getI hO h_a (by decide) k13_19 (fun _ _ he hv kk => th_get (ci := 11) (C := RX11) (T := TX11) (N := 66) hx hb hts inX11 hown hK hH he rfl 19 (by decide) fl0 hv dX11_readMany_54 kk) (fun z_322 e_323 rz_322 lz_322 uz_322 => ?_)
          refine lv_if_ne (tgt := 69) hx hb dX11_readMany_57 (by decide) (fun c_324 => ?_) (fun c_324 => ?_)
          · replace c_324 := mt (I_eq (a := z_322) (b := 0) rz_322 (show rng 0 from ⟨by decide, by decide⟩)).mpr c_324
            have ht0hR_321 := hR_321.t0
            have h0_325 : ¬ cc_319 = 0 := by omega
            try simp only [h0_325, ne_eq, not_true_eq_false, not_false_eq_true, false_implies, true_implies, true_and, and_true, eq_self, false_or, or_false, false_and, and_false] at hVhR_321
            refine lv_aload_n hx hb dX11_readMany_69 rfl (lv_at hl 1 rfl) ?_
            refine lv_bipush (v := I 44) hx hb dX11_readMany_70 (by decide) ?_
            obtain ⟨_, hc_326⟩ := hO.cell h_a (by decide) (ci := 11) rfl
            refine th_calli (va_runV (As := [.int (I 44)]) (rest := []) ⟨hx, hb, hml, hown, hts⟩ (n_isMarked l G y b0 σ_s_313 E hO a h_a 44 (show rng 44 from (show rng 44 from ⟨by decide, by decide⟩)) (by omega) (by omega) Bf hsr T hSt cc_319 jj_320 hR_321 (by omega)) (cwV 1 hts gX11_readMany_X11_isMarked rfl rfl rfl (by decide +kernel) ⟨(by first | (simp only [headSpec]; omega) | omega | (dsimp only; omega)), (by first | (simp only [headSpec]; omega) | omega | (dsimp only; omega))⟩) (th_PV hK hH rfl hc_326) rfl rfl hl.1 rfl (lv_room (Nat.le_of_ble_eq_true rfl)) dX11_readMany_72 ⟨(by first | (simp only [headSpec]; omega) | omega | (dsimp only; omega)), (by first | (simp only [headSpec]; omega) | omega | (dsimp only; omega))⟩) hS (fun z_329 σ_s_328 H locs rz_329 hw_327 hH hS => ?_)
            obtain ⟨e9, bhw_327, hw_327⟩ := hw_327
            replace e9 := e9.symm
            subst e9
            replace hw_327 : (z_329 = 1 ∧ cc_319 = 0 ∧ tK T jj_320 = 44) ∨ (z_329 = 0 ∧ (cc_319 ≠ 0 ∨ tK T jj_320 ≠ 44)) := hw_327
            refine lv_istore (lv' := [(4, .int (I z_329)), (5, .int (I z_314)), (0, .ref a), (1, .int (I k)), (2, .int (I dp)), (3, .int (I en))]) hx hb dX11_readMany_75 hl (by decide) rfl (fun ls hl => ?_)
            refine lv_iload hx hb dX11_readMany_77 (lv_at hl 0 rfl) ?_
            refine lv_if_eq (tgt := 86) hx hb dX11_readMany_79 (by decide) (fun c_330 => ?_) (fun c_330 => ?_)
            · replace c_330 := (I_eq (a := z_329) (b := 0) rz_329 (show rng 0 from ⟨by decide, by decide⟩)).mp c_330
              refine lv_goto (tgt := 20) hx hb dX11_readMany_86 (by decide) ?_
              replace hl : lv_has ls 6 [(4, .int (I z_329)), (0, .ref a), (1, .int (I k)), (2, .int (I dp)), (3, .int (I en))] := lv_sub hl [0, 2, 3, 4, 5] rfl
              obtain ⟨z_331, e_332, rz_331, lz_331, uz_331⟩ := hO.gi h_a (by decide) k13_13
              exact ihJ_217 (z_329, z_331, G22q215, F2q213) σ_s_313 _ _ _ (by first | (dsimp only; omega) | omega) ⟨hO, hF, hM, hsr, hH, hS, lv_sub hl [1, 2, 3, 4, 0] rfl, rz_329, rz_331, rG22q215, by first | (dsimp only; omega) | omega, by first | (dsimp only; omega) | omega, by first | (dsimp only; omega) | omega, by first | (dsimp only; omega) | omega, by first | (dsimp only; omega) | omega, by first | (dsimp only; omega) | omega, by first | (dsimp only; omega) | omega, by first | (dsimp only; omega) | omega, (by unfold pgo; first | (dsimp only; omega) | omega), by first | (dsimp only; omega) | omega, (Or.inl (by omega)), ⟨cc_319, jj_320, kk_220, hR_321, fun h9 => absurd h9 (by omega), ((lin.key (op := tK T jt) (by unfold brk; omega) (hL_223.em (by omega)) (by have h8 := hn_318; rw [show md = 2 by omega]; exact h8) (by omega)).ec (by omega)).em (by first | (dsimp only; omega) | omega)⟩, e_315, e_316, e_332, e_317⟩
            · replace c_330 := mt (I_eq (a := z_329) (b := 0) rz_329 (show rng 0 from ⟨by decide, by decide⟩)).mpr c_330
              refine lv_aload_n hx hb dX11_readMany_82 rfl (lv_at hl 2 rfl) ?_
              obtain ⟨_, hc_333⟩ := hO.cell h_a (by decide) (ci := 11) rfl
              refine th_callv (va_runV (As := []) (rest := []) ⟨hx, hb, hml, hown, hts⟩ (n_pass l G y b0 σ_s_313 E hO a h_a Bf hsr T hSt cc_319 jj_320 hR_321 (by omega) (by omega)) (cwV 0 hts gX11_readMany_X11_pass rfl rfl rfl (by decide +kernel) ⟨(by first | (simp only [headSpec]; omega) | omega | (dsimp only; omega)), (by first | (simp only [headSpec]; omega) | omega | (dsimp only; omega))⟩) (th_PV hK hH rfl hc_333) rfl rfl hl.1 rfl (lv_room (Nat.le_of_ble_eq_true rfl)) dX11_readMany_83 ⟨(by first | (simp only [headSpec]; omega) | omega | (dsimp only; omega)), (by first | (simp only [headSpec]; omega) | omega | (dsimp only; omega))⟩) hS (fun σ_s_335 H locs hw_334 hH hS => ?_)
              obtain ⟨hO9, hF9, hM9, hw_334⟩ := hw_334
              replace hM := hM.tu hM9 (by decide)
              replace hF := hF.tu hF9 (by decide)
              have e_336 : gI σ_s_335 a 11 = a110 := (hM9.i (by decide)).trans e_315
              have e_337 : aF σ_s_335 (ad E a 2) = F2q213 := (hM9.a (by decide) (by decide)).trans e_316
              have e_338 : gI σ_s_335 a 22 = G22q215 := (hM9.i (by decide)).trans e_317
              have e_339 : gI σ_s_335 a 19 = z_322 := (hM9.i (by decide)).trans e_323
              replace hsr := hsr.mv hM9 (by decide) (by decide) (by decide) (by decide) (by decide)
              replace hO := hO9
              replace hw_334 : ((gI σ_s_313 a 13 ≤ gI σ_s_335 a 13 ∧ gI σ_s_335 a 13 ≤ gI σ_s_313 a 11 ∧ 0 ≤ gI σ_s_335 a 17 ∧ gI σ_s_335 a 17 ≤ gI σ_s_335 a 13) ∧ pgo (gI σ_s_335 a 19) (gI σ_s_335 a 14) (gI σ_s_313 a 13) (gI σ_s_335 a 13) ∧ gI σ_s_335 a 19 = gI σ_s_313 a 19) ∧ ∃ c1 j1, RSt σ_s_335 a T c1 j1 ∧ (c1 = cc_319 ∧ (cc_319 ≠ 0 → j1 = jj_320) ∧ (cc_319 = 0 → j1 = jj_320 + 1)) := hw_334
              have hn_340 := hw_334.2
              replace hw_334 := hw_334.1
              obtain ⟨cc_341, jj_342, hR_343, hn_340⟩ := hn_340
              have hVhR_343 := hR_343.1
              have h0_344 : ¬ cc_341 = 0 := by omega
              try simp only [h0_344, ne_eq, not_true_eq_false, not_false_eq_true, false_implies, true_implies, true_and, and_true, eq_self, false_or, or_false, false_and, and_false] at hVhR_343
              refine lv_goto (tgt := 20) hx hb dX11_readMany_86 (by decide) ?_
              replace hl : lv_has ls 6 [(4, .int (I z_329)), (0, .ref a), (1, .int (I k)), (2, .int (I dp)), (3, .int (I en))] := lv_sub hl [0, 2, 3, 4, 5] rfl
              obtain ⟨z_345, e_346, rz_345, lz_345, uz_345⟩ := hO.gi h_a (by decide) k13_13
              exact ihJ_217 (z_329, z_345, G22q215, F2q213) σ_s_335 _ _ _ (by first | (dsimp only; omega) | omega) ⟨hO, hF, hM, hsr, hH, hS, lv_sub hl [1, 2, 3, 4, 0] rfl, rz_329, rz_345, rG22q215, by first | (dsimp only; omega) | omega, by first | (dsimp only; omega) | omega, by first | (dsimp only; omega) | omega, by first | (dsimp only; omega) | omega, by first | (dsimp only; omega) | omega, by first | (dsimp only; omega) | omega, by first | (dsimp only; omega) | omega, by first | (dsimp only; omega) | omega, (by unfold pgo; first | (dsimp only; omega) | omega), by first | (dsimp only; omega) | omega, (Or.inl (by omega)), ⟨cc_341, jj_342, kk_220, hR_343, fun h9 => absurd h9 (by omega), ((lin.key (op := tK T jt) (by unfold brk; omega) (hL_223.em (by omega)) (by have h8 := hn_318; rw [show md = 2 by omega]; exact h8) (by omega)).ec (by omega)).em (by first | (dsimp only; omega) | omega)⟩, e_336, e_337, e_346, e_338⟩
          · replace c_324 := (I_eq (a := z_322) (b := 0) rz_322 (show rng 0 from ⟨by decide, by decide⟩)).mp c_324
            have h0_347 : cc_319 = 0 := by omega
            try simp only [h0_347, ne_eq, not_true_eq_false, not_false_eq_true, false_implies, true_implies, true_and, and_true, eq_self, false_or, or_false, false_and, and_false] at hVhR_321
            refine lv_aload_n hx hb dX11_readMany_60 rfl (lv_at hl 1 rfl) ?_
            refine lv_iload hx hb dX11_readMany_61 (lv_at hl 0 rfl) ?_
            refine lv_iload_n hx hb dX11_readMany_63 rfl (lv_at hl 3 rfl) ?_
            refine lv_iconst (v := I 1) hx hb dX11_readMany_64 (by decide) ?_
            refine lv_iadd hx hb dX11_readMany_65 ?_
            refine nq_top (I_add _ _) ?_
            obtain ⟨_, hc_348⟩ := hO.cell h_a (by decide) (ci := 11) rfl
            refine th_callv (va_runV (As := [.int (I z_314), .int (I (dp + 1))]) (rest := []) ⟨hx, hb, hml, hown, hts⟩ (ih l G y b0 σ_s_313 E hO a h_a z_314 (show rng z_314 from rz_314) (dp + 1) (show rng (dp + 1) from ⟨by omega, by omega⟩) (by omega) (by omega) F2q213 e_316 Bf hsr T hSt cc_319 jj_320 hR_321 (by omega) (by omega) (by omega)) (cwV 2 hts gX11_readMany_X11_readThing rfl rfl rfl (by decide +kernel) ⟨(by first | (simp only [headSpec]; omega) | omega | (dsimp only; omega)), (by first | (simp only [headSpec]; omega) | omega | (dsimp only; omega))⟩) (th_PV hK hH rfl hc_348) rfl rfl hl.1 rfl (lv_room (Nat.le_of_ble_eq_true rfl)) dX11_readMany_66 ⟨(by first | (simp only [headSpec]; omega) | omega | (dsimp only; omega)), (by first | (simp only [headSpec]; omega) | omega | (dsimp only; omega))⟩) hS (fun σ_s_350 H locs hw_349 hH hS => ?_)
            obtain ⟨hO9, hF9, hM9, hw_349⟩ := hw_349
            replace hM := hM.tu hM9 (by decide)
            replace hF := hF.tu hF9 (by decide)
            have e_351 : gI σ_s_350 a 11 = a110 := (hM9.i (by decide)).trans e_315
            replace hsr := hsr.mv hM9 (by decide) (by decide) (by decide) (by decide) (by decide)
            replace hO := hO9
            generalize ef_353 : aF σ_s_350 (ad E a 2) = g_352 at hw_349
            replace hw_349 : (((gI σ_s_313 a 13 ≤ gI σ_s_350 a 13 ∧ gI σ_s_350 a 13 ≤ gI σ_s_313 a 11 ∧ 0 ≤ gI σ_s_350 a 17 ∧ gI σ_s_350 a 17 ≤ gI σ_s_350 a 13) ∧ pgo (gI σ_s_350 a 19) (gI σ_s_350 a 14) (gI σ_s_313 a 13) (gI σ_s_350 a 13)) ∧ gI σ_s_313 a 22 ≤ gI σ_s_350 a 22 ∧ (¬ gI σ_s_350 a 19 = 0 ∨ rdT F2q213 g_352 (gI σ_s_313 a 22) (gI σ_s_350 a 22) z_314 (dp + 1))) ∧ ∃ c1 j1, RSt σ_s_350 a T c1 j1 ∧ PTh T (dp + 1) jj_320 (gI σ_s_313 a 22) c1 j1 (gI σ_s_350 a 22) := hw_349
            have hn_354 := hw_349.2
            replace hw_349 := hw_349.1
            obtain ⟨cc_355, jj_356, hR_357, hn_354⟩ := hn_354
            have hVhR_357 := hR_357.1
            have ht0hR_357 := hR_357.t0
            rcases Classical.em (cc_355 = 0) with h0_358 | h0_358
            · try simp only [h0_358, ne_eq, not_true_eq_false, not_false_eq_true, false_implies, true_implies, true_and, and_true, eq_self, false_or, or_false, false_and, and_false] at hVhR_357
              refine lv_aload_n hx hb dX11_readMany_69 rfl (lv_at hl 1 rfl) ?_
              refine lv_bipush (v := I 44) hx hb dX11_readMany_70 (by decide) ?_
              obtain ⟨_, hc_359⟩ := hO.cell h_a (by decide) (ci := 11) rfl
              refine th_calli (va_runV (As := [.int (I 44)]) (rest := []) ⟨hx, hb, hml, hown, hts⟩ (n_isMarked l G y b0 σ_s_350 E hO a h_a 44 (show rng 44 from (show rng 44 from ⟨by decide, by decide⟩)) (by omega) (by omega) Bf hsr T hSt cc_355 jj_356 hR_357 (by omega)) (cwV 1 hts gX11_readMany_X11_isMarked rfl rfl rfl (by decide +kernel) ⟨(by first | (simp only [headSpec]; omega) | omega | (dsimp only; omega)), (by first | (simp only [headSpec]; omega) | omega | (dsimp only; omega))⟩) (th_PV hK hH rfl hc_359) rfl rfl hl.1 rfl (lv_room (Nat.le_of_ble_eq_true rfl)) dX11_readMany_72 ⟨(by first | (simp only [headSpec]; omega) | omega | (dsimp only; omega)), (by first | (simp only [headSpec]; omega) | omega | (dsimp only; omega))⟩) hS (fun z_362 σ_s_361 H locs rz_362 hw_360 hH hS => ?_)
              obtain ⟨e9, bhw_360, hw_360⟩ := hw_360
              replace e9 := e9.symm
              subst e9
              replace hw_360 : (z_362 = 1 ∧ cc_355 = 0 ∧ tK T jj_356 = 44) ∨ (z_362 = 0 ∧ (cc_355 ≠ 0 ∨ tK T jj_356 ≠ 44)) := hw_360
              refine lv_istore (lv' := [(4, .int (I z_362)), (5, .int (I z_314)), (0, .ref a), (1, .int (I k)), (2, .int (I dp)), (3, .int (I en))]) hx hb dX11_readMany_75 hl (by decide) rfl (fun ls hl => ?_)
              refine lv_iload hx hb dX11_readMany_77 (lv_at hl 0 rfl) ?_
              refine lv_if_eq (tgt := 86) hx hb dX11_readMany_79 (by decide) (fun c_363 => ?_) (fun c_363 => ?_)
              · replace c_363 := (I_eq (a := z_362) (b := 0) rz_362 (show rng 0 from ⟨by decide, by decide⟩)).mp c_363
                refine lv_goto (tgt := 20) hx hb dX11_readMany_86 (by decide) ?_
                replace hl : lv_has ls 6 [(4, .int (I z_362)), (0, .ref a), (1, .int (I k)), (2, .int (I dp)), (3, .int (I en))] := lv_sub hl [0, 2, 3, 4, 5] rfl
                obtain ⟨z_364, e_365, rz_364, lz_364, uz_364⟩ := hO.gi h_a (by decide) k13_13
                obtain ⟨z_366, e_367, rz_366, lz_366, uz_366⟩ := hO.gi h_a (by decide) k13_22
                exact ihJ_217 (z_362, z_364, z_366, g_352) σ_s_350 _ _ _ (by have h8 := hw_349.1.2; unfold pgo at h8; first | (dsimp only; omega) | omega) ⟨hO, hF, hM, hsr, hH, hS, lv_sub hl [1, 2, 3, 4, 0] rfl, rz_362, rz_364, rz_366, by first | (dsimp only; omega) | omega, by first | (dsimp only; omega) | omega, by first | (dsimp only; omega) | omega, by first | (dsimp only; omega) | omega, by first | (dsimp only; omega) | omega, by first | (dsimp only; omega) | omega, by first | (dsimp only; omega) | omega, by first | (dsimp only; omega) | omega, (by have h8 := hw_349.1.2; unfold pgo at h8; unfold pgo; first | (dsimp only; omega) | omega), by first | (dsimp only; omega) | omega, (hw_349.2.2.elim (fun h9 => Or.inl (by omega)) (fun h9 => Or.inr (by rw [show z_366 = gI σ_s_350 a 22 by omega]; exact hR9.step (by rwa [show gI σ_s_313 a 22 = G22q215 by omega] at h9) (by intro h9; first | exact absurd h9 (by omega) | (have h8 := hw_312.2.2.resolve_left (by omega); rwa [show gI σ_J_217 a 22 = G22q215 by omega] at h8)) (by omega)))), ⟨cc_355, jj_356, kk_220 ++ [z_314], hR_357, fun h9 => by have h8 := hw_349.2.2.resolve_left (by omega); rw [show gI σ_s_313 a 22 = G22q215 by omega, show gI σ_s_350 a 22 = z_366 by omega] at h8; exact krl.step (hk_222 (by omega)) h8 (by omega), by obtain ⟨z9, hP9, hz9⟩ := hn_354; rw [show gI σ_s_313 a 22 = G22q215 by omega] at hP9; exact (lin.item (op := tK T jt) (mo := z_362) (s4 := z_366) (c4 := cc_355) (j4 := jj_356) (by unfold brk; omega) (hL_223.em (by omega)) (by have h8 := hn_318; rw [show md = 2 by omega, show (0 : Int) = cc_319 by omega]; exact h8) hP9 (fun h9 => by have h8 := hz9 h9; omega) (by omega)).ec (by omega)⟩, e_351, ef_353, e_365, e_367⟩
              · replace c_363 := mt (I_eq (a := z_362) (b := 0) rz_362 (show rng 0 from ⟨by decide, by decide⟩)).mpr c_363
                refine lv_aload_n hx hb dX11_readMany_82 rfl (lv_at hl 2 rfl) ?_
                obtain ⟨z_368, e_369, rz_368, lz_368, uz_368⟩ := hO.gi h_a (by decide) k13_22
                obtain ⟨_, hc_370⟩ := hO.cell h_a (by decide) (ci := 11) rfl
                refine th_callv (va_runV (As := []) (rest := []) ⟨hx, hb, hml, hown, hts⟩ (n_pass l G y b0 σ_s_350 E hO a h_a Bf hsr T hSt cc_355 jj_356 hR_357 (by omega) (by omega)) (cwV 0 hts gX11_readMany_X11_pass rfl rfl rfl (by decide +kernel) ⟨(by first | (simp only [headSpec]; omega) | omega | (dsimp only; omega)), (by first | (simp only [headSpec]; omega) | omega | (dsimp only; omega))⟩) (th_PV hK hH rfl hc_370) rfl rfl hl.1 rfl (lv_room (Nat.le_of_ble_eq_true rfl)) dX11_readMany_83 ⟨(by first | (simp only [headSpec]; omega) | omega | (dsimp only; omega)), (by first | (simp only [headSpec]; omega) | omega | (dsimp only; omega))⟩) hS (fun σ_s_372 H locs hw_371 hH hS => ?_)
                obtain ⟨hO9, hF9, hM9, hw_371⟩ := hw_371
                replace hM := hM.tu hM9 (by decide)
                replace hF := hF.tu hF9 (by decide)
                have e_373 : gI σ_s_372 a 11 = a110 := (hM9.i (by decide)).trans e_351
                have e_374 : aF σ_s_372 (ad E a 2) = g_352 := (hM9.a (by decide) (by decide)).trans ef_353
                have e_375 : gI σ_s_372 a 22 = z_368 := (hM9.i (by decide)).trans e_369
                replace hsr := hsr.mv hM9 (by decide) (by decide) (by decide) (by decide) (by decide)
                replace hO := hO9
                replace hw_371 : ((gI σ_s_350 a 13 ≤ gI σ_s_372 a 13 ∧ gI σ_s_372 a 13 ≤ gI σ_s_350 a 11 ∧ 0 ≤ gI σ_s_372 a 17 ∧ gI σ_s_372 a 17 ≤ gI σ_s_372 a 13) ∧ pgo (gI σ_s_372 a 19) (gI σ_s_372 a 14) (gI σ_s_350 a 13) (gI σ_s_372 a 13) ∧ gI σ_s_372 a 19 = gI σ_s_350 a 19) ∧ ∃ c1 j1, RSt σ_s_372 a T c1 j1 ∧ (c1 = cc_355 ∧ (cc_355 ≠ 0 → j1 = jj_356) ∧ (cc_355 = 0 → j1 = jj_356 + 1)) := hw_371
                have hn_376 := hw_371.2
                replace hw_371 := hw_371.1
                obtain ⟨cc_377, jj_378, hR_379, hn_376⟩ := hn_376
                have hVhR_379 := hR_379.1
                have h0_380 : cc_377 = 0 := by omega
                try simp only [h0_380, ne_eq, not_true_eq_false, not_false_eq_true, false_implies, true_implies, true_and, and_true, eq_self, false_or, or_false, false_and, and_false] at hVhR_379
                refine lv_goto (tgt := 20) hx hb dX11_readMany_86 (by decide) ?_
                replace hl : lv_has ls 6 [(4, .int (I z_362)), (0, .ref a), (1, .int (I k)), (2, .int (I dp)), (3, .int (I en))] := lv_sub hl [0, 2, 3, 4, 5] rfl
                obtain ⟨z_381, e_382, rz_381, lz_381, uz_381⟩ := hO.gi h_a (by decide) k13_13
                exact ihJ_217 (z_362, z_381, z_368, g_352) σ_s_372 _ _ _ (by have h8 := hw_349.1.2; unfold pgo at h8; first | (dsimp only; omega) | omega) ⟨hO, hF, hM, hsr, hH, hS, lv_sub hl [1, 2, 3, 4, 0] rfl, rz_362, rz_381, rz_368, by first | (dsimp only; omega) | omega, by first | (dsimp only; omega) | omega, by first | (dsimp only; omega) | omega, by first | (dsimp only; omega) | omega, by first | (dsimp only; omega) | omega, by first | (dsimp only; omega) | omega, by first | (dsimp only; omega) | omega, by first | (dsimp only; omega) | omega, (by have h8 := hw_349.1.2; unfold pgo at h8; unfold pgo; first | (dsimp only; omega) | omega), by first | (dsimp only; omega) | omega, (hw_349.2.2.elim (fun h9 => Or.inl (by omega)) (fun h9 => Or.inr (by rw [show z_368 = gI σ_s_350 a 22 by omega]; exact hR9.step (by rwa [show gI σ_s_313 a 22 = G22q215 by omega] at h9) (by intro h9; first | exact absurd h9 (by omega) | (have h8 := hw_312.2.2.resolve_left (by omega); rwa [show gI σ_J_217 a 22 = G22q215 by omega] at h8)) (by omega)))), ⟨cc_377, jj_378, kk_220 ++ [z_314], hR_379, fun h9 => by have h8 := hw_349.2.2.resolve_left (by omega); rw [show gI σ_s_313 a 22 = G22q215 by omega, show gI σ_s_350 a 22 = z_368 by omega] at h8; exact krl.step (hk_222 (by omega)) h8 (by omega), by obtain ⟨z9, hP9, hz9⟩ := hn_354; rw [show gI σ_s_313 a 22 = G22q215 by omega] at hP9; exact (lin.item (op := tK T jt) (mo := z_362) (s4 := z_368) (c4 := cc_355) (j4 := jj_356) (by unfold brk; omega) (hL_223.em (by omega)) (by have h8 := hn_318; rw [show md = 2 by omega, show (0 : Int) = cc_319 by omega]; exact h8) hP9 (fun h9 => by have h8 := hz9 h9; omega) (by omega)).ec (by omega)⟩, e_373, e_374, e_382, e_375⟩
            · try simp only [h0_358, ne_eq, not_true_eq_false, not_false_eq_true, false_implies, true_implies, true_and, and_true, eq_self, false_or, or_false, false_and, and_false] at hVhR_357
              refine lv_aload_n hx hb dX11_readMany_69 rfl (lv_at hl 1 rfl) ?_
              refine lv_bipush (v := I 44) hx hb dX11_readMany_70 (by decide) ?_
              obtain ⟨_, hc_383⟩ := hO.cell h_a (by decide) (ci := 11) rfl
              refine th_calli (va_runV (As := [.int (I 44)]) (rest := []) ⟨hx, hb, hml, hown, hts⟩ (n_isMarked l G y b0 σ_s_350 E hO a h_a 44 (show rng 44 from (show rng 44 from ⟨by decide, by decide⟩)) (by omega) (by omega) Bf hsr T hSt cc_355 jj_356 hR_357 (by omega)) (cwV 1 hts gX11_readMany_X11_isMarked rfl rfl rfl (by decide +kernel) ⟨(by first | (simp only [headSpec]; omega) | omega | (dsimp only; omega)), (by first | (simp only [headSpec]; omega) | omega | (dsimp only; omega))⟩) (th_PV hK hH rfl hc_383) rfl rfl hl.1 rfl (lv_room (Nat.le_of_ble_eq_true rfl)) dX11_readMany_72 ⟨(by first | (simp only [headSpec]; omega) | omega | (dsimp only; omega)), (by first | (simp only [headSpec]; omega) | omega | (dsimp only; omega))⟩) hS (fun z_386 σ_s_385 H locs rz_386 hw_384 hH hS => ?_)
              obtain ⟨e9, bhw_384, hw_384⟩ := hw_384
              replace e9 := e9.symm
              subst e9
              replace hw_384 : (z_386 = 1 ∧ cc_355 = 0 ∧ tK T jj_356 = 44) ∨ (z_386 = 0 ∧ (cc_355 ≠ 0 ∨ tK T jj_356 ≠ 44)) := hw_384
              refine lv_istore (lv' := [(4, .int (I z_386)), (5, .int (I z_314)), (0, .ref a), (1, .int (I k)), (2, .int (I dp)), (3, .int (I en))]) hx hb dX11_readMany_75 hl (by decide) rfl (fun ls hl => ?_)
              refine lv_iload hx hb dX11_readMany_77 (lv_at hl 0 rfl) ?_
              refine lv_if_eq (tgt := 86) hx hb dX11_readMany_79 (by decide) (fun c_387 => ?_) (fun c_387 => ?_)
              · replace c_387 := (I_eq (a := z_386) (b := 0) rz_386 (show rng 0 from ⟨by decide, by decide⟩)).mp c_387
                refine lv_goto (tgt := 20) hx hb dX11_readMany_86 (by decide) ?_
                replace hl : lv_has ls 6 [(4, .int (I z_386)), (0, .ref a), (1, .int (I k)), (2, .int (I dp)), (3, .int (I en))] := lv_sub hl [0, 2, 3, 4, 5] rfl
                obtain ⟨z_388, e_389, rz_388, lz_388, uz_388⟩ := hO.gi h_a (by decide) k13_13
                obtain ⟨z_390, e_391, rz_390, lz_390, uz_390⟩ := hO.gi h_a (by decide) k13_22
                exact ihJ_217 (z_386, z_388, z_390, g_352) σ_s_350 _ _ _ (by have h8 := hw_349.1.2; unfold pgo at h8; first | (dsimp only; omega) | omega) ⟨hO, hF, hM, hsr, hH, hS, lv_sub hl [1, 2, 3, 4, 0] rfl, rz_386, rz_388, rz_390, by first | (dsimp only; omega) | omega, by first | (dsimp only; omega) | omega, by first | (dsimp only; omega) | omega, by first | (dsimp only; omega) | omega, by first | (dsimp only; omega) | omega, by first | (dsimp only; omega) | omega, by first | (dsimp only; omega) | omega, by first | (dsimp only; omega) | omega, (by have h8 := hw_349.1.2; unfold pgo at h8; unfold pgo; first | (dsimp only; omega) | omega), by first | (dsimp only; omega) | omega, (hw_349.2.2.elim (fun h9 => Or.inl (by omega)) (fun h9 => Or.inr (by rw [show z_390 = gI σ_s_350 a 22 by omega]; exact hR9.step (by rwa [show gI σ_s_313 a 22 = G22q215 by omega] at h9) (by intro h9; first | exact absurd h9 (by omega) | (have h8 := hw_312.2.2.resolve_left (by omega); rwa [show gI σ_J_217 a 22 = G22q215 by omega] at h8)) (by omega)))), ⟨cc_355, jj_356, kk_220 ++ [z_314], hR_357, fun h9 => by have h8 := hw_349.2.2.resolve_left (by omega); rw [show gI σ_s_313 a 22 = G22q215 by omega, show gI σ_s_350 a 22 = z_390 by omega] at h8; exact krl.step (hk_222 (by omega)) h8 (by omega), by obtain ⟨z9, hP9, hz9⟩ := hn_354; rw [show gI σ_s_313 a 22 = G22q215 by omega] at hP9; exact (lin.item (op := tK T jt) (mo := z_386) (s4 := z_390) (c4 := cc_355) (j4 := jj_356) (by unfold brk; omega) (hL_223.em (by omega)) (by have h8 := hn_318; rw [show md = 2 by omega, show (0 : Int) = cc_319 by omega]; exact h8) hP9 (fun h9 => by have h8 := hz9 h9; omega) (by omega)).ec (by omega)⟩, e_351, ef_353, e_389, e_391⟩
              · replace c_387 := mt (I_eq (a := z_386) (b := 0) rz_386 (show rng 0 from ⟨by decide, by decide⟩)).mpr c_387
                refine lv_aload_n hx hb dX11_readMany_82 rfl (lv_at hl 2 rfl) ?_
                obtain ⟨z_392, e_393, rz_392, lz_392, uz_392⟩ := hO.gi h_a (by decide) k13_22
                obtain ⟨_, hc_394⟩ := hO.cell h_a (by decide) (ci := 11) rfl
                refine th_callv (va_runV (As := []) (rest := []) ⟨hx, hb, hml, hown, hts⟩ (n_pass l G y b0 σ_s_350 E hO a h_a Bf hsr T hSt cc_355 jj_356 hR_357 (by omega) (by omega)) (cwV 0 hts gX11_readMany_X11_pass rfl rfl rfl (by decide +kernel) ⟨(by first | (simp only [headSpec]; omega) | omega | (dsimp only; omega)), (by first | (simp only [headSpec]; omega) | omega | (dsimp only; omega))⟩) (th_PV hK hH rfl hc_394) rfl rfl hl.1 rfl (lv_room (Nat.le_of_ble_eq_true rfl)) dX11_readMany_83 ⟨(by first | (simp only [headSpec]; omega) | omega | (dsimp only; omega)), (by first | (simp only [headSpec]; omega) | omega | (dsimp only; omega))⟩) hS (fun σ_s_396 H locs hw_395 hH hS => ?_)
                obtain ⟨hO9, hF9, hM9, hw_395⟩ := hw_395
                replace hM := hM.tu hM9 (by decide)
                replace hF := hF.tu hF9 (by decide)
                have e_397 : gI σ_s_396 a 11 = a110 := (hM9.i (by decide)).trans e_351
                have e_398 : aF σ_s_396 (ad E a 2) = g_352 := (hM9.a (by decide) (by decide)).trans ef_353
                have e_399 : gI σ_s_396 a 22 = z_392 := (hM9.i (by decide)).trans e_393
                replace hsr := hsr.mv hM9 (by decide) (by decide) (by decide) (by decide) (by decide)
                replace hO := hO9
                replace hw_395 : ((gI σ_s_350 a 13 ≤ gI σ_s_396 a 13 ∧ gI σ_s_396 a 13 ≤ gI σ_s_350 a 11 ∧ 0 ≤ gI σ_s_396 a 17 ∧ gI σ_s_396 a 17 ≤ gI σ_s_396 a 13) ∧ pgo (gI σ_s_396 a 19) (gI σ_s_396 a 14) (gI σ_s_350 a 13) (gI σ_s_396 a 13) ∧ gI σ_s_396 a 19 = gI σ_s_350 a 19) ∧ ∃ c1 j1, RSt σ_s_396 a T c1 j1 ∧ (c1 = cc_355 ∧ (cc_355 ≠ 0 → j1 = jj_356) ∧ (cc_355 = 0 → j1 = jj_356 + 1)) := hw_395
                have hn_400 := hw_395.2
                replace hw_395 := hw_395.1
                obtain ⟨cc_401, jj_402, hR_403, hn_400⟩ := hn_400
                have hVhR_403 := hR_403.1
                have h0_404 : ¬ cc_401 = 0 := by omega
                try simp only [h0_404, ne_eq, not_true_eq_false, not_false_eq_true, false_implies, true_implies, true_and, and_true, eq_self, false_or, or_false, false_and, and_false] at hVhR_403
                refine lv_goto (tgt := 20) hx hb dX11_readMany_86 (by decide) ?_
                replace hl : lv_has ls 6 [(4, .int (I z_386)), (0, .ref a), (1, .int (I k)), (2, .int (I dp)), (3, .int (I en))] := lv_sub hl [0, 2, 3, 4, 5] rfl
                obtain ⟨z_405, e_406, rz_405, lz_405, uz_405⟩ := hO.gi h_a (by decide) k13_13
                exact ihJ_217 (z_386, z_405, z_392, g_352) σ_s_396 _ _ _ (by have h8 := hw_349.1.2; unfold pgo at h8; first | (dsimp only; omega) | omega) ⟨hO, hF, hM, hsr, hH, hS, lv_sub hl [1, 2, 3, 4, 0] rfl, rz_386, rz_405, rz_392, by first | (dsimp only; omega) | omega, by first | (dsimp only; omega) | omega, by first | (dsimp only; omega) | omega, by first | (dsimp only; omega) | omega, by first | (dsimp only; omega) | omega, by first | (dsimp only; omega) | omega, by first | (dsimp only; omega) | omega, by first | (dsimp only; omega) | omega, (by have h8 := hw_349.1.2; unfold pgo at h8; unfold pgo; first | (dsimp only; omega) | omega), by first | (dsimp only; omega) | omega, (hw_349.2.2.elim (fun h9 => Or.inl (by omega)) (fun h9 => Or.inr (by rw [show z_392 = gI σ_s_350 a 22 by omega]; exact hR9.step (by rwa [show gI σ_s_313 a 22 = G22q215 by omega] at h9) (by intro h9; first | exact absurd h9 (by omega) | (have h8 := hw_312.2.2.resolve_left (by omega); rwa [show gI σ_J_217 a 22 = G22q215 by omega] at h8)) (by omega)))), ⟨cc_401, jj_402, kk_220 ++ [z_314], hR_403, fun h9 => by have h8 := hw_349.2.2.resolve_left (by omega); rw [show gI σ_s_313 a 22 = G22q215 by omega, show gI σ_s_350 a 22 = z_392 by omega] at h8; exact krl.step (hk_222 (by omega)) h8 (by omega), by obtain ⟨z9, hP9, hz9⟩ := hn_354; rw [show gI σ_s_313 a 22 = G22q215 by omega] at hP9; exact (lin.item (op := tK T jt) (mo := z_386) (s4 := z_392) (c4 := cc_355) (j4 := jj_356) (by unfold brk; omega) (hL_223.em (by omega)) (by have h8 := hn_318; rw [show md = 2 by omega, show (0 : Int) = cc_319 by omega]; exact h8) hP9 (fun h9 => by have h8 := hz9 h9; omega) (by omega)).ec (by omega)⟩, e_397, e_398, e_406, e_399⟩
  · replace c_18 := mt (I_eq (a := z_17) (b := 0) rz_17 (show rng 0 from ⟨by decide, by decide⟩)).mpr c_18
    refine lv_aload_n hx hb dX11_readMany_12 rfl (lv_at hl 0 rfl) ?_
    obtain ⟨_, hc_407⟩ := hO.cell h_a (by decide) (ci := 11) rfl
    refine th_callv (va_runV (As := []) (rest := []) ⟨hx, hb, hml, hown, hts⟩ (n_pass l G y b0 σ_s_4 E hO a h_a Bf hsr T hSt cc_10 (jt + 1) hR_12 (by omega) (by omega)) (cwV 0 hts gX11_readMany_X11_pass rfl rfl rfl (by decide +kernel) ⟨(by first | (simp only [headSpec]; omega) | omega | (dsimp only; omega)), (by first | (simp only [headSpec]; omega) | omega | (dsimp only; omega))⟩) (th_PV hK hH rfl hc_407) rfl rfl hl.1 rfl (lv_room (Nat.le_of_ble_eq_true rfl)) dX11_readMany_13 ⟨(by first | (simp only [headSpec]; omega) | omega | (dsimp only; omega)), (by first | (simp only [headSpec]; omega) | omega | (dsimp only; omega))⟩) hS (fun σ_s_409 H locs hw_408 hH hS => ?_)
    obtain ⟨hO9, hF9, hM9, hw_408⟩ := hw_408
    replace hM := hM.tu hM9 (by decide)
    replace hF := hF.tu hF9 (by decide)
    have e_410 : aF σ_s_409 (ad E a 2) = f2 := (hM9.a (by decide) (by decide)).trans e_5
    have e_411 : gI σ_s_409 a 11 = a110 := (hM9.i (by decide)).trans e_6
    have e_412 : gI σ_s_409 a 19 = a190 := (hM9.i (by decide)).trans e_7
    have e_413 : gI σ_s_409 a 22 = a220 := (hM9.i (by decide)).trans e_8
    replace hsr := hsr.mv hM9 (by decide) (by decide) (by decide) (by decide) (by decide)
    replace hO := hO9
    replace hw_408 : ((gI σ_s_4 a 13 ≤ gI σ_s_409 a 13 ∧ gI σ_s_409 a 13 ≤ gI σ_s_4 a 11 ∧ 0 ≤ gI σ_s_409 a 17 ∧ gI σ_s_409 a 17 ≤ gI σ_s_409 a 13) ∧ pgo (gI σ_s_409 a 19) (gI σ_s_409 a 14) (gI σ_s_4 a 13) (gI σ_s_409 a 13) ∧ gI σ_s_409 a 19 = gI σ_s_4 a 19) ∧ ∃ c1 j1, RSt σ_s_409 a T c1 j1 ∧ (c1 = cc_10 ∧ (cc_10 ≠ 0 → j1 = (jt + 1)) ∧ (cc_10 = 0 → j1 = (jt + 1) + 1)) := hw_408
    have hn_414 := hw_408.2
    replace hw_408 := hw_408.1
    obtain ⟨cc_415, jj_416, hR_417, hn_414⟩ := hn_414
    have hVhR_417 := hR_417.1
    have h0_418 : cc_415 = 0 := by omega
    try simp only [h0_418, ne_eq, not_true_eq_false, not_false_eq_true, false_implies, true_implies, true_and, and_true, eq_self, false_or, or_false, false_and, and_false] at hVhR_417
    exact th_vret hx hb hr hlocks hH hS ⟨hO, hF, hM, ⟨⟨⟨by omega, pgo.of (by have h7 := hw_3.2.1; have h8 := hw_408.2.1; unfold pgo at h7 h8; omega)⟩, by omega, Or.inr (by rw [show gI σ_s_409 a 22 = k / 4 + 1 by omega]; exact rdF.zero (by rw [show aF σ_s_409 (ad E a 2) = f2 from e_410]; exact same.rf))⟩, cc_415, jj_416, hR_417, PTh.empty (op := tK T jt) (by unfold brk; omega) rfl (by omega) (by omega) (by omega) (by omega) (by omega)⟩⟩ dX11_readMany_16
