set_option maxHeartbeats 4000000 in
set_option maxRecDepth 100000 in
theorem m_readMany (n : Nat) (ih : ∀ (l : Launch) (G : va_G) (y : Nat → ClassId) (b0 : Nat) (σ : th_M) (E : th_E) (hO : ok y E σ) (a : Nat) (h_a : kd E a = 13) (ky : Int) (rky : rng ky) (dp : Int) (rdp : rng dp) (l_dp : 0 ≤ dp) (u_dp : dp ≤ 8) (f2 : Nat → Int32) (ef2 : aF σ (ad E a 2) = f2) (Bf : Int → Int) (hsr : sr E σ a Bf) (hy0 : 0 ≤ gI σ a 17 ∧ gI σ a 17 ≤ gI σ a 13 ∧ gI σ a 13 ≤ gI σ a 11 ∧ gI σ a 11 ≤ 400) (hy1 : gI σ a 19 = 0) (hn : (8 - dp).toNat < n), Met l yX11_readThing wsX11_readThing ({ frames := 4*n+12, cells := 0, slots := 0, locals := (120*n+900) }) (th_P G y b0 σ [.ref a, .int (I ky), .int (I dp)]) (th_Qv G b0 (fun σ1 => ok y E σ1 ∧ fr [13] E σ σ1 ∧ fm [13, 14, 15, 16, 17, 18, 19, 20, 2, 22] E σ σ1 a ∧ (((gI σ a 13 ≤ gI σ1 a 13 ∧ gI σ1 a 13 ≤ gI σ a 11 ∧ 0 ≤ gI σ1 a 17 ∧ gI σ1 a 17 ≤ gI σ1 a 13) ∧ pgo (gI σ1 a 19) (gI σ1 a 14) (gI σ a 13) (gI σ1 a 13)) ∧ gI σ a 22 ≤ gI σ1 a 22 ∧ (¬ gI σ1 a 19 = 0 ∨ rdT f2 (aF σ1 (ad E a 2)) (gI σ a 22) (gI σ1 a 22) ky dp)))) 0 0 (th_A b0)) (l : Launch) (G : va_G) (y : Nat → ClassId) (b0 : Nat) (σ : th_M) (E : th_E) (hO : ok y E σ) (a : Nat) (h_a : kd E a = 13) (k : Int) (rk : rng k) (l_k : 0 ≤ k) (u_k : k ≤ 236) (dp : Int) (rdp : rng dp) (l_dp : 0 ≤ dp) (u_dp : dp ≤ 7) (en : Int) (ren : rng en) (f2 : Nat → Int32) (ef2 : aF σ (ad E a 2) = f2) (Bf : Int → Int) (hsr : sr E σ a Bf) (hy0 : 0 ≤ gI σ a 17 ∧ gI σ a 17 ≤ gI σ a 13 ∧ gI σ a 13 ≤ gI σ a 11 ∧ gI σ a 11 ≤ 400) (hy1 : k % 4 = 0) (hy2 : k / 4 + 1 = gI σ a 22) (hy3 : (8 - dp).toNat < n + 1) : Met l yX11_readMany wsX11_readMany ({ frames := 4*n+14, cells := 0, slots := 0, locals := (120*n+960) }) (th_P G y b0 σ [.ref a, .int (I k), .int (I dp), .int (I en)]) (th_Qv G b0 (fun σ1 => ok y E σ1 ∧ fr [13] E σ σ1 ∧ fm [13, 14, 15, 16, 17, 18, 19, 20, 2, 22] E σ σ1 a ∧ (((gI σ a 13 ≤ gI σ1 a 13 ∧ gI σ1 a 13 ≤ gI σ a 11 ∧ 0 ≤ gI σ1 a 17 ∧ gI σ1 a 17 ≤ gI σ1 a 13) ∧ pgo (gI σ1 a 19) (gI σ1 a 14) (gI σ a 13) (gI σ1 a 13)) ∧ gI σ a 22 ≤ gI σ1 a 22 ∧ (¬ gI σ1 a 19 = 0 ∨ rdF f2 (aF σ1 (ad E a 2)) (k / 4) (gI σ1 a 22) dp)))) 0 0 (th_A b0) := by
  refine Met.ofW (cc := cX11_readMany) (maxL := 6) (ret := none) (by decide) rfl ?_
  intro p e s m args below meth c s₁ B hml hv
  obtain ⟨rfl, hH, hK⟩ := hv
  have hx := B.exec
  have hb := B.bytes
  have hr := B.returns
  have hts := atoms_spec (ws := wsX11_readMany) B.pre
  have hown : s.vm.findClass RX11 = some m.cls := findClass_of_methodNamed B.named
  have hlocks := B.notSynchronized
  have h00 : b0 ≤ s.heap.size := hH.1
  have hS : va_S (th_A b0) s.heap s.heap [] := va_S.rf
  have hF : fr [13] E σ σ := fr.rf
  have hM : fm [13, 14, 15, 16, 17, 18, 19, 20, 2, 22] E σ σ a := fm.rf
  have inX11 : ∀ w ∈ wsX110, w ∈ wsX11_readMany := by decide +kernel
  have fl0 := hts (.fieldLink RX11 162 "NestQueryModel" "bad" "I") (by decide +kernel)
  have fl1 := hts (.fieldLink RX11 13 "NestQueryModel" "data" "[I") (by decide +kernel)
  have hl := lv_entry ([.ref a, .int (I k), .int (I dp), .int (I en)]) (n := 6) (Nat.le_of_ble_eq_true rfl)
  rw [lg_entry_eq]
  generalize (lg_sl ([.ref a, .int (I k), .int (I dp), .int (I en)]) ++ List.replicate (6 - (lg_sl ([.ref a, .int (I k), .int (I dp), .int (I en)])).length) Slot.unset).toArray = ls at hl ⊢
  have hl : lv_has ls 6 [(0, .ref a), (1, .int (I k)), (2, .int (I dp)), (3, .int (I en))] := hl
  obtain ⟨a110, ea110, ra110, la110, ua110⟩ := hO.gi h_a (by decide) k13_11
  obtain ⟨a130, ea130, ra130, la130, ua130⟩ := hO.gi h_a (by decide) k13_13
  obtain ⟨a140, ea140, ra140, la140, ua140⟩ := hO.gi h_a (by decide) k13_14
  obtain ⟨a170, ea170, ra170, la170, ua170⟩ := hO.gi h_a (by decide) k13_17
  obtain ⟨a190, ea190, ra190, la190, ua190⟩ := hO.gi h_a (by decide) k13_19
  obtain ⟨a220, ea220, ra220, la220, ua220⟩ := hO.gi h_a (by decide) k13_22
  refine lv_aload_n hx hb dX11_readMany_0 rfl (lv_at hl 0 rfl) ?_
  obtain ⟨_, hc_1⟩ := hO.cell h_a (by decide) (ci := 11) rfl
  refine th_callv (va_runV (As := []) (rest := []) ⟨hx, hb, hml, hown, hts⟩ (m_pass l G y b0 σ E hO a h_a Bf hsr (by omega)) (cwV 0 hts gX11_readMany_X11_pass rfl rfl rfl (by decide +kernel) ⟨(by first | (simp only [headSpec]; omega) | omega | (dsimp only; omega)), (by first | (simp only [headSpec]; omega) | omega | (dsimp only; omega))⟩) (th_PV hK hH rfl hc_1) rfl rfl hl.1 rfl (lv_room (Nat.le_of_ble_eq_true rfl)) dX11_readMany_1 ⟨(by first | (simp only [headSpec]; omega) | omega | (dsimp only; omega)), (by first | (simp only [headSpec]; omega) | omega | (dsimp only; omega))⟩) hS (fun σ_s_3 H locs hw_2 hH hS => ?_)
  obtain ⟨hO9, hF9, hM9, hw_2⟩ := hw_2
  replace hM := hM.tu hM9 (by decide)
  replace hF := hF.tu hF9 (by decide)
  have e_4 : aF σ_s_3 (ad E a 2) = f2 := (hM9.a (by decide) (by decide)).trans ef2
  have e_5 : gI σ_s_3 a 11 = a110 := (hM9.i (by decide)).trans ea110
  have e_6 : gI σ_s_3 a 19 = a190 := (hM9.i (by decide)).trans ea190
  have e_7 : gI σ_s_3 a 22 = a220 := (hM9.i (by decide)).trans ea220
  replace hsr := hsr.mv hM9 (by decide) (by decide) (by decide) (by decide) (by decide)
  replace hO := hO9
  have hw_2 : (gI σ a 13 ≤ gI σ_s_3 a 13 ∧ gI σ_s_3 a 13 ≤ gI σ a 11 ∧ 0 ≤ gI σ_s_3 a 17 ∧ gI σ_s_3 a 17 ≤ gI σ_s_3 a 13) ∧ pgo (gI σ_s_3 a 19) (gI σ_s_3 a 14) (gI σ a 13) (gI σ_s_3 a 13) ∧ gI σ_s_3 a 19 = gI σ a 19 := hw_2
  refine lv_aload_n hx hb dX11_readMany_4 rfl (lv_at hl 0 rfl) ?_
  refine lv_iload_n hx hb dX11_readMany_5 rfl (lv_at hl 3 rfl) ?_
  obtain ⟨_, hc_8⟩ := hO.cell h_a (by decide) (ci := 11) rfl
  refine th_calli (va_runV (As := [.int (I en)]) (rest := []) ⟨hx, hb, hml, hown, hts⟩ (m_isMarked l G y b0 σ_s_3 E hO a h_a en (show rng en from ren) Bf hsr (by omega)) (cwV 1 hts gX11_readMany_X11_isMarked rfl rfl rfl (by decide +kernel) ⟨(by first | (simp only [headSpec]; omega) | omega | (dsimp only; omega)), (by first | (simp only [headSpec]; omega) | omega | (dsimp only; omega))⟩) (th_PV hK hH rfl hc_8) rfl rfl hl.1 rfl (lv_room (Nat.le_of_ble_eq_true rfl)) dX11_readMany_6 ⟨(by first | (simp only [headSpec]; omega) | omega | (dsimp only; omega)), (by first | (simp only [headSpec]; omega) | omega | (dsimp only; omega))⟩) hS (fun z_11 σ_s_10 H locs rz_11 hw_9 hH hS => ?_)
  obtain ⟨e9, bhw_9, hw_9⟩ := hw_9
  replace e9 := e9.symm
  subst e9
  have hw_9 : z_11 = 0 ∨ (z_11 = 1 ∧ gI σ_s_3 a 19 = 0 ∧ gI σ_s_3 a 14 = 3 ∧ Bf (gI σ_s_3 a 17) = en) := hw_9
  refine lv_if_eq (tgt := 17) hx hb dX11_readMany_9 (by decide) (fun c_12 => ?_) (fun c_12 => ?_)
  · replace c_12 := (I_eq (a := z_11) (b := 0) rz_11 (show rng 0 from ⟨by decide, by decide⟩)).mp c_12
    clear hw_9
    refine lv_iconst (v := I 1) hx hb dX11_readMany_17 (by decide) ?_
    refine lv_istore (lv' := [(4, .int (I 1)), (0, .ref a), (1, .int (I k)), (2, .int (I dp)), (3, .int (I en))]) hx hb dX11_readMany_18 hl (by decide) rfl (fun ls hl => ?_)
    obtain ⟨z_13, e_14, rz_13, lz_13, uz_13⟩ := hO.gi h_a (by decide) k13_13
    refine th_loop (α := Int × Int × Int × (Nat → Int32)) (pc := 20) (fun x9 => (2 * (gI σ a 11 - x9.2.1) + x9.1).toNat) (fun x9 σ9 H9 l9 ls9 => ok y E σ9 ∧ fr [13] E σ σ9 ∧ fm [13, 14, 15, 16, 17, 18, 19, 20, 2, 22] E σ σ9 a ∧ sr E σ9 a Bf ∧ th_H G b0 σ9 H9 ∧ va_S (th_A b0) s.heap H9 l9 ∧ lv_has ls9 6 [(0, .ref a), (1, .int (I k)), (2, .int (I dp)), (3, .int (I en)), (4, .int (I x9.1))] ∧ rng x9.1 ∧ rng x9.2.1 ∧ rng x9.2.2.1 ∧ (gI σ a 13 ≤ x9.2.1) ∧ (x9.2.1 ≤ gI σ a 11) ∧ (0 ≤ gI σ9 a 17) ∧ (gI σ9 a 17 ≤ x9.2.1) ∧ (k / 4 + 1 ≤ x9.2.2.1) ∧ (x9.2.2.1 ≤ 60) ∧ (0 ≤ x9.1) ∧ (x9.1 ≤ 1) ∧ (pgo (gI σ9 a 19) (gI σ9 a 14) (gI σ a 13) x9.2.1) ∧ (0 ≤ x9.2.2.1) ∧ (¬ gI σ9 a 19 = 0 ∨ rdF f2 x9.2.2.2 (k / 4) x9.2.2.1 dp) ∧ (gI σ9 a 11 = a110) ∧ (aF σ9 (ad E a 2) = x9.2.2.2) ∧ (gI σ9 a 13 = x9.2.1) ∧ (gI σ9 a 22 = x9.2.2.1)) ?_ (1, z_13, a220, f2) σ_s_3 _ _ _ ⟨hO, hF, hM, hsr, hH, hS, lv_sub hl [1, 2, 3, 4, 0] rfl, (show rng 1 from ⟨by decide, by decide⟩), rz_13, ra220, by first | (dsimp only; omega) | omega, by first | (dsimp only; omega) | omega, by first | (dsimp only; omega) | omega, by first | (dsimp only; omega) | omega, by first | (dsimp only; omega) | omega, by first | (dsimp only; omega) | omega, by first | (dsimp only; omega) | omega, by first | (dsimp only; omega) | omega, (by have h7 := hw_2.2.1; unfold pgo at h7 ⊢; first | (dsimp only; omega) | omega), by first | (dsimp only; omega) | omega, (Or.inr (by rw [show a220 = k / 4 + 1 by omega]; exact rdF.zero same.rf)), e_5, e_4, e_14, e_7⟩
    intro x9 σ_J_187 H locs ls hI9 ihJ_187
    obtain ⟨v4q186, G13q184, G22q185, F2q183⟩ := x9
    obtain ⟨hO, hF, hM, hsr, hH, hS, hl, rv4q186, rG13q184, rG22q185, J_187_0, J_187_1, J_187_2, J_187_3, J_187_4, J_187_5, J_187_6, J_187_7, J_187_8, J_187_9, J_187_10, J_187_11, J_187_12, J_187_13, J_187_14⟩ := hI9
    have hl : lv_has ls 6 [(0, .ref a), (1, .int (I k)), (2, .int (I dp)), (3, .int (I en)), (4, .int (I v4q186))] := hl
    have rv4q186 : rng v4q186 := rv4q186
    have rG13q184 : rng G13q184 := rG13q184
    have rG22q185 : rng G22q185 := rG22q185
    have J_187_0 : gI σ a 13 ≤ G13q184 := J_187_0
    have J_187_1 : G13q184 ≤ gI σ a 11 := J_187_1
    have J_187_2 : 0 ≤ gI σ_J_187 a 17 := J_187_2
    have J_187_3 : gI σ_J_187 a 17 ≤ G13q184 := J_187_3
    have J_187_4 : k / 4 + 1 ≤ G22q185 := J_187_4
    have J_187_5 : G22q185 ≤ 60 := J_187_5
    have J_187_6 : 0 ≤ v4q186 := J_187_6
    have J_187_7 : v4q186 ≤ 1 := J_187_7
    have J_187_8 : pgo (gI σ_J_187 a 19) (gI σ_J_187 a 14) (gI σ a 13) G13q184 := J_187_8
    have J_187_9 : 0 ≤ G22q185 := J_187_9
    have J_187_10 : ¬ gI σ_J_187 a 19 = 0 ∨ rdF f2 F2q183 (k / 4) G22q185 dp := J_187_10
    have J_187_11 : gI σ_J_187 a 11 = a110 := J_187_11
    have J_187_12 : aF σ_J_187 (ad E a 2) = F2q183 := J_187_12
    have J_187_13 : gI σ_J_187 a 13 = G13q184 := J_187_13
    have J_187_14 : gI σ_J_187 a 22 = G22q185 := J_187_14
    refine lv_iload hx hb dX11_readMany_20 (lv_at hl 4 rfl) ?_
    refine lv_if_eq (tgt := 89) hx hb dX11_readMany_22 (by decide) (fun c_188 => ?_) (fun c_188 => ?_)
    · replace c_188 := (I_eq (a := v4q186) (b := 0) rv4q186 (show rng 0 from ⟨by decide, by decide⟩)).mp c_188
      refine lv_aload_n hx hb dX11_readMany_89 rfl (lv_at hl 0 rfl) ?_
      refine lv_iload_n hx hb dX11_readMany_90 rfl (lv_at hl 3 rfl) ?_
      obtain ⟨_, hc_189⟩ := hO.cell h_a (by decide) (ci := 11) rfl
      refine th_callv (va_runV (As := [.int (I en)]) (rest := []) ⟨hx, hb, hml, hown, hts⟩ (m_need l G y b0 σ_J_187 E hO a h_a en (show rng en from ren) Bf hsr (by omega)) (cwV 1 hts gX11_readMany_X11_need rfl rfl rfl (by decide +kernel) ⟨(by first | (simp only [headSpec]; omega) | omega | (dsimp only; omega)), (by first | (simp only [headSpec]; omega) | omega | (dsimp only; omega))⟩) (th_PV hK hH rfl hc_189) rfl rfl hl.1 rfl (lv_room (Nat.le_of_ble_eq_true rfl)) dX11_readMany_91 ⟨(by first | (simp only [headSpec]; omega) | omega | (dsimp only; omega)), (by first | (simp only [headSpec]; omega) | omega | (dsimp only; omega))⟩) hS (fun σ_s_191 H locs hw_190 hH hS => ?_)
      obtain ⟨hO9, hF9, hM9, hw_190⟩ := hw_190
      replace hM := hM.tu hM9 (by decide)
      replace hF := hF.tu hF9 (by decide)
      have e_192 : gI σ_s_191 a 11 = a110 := (hM9.i (by decide)).trans J_187_11
      have e_193 : aF σ_s_191 (ad E a 2) = F2q183 := (hM9.a (by decide) (by decide)).trans J_187_12
      have e_194 : gI σ_s_191 a 22 = G22q185 := (hM9.i (by decide)).trans J_187_14
      replace hsr := hsr.mv hM9 (by decide) (by decide) (by decide) (by decide) (by decide)
      replace hO := hO9
      have hw_190 : (gI σ_J_187 a 13 ≤ gI σ_s_191 a 13 ∧ gI σ_s_191 a 13 ≤ gI σ_J_187 a 11 ∧ 0 ≤ gI σ_s_191 a 17 ∧ gI σ_s_191 a 17 ≤ gI σ_s_191 a 13) ∧ pgo (gI σ_s_191 a 19) (gI σ_s_191 a 14) (gI σ_J_187 a 13) (gI σ_s_191 a 13) ∧ bdo (gI σ_J_187 a 19) (gI σ_s_191 a 19) := hw_190
      exact th_vret hx hb hr hlocks hH hS ⟨hO, hF, hM, ⟨⟨by omega, pgo.of (by have h7 := J_187_8; have h8 := hw_190.2.1; have h6 := hw_190.2.2; unfold pgo at h7 h8; unfold bdo at h6; omega)⟩, by omega, (J_187_10).elim (fun h9 => Or.inl (by have h6 := hw_190.2.2; unfold bdo at h6; omega)) (fun h9 => Or.inr (by rw [show gI σ_s_191 a 22 = G22q185 by omega, show aF σ_s_191 (ad E a 2) = F2q183 from e_193]; exact h9))⟩⟩ dX11_readMany_94
    · replace c_188 := mt (I_eq (a := v4q186) (b := 0) rv4q186 (show rng 0 from ⟨by decide, by decide⟩)).mpr c_188
      refine lv_aload_n hx hb dX11_readMany_25 rfl (lv_at hl 0 rfl) ?_
      refine ok.getI hO h_a (by decide) k13_19 (fun _ _ he hv kk => th_get (ci := 11) (C := RX11) (T := TX11) (N := 66) hx hb hts inX11 hown hK hH he rfl 19 (by decide) fl0 hv dX11_readMany_26 kk) (fun z_195 e_196 rz_195 lz_195 uz_195 => ?_)
      refine lv_if_ne (tgt := 89) hx hb dX11_readMany_29 (by decide) (fun c_197 => ?_) (fun c_197 => ?_)
      · replace c_197 := mt (I_eq (a := z_195) (b := 0) rz_195 (show rng 0 from ⟨by decide, by decide⟩)).mpr c_197
        refine lv_aload_n hx hb dX11_readMany_89 rfl (lv_at hl 0 rfl) ?_
        refine lv_iload_n hx hb dX11_readMany_90 rfl (lv_at hl 3 rfl) ?_
        obtain ⟨_, hc_198⟩ := hO.cell h_a (by decide) (ci := 11) rfl
        refine th_callv (va_runV (As := [.int (I en)]) (rest := []) ⟨hx, hb, hml, hown, hts⟩ (m_need l G y b0 σ_J_187 E hO a h_a en (show rng en from ren) Bf hsr (by omega)) (cwV 1 hts gX11_readMany_X11_need rfl rfl rfl (by decide +kernel) ⟨(by first | (simp only [headSpec]; omega) | omega | (dsimp only; omega)), (by first | (simp only [headSpec]; omega) | omega | (dsimp only; omega))⟩) (th_PV hK hH rfl hc_198) rfl rfl hl.1 rfl (lv_room (Nat.le_of_ble_eq_true rfl)) dX11_readMany_91 ⟨(by first | (simp only [headSpec]; omega) | omega | (dsimp only; omega)), (by first | (simp only [headSpec]; omega) | omega | (dsimp only; omega))⟩) hS (fun σ_s_200 H locs hw_199 hH hS => ?_)
        obtain ⟨hO9, hF9, hM9, hw_199⟩ := hw_199
        replace hM := hM.tu hM9 (by decide)
        replace hF := hF.tu hF9 (by decide)
        have e_201 : gI σ_s_200 a 11 = a110 := (hM9.i (by decide)).trans J_187_11
        have e_202 : aF σ_s_200 (ad E a 2) = F2q183 := (hM9.a (by decide) (by decide)).trans J_187_12
        have e_203 : gI σ_s_200 a 22 = G22q185 := (hM9.i (by decide)).trans J_187_14
        replace hsr := hsr.mv hM9 (by decide) (by decide) (by decide) (by decide) (by decide)
        replace hO := hO9
        have hw_199 : (gI σ_J_187 a 13 ≤ gI σ_s_200 a 13 ∧ gI σ_s_200 a 13 ≤ gI σ_J_187 a 11 ∧ 0 ≤ gI σ_s_200 a 17 ∧ gI σ_s_200 a 17 ≤ gI σ_s_200 a 13) ∧ pgo (gI σ_s_200 a 19) (gI σ_s_200 a 14) (gI σ_J_187 a 13) (gI σ_s_200 a 13) ∧ bdo (gI σ_J_187 a 19) (gI σ_s_200 a 19) := hw_199
        exact th_vret hx hb hr hlocks hH hS ⟨hO, hF, hM, ⟨⟨by omega, pgo.of (by have h7 := J_187_8; have h8 := hw_199.2.1; have h6 := hw_199.2.2; unfold pgo at h7 h8; unfold bdo at h6; omega)⟩, by omega, (J_187_10).elim (fun h9 => Or.inl (by have h6 := hw_199.2.2; unfold bdo at h6; omega)) (fun h9 => Or.inr (by rw [show gI σ_s_200 a 22 = G22q185 by omega, show aF σ_s_200 (ad E a 2) = F2q183 from e_202]; exact h9))⟩⟩ dX11_readMany_94
      · replace c_197 := (I_eq (a := z_195) (b := 0) rz_195 (show rng 0 from ⟨by decide, by decide⟩)).mp c_197
        have hR9 := (J_187_10).resolve_left (by omega)
        have hK9 := hR9.k (by omega)
        refine lv_aload_n hx hb dX11_readMany_32 rfl (lv_at hl 0 rfl) ?_
        refine ok.getR hO h_a (by decide) k13_2 (by decide) (fun _ _ he hv kk => th_get (ci := 11) (C := RX11) (T := TX11) (N := 66) hx hb hts inX11 hown hK hH he rfl 2 (by decide) fl1 hv dX11_readMany_33 kk) ?_
        refine lv_iload_n hx hb dX11_readMany_36 rfl (lv_at hl 1 rfl) ?_
        refine m_iald hx hb hK hH hO h_a k13_2 isA1 J_187_12 rk (by omega) (by omega) dX11_readMany_37 (fun z_204 ez_204 rz_204 elx9 => ?_)
        have hK8 : mK F2q183 (k / 4) = z_204 := (by unfold mK; rw [show 4 * (k / 4) = k by omega]; exact ez_204)
        refine lv_iconst (v := I 3) hx hb dX11_readMany_38 (by decide) ?_
        refine lv_icmp_ne (tgt := 50) hx hb dX11_readMany_39 (by decide) (fun c_205 => ?_) (fun c_205 => ?_)
        · replace c_205 := mt (I_eq (a := z_204) (b := 3) rz_204 (show rng 3 from ⟨by decide, by decide⟩)).mpr c_205
          refine lv_iconst (v := I 0) hx hb dX11_readMany_50 (by decide) ?_
          refine lv_istore (lv' := [(5, .int (I 0)), (0, .ref a), (1, .int (I k)), (2, .int (I dp)), (3, .int (I en)), (4, .int (I v4q186))]) hx hb dX11_readMany_51 hl (by decide) rfl (fun ls hl => ?_)
          refine lv_aload_n hx hb dX11_readMany_53 rfl (lv_at hl 1 rfl) ?_
          refine ok.getIc hO h_a (by decide) k13_19 e_196 (fun _ _ he hv kk => th_get (ci := 11) (C := RX11) (T := TX11) (N := 66) hx hb hts inX11 hown hK hH he rfl 19 (by decide) fl0 hv dX11_readMany_54 kk) ?_
          refine lv_if_ne (tgt := 69) hx hb dX11_readMany_57 (by decide) (fun c_206 => ?_) (fun c_206 => ?_)
          · replace c_206 := mt (I_eq (a := z_195) (b := 0) rz_195 (show rng 0 from ⟨by decide, by decide⟩)).mpr c_206
            refine lv_aload_n hx hb dX11_readMany_69 rfl (lv_at hl 1 rfl) ?_
            refine lv_bipush (v := I 44) hx hb dX11_readMany_70 (by decide) ?_
            obtain ⟨_, hc_207⟩ := hO.cell h_a (by decide) (ci := 11) rfl
            refine th_calli (va_runV (As := [.int (I 44)]) (rest := []) ⟨hx, hb, hml, hown, hts⟩ (m_isMarked l G y b0 σ_J_187 E hO a h_a 44 (show rng 44 from (show rng 44 from ⟨by decide, by decide⟩)) Bf hsr (by omega)) (cwV 1 hts gX11_readMany_X11_isMarked rfl rfl rfl (by decide +kernel) ⟨(by first | (simp only [headSpec]; omega) | omega | (dsimp only; omega)), (by first | (simp only [headSpec]; omega) | omega | (dsimp only; omega))⟩) (th_PV hK hH rfl hc_207) rfl rfl hl.1 rfl (lv_room (Nat.le_of_ble_eq_true rfl)) dX11_readMany_72 ⟨(by first | (simp only [headSpec]; omega) | omega | (dsimp only; omega)), (by first | (simp only [headSpec]; omega) | omega | (dsimp only; omega))⟩) hS (fun z_210 σ_s_209 H locs rz_210 hw_208 hH hS => ?_)
            obtain ⟨e9, bhw_208, hw_208⟩ := hw_208
            replace e9 := e9.symm
            subst e9
            have hw_208 : z_210 = 0 ∨ (z_210 = 1 ∧ gI σ_J_187 a 19 = 0 ∧ gI σ_J_187 a 14 = 3 ∧ Bf (gI σ_J_187 a 17) = 44) := hw_208
            refine lv_istore (lv' := [(4, .int (I z_210)), (5, .int (I 0)), (0, .ref a), (1, .int (I k)), (2, .int (I dp)), (3, .int (I en))]) hx hb dX11_readMany_75 hl (by decide) rfl (fun ls hl => ?_)
            refine lv_iload hx hb dX11_readMany_77 (lv_at hl 0 rfl) ?_
            refine lv_if_eq (tgt := 86) hx hb dX11_readMany_79 (by decide) (fun c_211 => ?_) (fun c_211 => ?_)
            · replace c_211 := (I_eq (a := z_210) (b := 0) rz_210 (show rng 0 from ⟨by decide, by decide⟩)).mp c_211
              clear hw_208
              refine lv_goto (tgt := 20) hx hb dX11_readMany_86 (by decide) ?_
              replace hl : lv_has ls 6 [(4, .int (I z_210)), (0, .ref a), (1, .int (I k)), (2, .int (I dp)), (3, .int (I en))] := lv_sub hl [0, 2, 3, 4, 5] rfl
              exact ihJ_187 (z_210, G13q184, G22q185, F2q183) σ_J_187 _ _ _ (by first | (dsimp only; omega) | omega) ⟨hO, hF, hM, hsr, hH, hS, lv_sub hl [1, 2, 3, 4, 0] rfl, rz_210, rG13q184, rG22q185, by first | (dsimp only; omega) | omega, by first | (dsimp only; omega) | omega, by first | (dsimp only; omega) | omega, by first | (dsimp only; omega) | omega, by first | (dsimp only; omega) | omega, by first | (dsimp only; omega) | omega, by first | (dsimp only; omega) | omega, by first | (dsimp only; omega) | omega, (by unfold pgo; first | (dsimp only; omega) | omega), by first | (dsimp only; omega) | omega, (Or.inl (by omega)), J_187_11, J_187_12, J_187_13, J_187_14⟩
            · replace c_211 := mt (I_eq (a := z_210) (b := 0) rz_210 (show rng 0 from ⟨by decide, by decide⟩)).mpr c_211
              replace hw_208 := (hw_208.resolve_left c_211).2
              refine lv_aload_n hx hb dX11_readMany_82 rfl (lv_at hl 2 rfl) ?_
              obtain ⟨_, hc_212⟩ := hO.cell h_a (by decide) (ci := 11) rfl
              refine th_callv (va_runV (As := []) (rest := []) ⟨hx, hb, hml, hown, hts⟩ (m_pass l G y b0 σ_J_187 E hO a h_a Bf hsr (by omega)) (cwV 0 hts gX11_readMany_X11_pass rfl rfl rfl (by decide +kernel) ⟨(by first | (simp only [headSpec]; omega) | omega | (dsimp only; omega)), (by first | (simp only [headSpec]; omega) | omega | (dsimp only; omega))⟩) (th_PV hK hH rfl hc_212) rfl rfl hl.1 rfl (lv_room (Nat.le_of_ble_eq_true rfl)) dX11_readMany_83 ⟨(by first | (simp only [headSpec]; omega) | omega | (dsimp only; omega)), (by first | (simp only [headSpec]; omega) | omega | (dsimp only; omega))⟩) hS (fun σ_s_214 H locs hw_213 hH hS => ?_)
              obtain ⟨hO9, hF9, hM9, hw_213⟩ := hw_213
              replace hM := hM.tu hM9 (by decide)
              replace hF := hF.tu hF9 (by decide)
              have e_215 : gI σ_s_214 a 11 = a110 := (hM9.i (by decide)).trans J_187_11
              have e_216 : aF σ_s_214 (ad E a 2) = F2q183 := (hM9.a (by decide) (by decide)).trans J_187_12
              have e_217 : gI σ_s_214 a 22 = G22q185 := (hM9.i (by decide)).trans J_187_14
              have e_218 : gI σ_s_214 a 19 = z_195 := (hM9.i (by decide)).trans e_196
              replace hsr := hsr.mv hM9 (by decide) (by decide) (by decide) (by decide) (by decide)
              replace hO := hO9
              have hw_213 : (gI σ_J_187 a 13 ≤ gI σ_s_214 a 13 ∧ gI σ_s_214 a 13 ≤ gI σ_J_187 a 11 ∧ 0 ≤ gI σ_s_214 a 17 ∧ gI σ_s_214 a 17 ≤ gI σ_s_214 a 13) ∧ pgo (gI σ_s_214 a 19) (gI σ_s_214 a 14) (gI σ_J_187 a 13) (gI σ_s_214 a 13) ∧ gI σ_s_214 a 19 = gI σ_J_187 a 19 := hw_213
              refine lv_goto (tgt := 20) hx hb dX11_readMany_86 (by decide) ?_
              replace hl : lv_has ls 6 [(4, .int (I z_210)), (0, .ref a), (1, .int (I k)), (2, .int (I dp)), (3, .int (I en))] := lv_sub hl [0, 2, 3, 4, 5] rfl
              obtain ⟨z_219, e_220, rz_219, lz_219, uz_219⟩ := hO.gi h_a (by decide) k13_13
              exact ihJ_187 (z_210, z_219, G22q185, F2q183) σ_s_214 _ _ _ (by first | (dsimp only; omega) | omega) ⟨hO, hF, hM, hsr, hH, hS, lv_sub hl [1, 2, 3, 4, 0] rfl, rz_210, rz_219, rG22q185, by first | (dsimp only; omega) | omega, by first | (dsimp only; omega) | omega, by first | (dsimp only; omega) | omega, by first | (dsimp only; omega) | omega, by first | (dsimp only; omega) | omega, by first | (dsimp only; omega) | omega, by first | (dsimp only; omega) | omega, by first | (dsimp only; omega) | omega, (by unfold pgo; first | (dsimp only; omega) | omega), by first | (dsimp only; omega) | omega, (Or.inl (by omega)), e_215, e_216, e_220, e_217⟩
          · replace c_206 := (I_eq (a := z_195) (b := 0) rz_195 (show rng 0 from ⟨by decide, by decide⟩)).mp c_206
            refine lv_aload_n hx hb dX11_readMany_60 rfl (lv_at hl 1 rfl) ?_
            refine lv_iload hx hb dX11_readMany_61 (lv_at hl 0 rfl) ?_
            refine lv_iload_n hx hb dX11_readMany_63 rfl (lv_at hl 3 rfl) ?_
            refine lv_iconst (v := I 1) hx hb dX11_readMany_64 (by decide) ?_
            refine lv_iadd hx hb dX11_readMany_65 ?_
            refine nq_top (I_add _ _) ?_
            obtain ⟨_, hc_221⟩ := hO.cell h_a (by decide) (ci := 11) rfl
            refine th_callv (va_runV (As := [.int (I 0), .int (I (dp + 1))]) (rest := []) ⟨hx, hb, hml, hown, hts⟩ (ih l G y b0 σ_J_187 E hO a h_a 0 (show rng 0 from (show rng 0 from ⟨by decide, by decide⟩)) (dp + 1) (show rng (dp + 1) from ⟨by omega, by omega⟩) (by omega) (by omega) F2q183 J_187_12 Bf hsr (by omega) (by omega) (by omega)) (cwV 2 hts gX11_readMany_X11_readThing rfl rfl rfl (by decide +kernel) ⟨(by first | (simp only [headSpec]; omega) | omega | (dsimp only; omega)), (by first | (simp only [headSpec]; omega) | omega | (dsimp only; omega))⟩) (th_PV hK hH rfl hc_221) rfl rfl hl.1 rfl (lv_room (Nat.le_of_ble_eq_true rfl)) dX11_readMany_66 ⟨(by first | (simp only [headSpec]; omega) | omega | (dsimp only; omega)), (by first | (simp only [headSpec]; omega) | omega | (dsimp only; omega))⟩) hS (fun σ_s_223 H locs hw_222 hH hS => ?_)
            obtain ⟨hO9, hF9, hM9, hw_222⟩ := hw_222
            replace hM := hM.tu hM9 (by decide)
            replace hF := hF.tu hF9 (by decide)
            have e_224 : gI σ_s_223 a 11 = a110 := (hM9.i (by decide)).trans J_187_11
            replace hsr := hsr.mv hM9 (by decide) (by decide) (by decide) (by decide) (by decide)
            replace hO := hO9
            generalize ef_226 : aF σ_s_223 (ad E a 2) = g_225 at hw_222
            have hw_222 : ((gI σ_J_187 a 13 ≤ gI σ_s_223 a 13 ∧ gI σ_s_223 a 13 ≤ gI σ_J_187 a 11 ∧ 0 ≤ gI σ_s_223 a 17 ∧ gI σ_s_223 a 17 ≤ gI σ_s_223 a 13) ∧ pgo (gI σ_s_223 a 19) (gI σ_s_223 a 14) (gI σ_J_187 a 13) (gI σ_s_223 a 13)) ∧ gI σ_J_187 a 22 ≤ gI σ_s_223 a 22 ∧ (¬ gI σ_s_223 a 19 = 0 ∨ rdT F2q183 g_225 (gI σ_J_187 a 22) (gI σ_s_223 a 22) 0 (dp + 1)) := hw_222
            refine lv_aload_n hx hb dX11_readMany_69 rfl (lv_at hl 1 rfl) ?_
            refine lv_bipush (v := I 44) hx hb dX11_readMany_70 (by decide) ?_
            obtain ⟨_, hc_227⟩ := hO.cell h_a (by decide) (ci := 11) rfl
            refine th_calli (va_runV (As := [.int (I 44)]) (rest := []) ⟨hx, hb, hml, hown, hts⟩ (m_isMarked l G y b0 σ_s_223 E hO a h_a 44 (show rng 44 from (show rng 44 from ⟨by decide, by decide⟩)) Bf hsr (by omega)) (cwV 1 hts gX11_readMany_X11_isMarked rfl rfl rfl (by decide +kernel) ⟨(by first | (simp only [headSpec]; omega) | omega | (dsimp only; omega)), (by first | (simp only [headSpec]; omega) | omega | (dsimp only; omega))⟩) (th_PV hK hH rfl hc_227) rfl rfl hl.1 rfl (lv_room (Nat.le_of_ble_eq_true rfl)) dX11_readMany_72 ⟨(by first | (simp only [headSpec]; omega) | omega | (dsimp only; omega)), (by first | (simp only [headSpec]; omega) | omega | (dsimp only; omega))⟩) hS (fun z_230 σ_s_229 H locs rz_230 hw_228 hH hS => ?_)
            obtain ⟨e9, bhw_228, hw_228⟩ := hw_228
            replace e9 := e9.symm
            subst e9
            have hw_228 : z_230 = 0 ∨ (z_230 = 1 ∧ gI σ_s_223 a 19 = 0 ∧ gI σ_s_223 a 14 = 3 ∧ Bf (gI σ_s_223 a 17) = 44) := hw_228
            refine lv_istore (lv' := [(4, .int (I z_230)), (5, .int (I 0)), (0, .ref a), (1, .int (I k)), (2, .int (I dp)), (3, .int (I en))]) hx hb dX11_readMany_75 hl (by decide) rfl (fun ls hl => ?_)
            refine lv_iload hx hb dX11_readMany_77 (lv_at hl 0 rfl) ?_
            refine lv_if_eq (tgt := 86) hx hb dX11_readMany_79 (by decide) (fun c_231 => ?_) (fun c_231 => ?_)
            · replace c_231 := (I_eq (a := z_230) (b := 0) rz_230 (show rng 0 from ⟨by decide, by decide⟩)).mp c_231
              clear hw_228
              refine lv_goto (tgt := 20) hx hb dX11_readMany_86 (by decide) ?_
              replace hl : lv_has ls 6 [(4, .int (I z_230)), (0, .ref a), (1, .int (I k)), (2, .int (I dp)), (3, .int (I en))] := lv_sub hl [0, 2, 3, 4, 5] rfl
              obtain ⟨z_232, e_233, rz_232, lz_232, uz_232⟩ := hO.gi h_a (by decide) k13_13
              obtain ⟨z_234, e_235, rz_234, lz_234, uz_234⟩ := hO.gi h_a (by decide) k13_22
              exact ihJ_187 (z_230, z_232, z_234, g_225) σ_s_223 _ _ _ (by have h8 := hw_222.1.2; unfold pgo at h8; first | (dsimp only; omega) | omega) ⟨hO, hF, hM, hsr, hH, hS, lv_sub hl [1, 2, 3, 4, 0] rfl, rz_230, rz_232, rz_234, by first | (dsimp only; omega) | omega, by first | (dsimp only; omega) | omega, by first | (dsimp only; omega) | omega, by first | (dsimp only; omega) | omega, by first | (dsimp only; omega) | omega, by first | (dsimp only; omega) | omega, by first | (dsimp only; omega) | omega, by first | (dsimp only; omega) | omega, (by have h8 := hw_222.1.2; unfold pgo at h8; unfold pgo; first | (dsimp only; omega) | omega), by first | (dsimp only; omega) | omega, (hw_222.2.2.elim (fun h9 => Or.inl (by omega)) (fun h9 => Or.inr (by rw [show z_234 = gI σ_s_223 a 22 by omega]; exact hR9.step (by rwa [show gI σ_J_187 a 22 = G22q185 by omega] at h9) (by intro h9; first | exact absurd h9 (by omega) | (have h8 := hX.2.2.resolve_left (by omega); rwa [show gI σ a 22 = G22q185 by omega] at h8)) (by omega)))), e_224, ef_226, e_233, e_235⟩
            · replace c_231 := mt (I_eq (a := z_230) (b := 0) rz_230 (show rng 0 from ⟨by decide, by decide⟩)).mpr c_231
              replace hw_228 := (hw_228.resolve_left c_231).2
              refine lv_aload_n hx hb dX11_readMany_82 rfl (lv_at hl 2 rfl) ?_
              obtain ⟨z_236, e_237, rz_236, lz_236, uz_236⟩ := hO.gi h_a (by decide) k13_22
              obtain ⟨_, hc_238⟩ := hO.cell h_a (by decide) (ci := 11) rfl
              refine th_callv (va_runV (As := []) (rest := []) ⟨hx, hb, hml, hown, hts⟩ (m_pass l G y b0 σ_s_223 E hO a h_a Bf hsr (by omega)) (cwV 0 hts gX11_readMany_X11_pass rfl rfl rfl (by decide +kernel) ⟨(by first | (simp only [headSpec]; omega) | omega | (dsimp only; omega)), (by first | (simp only [headSpec]; omega) | omega | (dsimp only; omega))⟩) (th_PV hK hH rfl hc_238) rfl rfl hl.1 rfl (lv_room (Nat.le_of_ble_eq_true rfl)) dX11_readMany_83 ⟨(by first | (simp only [headSpec]; omega) | omega | (dsimp only; omega)), (by first | (simp only [headSpec]; omega) | omega | (dsimp only; omega))⟩) hS (fun σ_s_240 H locs hw_239 hH hS => ?_)
              obtain ⟨hO9, hF9, hM9, hw_239⟩ := hw_239
              replace hM := hM.tu hM9 (by decide)
              replace hF := hF.tu hF9 (by decide)
              have e_241 : gI σ_s_240 a 11 = a110 := (hM9.i (by decide)).trans e_224
              have e_242 : aF σ_s_240 (ad E a 2) = g_225 := (hM9.a (by decide) (by decide)).trans ef_226
              have e_243 : gI σ_s_240 a 22 = z_236 := (hM9.i (by decide)).trans e_237
              replace hsr := hsr.mv hM9 (by decide) (by decide) (by decide) (by decide) (by decide)
              replace hO := hO9
              have hw_239 : (gI σ_s_223 a 13 ≤ gI σ_s_240 a 13 ∧ gI σ_s_240 a 13 ≤ gI σ_s_223 a 11 ∧ 0 ≤ gI σ_s_240 a 17 ∧ gI σ_s_240 a 17 ≤ gI σ_s_240 a 13) ∧ pgo (gI σ_s_240 a 19) (gI σ_s_240 a 14) (gI σ_s_223 a 13) (gI σ_s_240 a 13) ∧ gI σ_s_240 a 19 = gI σ_s_223 a 19 := hw_239
              refine lv_goto (tgt := 20) hx hb dX11_readMany_86 (by decide) ?_
              replace hl : lv_has ls 6 [(4, .int (I z_230)), (0, .ref a), (1, .int (I k)), (2, .int (I dp)), (3, .int (I en))] := lv_sub hl [0, 2, 3, 4, 5] rfl
              obtain ⟨z_244, e_245, rz_244, lz_244, uz_244⟩ := hO.gi h_a (by decide) k13_13
              exact ihJ_187 (z_230, z_244, z_236, g_225) σ_s_240 _ _ _ (by have h8 := hw_222.1.2; unfold pgo at h8; first | (dsimp only; omega) | omega) ⟨hO, hF, hM, hsr, hH, hS, lv_sub hl [1, 2, 3, 4, 0] rfl, rz_230, rz_244, rz_236, by first | (dsimp only; omega) | omega, by first | (dsimp only; omega) | omega, by first | (dsimp only; omega) | omega, by first | (dsimp only; omega) | omega, by first | (dsimp only; omega) | omega, by first | (dsimp only; omega) | omega, by first | (dsimp only; omega) | omega, by first | (dsimp only; omega) | omega, (by have h8 := hw_222.1.2; unfold pgo at h8; unfold pgo; first | (dsimp only; omega) | omega), by first | (dsimp only; omega) | omega, (hw_222.2.2.elim (fun h9 => Or.inl (by omega)) (fun h9 => Or.inr (by rw [show z_236 = gI σ_s_223 a 22 by omega]; exact hR9.step (by rwa [show gI σ_J_187 a 22 = G22q185 by omega] at h9) (by intro h9; first | exact absurd h9 (by omega) | (have h8 := hX.2.2.resolve_left (by omega); rwa [show gI σ a 22 = G22q185 by omega] at h8)) (by omega)))), e_241, e_242, e_245, e_243⟩
        · replace c_205 := (I_eq (a := z_204) (b := 3) rz_204 (show rng 3 from ⟨by decide, by decide⟩)).mp c_205
          refine lv_aload_n hx hb dX11_readMany_42 rfl (lv_at hl 0 rfl) ?_
          refine lv_iload_n hx hb dX11_readMany_43 rfl (lv_at hl 1 rfl) ?_
          obtain ⟨_, hc_246⟩ := hO.cell h_a (by decide) (ci := 11) rfl
          refine th_calli (va_runV (As := [.int (I k)]) (rest := []) ⟨hx, hb, hml, hown, hts⟩ (m_readKey l G y b0 σ_J_187 E hO a h_a k (show rng k from rk) (by omega) (by omega) F2q183 J_187_12 Bf hsr (by omega) (by omega) (by omega) ((by rw [show gI σ_J_187 a 22 = G22q185 by omega]; exact hR9.1.1)) (by omega)) (cwV 1 hts gX11_readMany_X11_readKey rfl rfl rfl (by decide +kernel) ⟨(by first | (simp only [headSpec]; omega) | omega | (dsimp only; omega)), (by first | (simp only [headSpec]; omega) | omega | (dsimp only; omega))⟩) (th_PV hK hH rfl hc_246) rfl rfl hl.1 rfl (lv_room (Nat.le_of_ble_eq_true rfl)) dX11_readMany_44 ⟨(by first | (simp only [headSpec]; omega) | omega | (dsimp only; omega)), (by first | (simp only [headSpec]; omega) | omega | (dsimp only; omega))⟩) hS (fun z_249 σ_s_248 H locs rz_249 hw_247 hH hS => ?_)
          obtain ⟨hO9, hF9, hM9, hw_247⟩ := hw_247
          replace hM := hM.tu hM9 (by decide)
          replace hF := hF.tu hF9 (by decide)
          have e_250 : gI σ_s_248 a 11 = a110 := (hM9.i (by decide)).trans J_187_11
          have e_251 : aF σ_s_248 (ad E a 2) = F2q183 := (hM9.a (by decide) (by decide)).trans J_187_12
          have e_252 : gI σ_s_248 a 22 = G22q185 := (hM9.i (by decide)).trans J_187_14
          replace hsr := hsr.mv hM9 (by decide) (by decide) (by decide) (by decide) (by decide)
          replace hO := hO9
          have hw_247 : ((gI σ_J_187 a 13 ≤ gI σ_s_248 a 13 ∧ gI σ_s_248 a 13 ≤ gI σ_J_187 a 11 ∧ 0 ≤ gI σ_s_248 a 17 ∧ gI σ_s_248 a 17 ≤ gI σ_s_248 a 13) ∧ pgo (gI σ_s_248 a 19) (gI σ_s_248 a 14) (gI σ_J_187 a 13) (gI σ_s_248 a 13)) ∧ bdo (gI σ_J_187 a 19) (gI σ_s_248 a 19) ∧ (¬ gI σ_s_248 a 19 = 0 ∨ nok F2q183 (k / 4 + 1) (gI σ_J_187 a 22) z_249) := hw_247
          refine lv_goto (tgt := 51) hx hb dX11_readMany_47 (by decide) ?_
          refine lv_istore (lv' := [(5, .int (I z_249)), (0, .ref a), (1, .int (I k)), (2, .int (I dp)), (3, .int (I en)), (4, .int (I v4q186))]) hx hb dX11_readMany_51 hl (by decide) rfl (fun ls hl => ?_)
          refine lv_aload_n hx hb dX11_readMany_53 rfl (lv_at hl 1 rfl) ?_
          refine ok.getI hO h_a (by decide) k13_19 (fun _ _ he hv kk => th_get (ci := 11) (C := RX11) (T := TX11) (N := 66) hx hb hts inX11 hown hK hH he rfl 19 (by decide) fl0 hv dX11_readMany_54 kk) (fun z_253 e_254 rz_253 lz_253 uz_253 => ?_)
          refine lv_if_ne (tgt := 69) hx hb dX11_readMany_57 (by decide) (fun c_255 => ?_) (fun c_255 => ?_)
          · replace c_255 := mt (I_eq (a := z_253) (b := 0) rz_253 (show rng 0 from ⟨by decide, by decide⟩)).mpr c_255
            refine lv_aload_n hx hb dX11_readMany_69 rfl (lv_at hl 1 rfl) ?_
            refine lv_bipush (v := I 44) hx hb dX11_readMany_70 (by decide) ?_
            obtain ⟨_, hc_256⟩ := hO.cell h_a (by decide) (ci := 11) rfl
            refine th_calli (va_runV (As := [.int (I 44)]) (rest := []) ⟨hx, hb, hml, hown, hts⟩ (m_isMarked l G y b0 σ_s_248 E hO a h_a 44 (show rng 44 from (show rng 44 from ⟨by decide, by decide⟩)) Bf hsr (by omega)) (cwV 1 hts gX11_readMany_X11_isMarked rfl rfl rfl (by decide +kernel) ⟨(by first | (simp only [headSpec]; omega) | omega | (dsimp only; omega)), (by first | (simp only [headSpec]; omega) | omega | (dsimp only; omega))⟩) (th_PV hK hH rfl hc_256) rfl rfl hl.1 rfl (lv_room (Nat.le_of_ble_eq_true rfl)) dX11_readMany_72 ⟨(by first | (simp only [headSpec]; omega) | omega | (dsimp only; omega)), (by first | (simp only [headSpec]; omega) | omega | (dsimp only; omega))⟩) hS (fun z_259 σ_s_258 H locs rz_259 hw_257 hH hS => ?_)
            obtain ⟨e9, bhw_257, hw_257⟩ := hw_257
            replace e9 := e9.symm
            subst e9
            have hw_257 : z_259 = 0 ∨ (z_259 = 1 ∧ gI σ_s_248 a 19 = 0 ∧ gI σ_s_248 a 14 = 3 ∧ Bf (gI σ_s_248 a 17) = 44) := hw_257
            refine lv_istore (lv' := [(4, .int (I z_259)), (5, .int (I z_249)), (0, .ref a), (1, .int (I k)), (2, .int (I dp)), (3, .int (I en))]) hx hb dX11_readMany_75 hl (by decide) rfl (fun ls hl => ?_)
            refine lv_iload hx hb dX11_readMany_77 (lv_at hl 0 rfl) ?_
            refine lv_if_eq (tgt := 86) hx hb dX11_readMany_79 (by decide) (fun c_260 => ?_) (fun c_260 => ?_)
            · replace c_260 := (I_eq (a := z_259) (b := 0) rz_259 (show rng 0 from ⟨by decide, by decide⟩)).mp c_260
              clear hw_257
              refine lv_goto (tgt := 20) hx hb dX11_readMany_86 (by decide) ?_
              replace hl : lv_has ls 6 [(4, .int (I z_259)), (0, .ref a), (1, .int (I k)), (2, .int (I dp)), (3, .int (I en))] := lv_sub hl [0, 2, 3, 4, 5] rfl
              obtain ⟨z_261, e_262, rz_261, lz_261, uz_261⟩ := hO.gi h_a (by decide) k13_13
              exact ihJ_187 (z_259, z_261, G22q185, F2q183) σ_s_248 _ _ _ (by first | (dsimp only; omega) | omega) ⟨hO, hF, hM, hsr, hH, hS, lv_sub hl [1, 2, 3, 4, 0] rfl, rz_259, rz_261, rG22q185, by first | (dsimp only; omega) | omega, by first | (dsimp only; omega) | omega, by first | (dsimp only; omega) | omega, by first | (dsimp only; omega) | omega, by first | (dsimp only; omega) | omega, by first | (dsimp only; omega) | omega, by first | (dsimp only; omega) | omega, by first | (dsimp only; omega) | omega, (by unfold pgo; first | (dsimp only; omega) | omega), by first | (dsimp only; omega) | omega, (Or.inl (by omega)), e_250, e_251, e_262, e_252⟩
            · replace c_260 := mt (I_eq (a := z_259) (b := 0) rz_259 (show rng 0 from ⟨by decide, by decide⟩)).mpr c_260
              replace hw_257 := (hw_257.resolve_left c_260).2
              refine lv_aload_n hx hb dX11_readMany_82 rfl (lv_at hl 2 rfl) ?_
              obtain ⟨_, hc_263⟩ := hO.cell h_a (by decide) (ci := 11) rfl
              refine th_callv (va_runV (As := []) (rest := []) ⟨hx, hb, hml, hown, hts⟩ (m_pass l G y b0 σ_s_248 E hO a h_a Bf hsr (by omega)) (cwV 0 hts gX11_readMany_X11_pass rfl rfl rfl (by decide +kernel) ⟨(by first | (simp only [headSpec]; omega) | omega | (dsimp only; omega)), (by first | (simp only [headSpec]; omega) | omega | (dsimp only; omega))⟩) (th_PV hK hH rfl hc_263) rfl rfl hl.1 rfl (lv_room (Nat.le_of_ble_eq_true rfl)) dX11_readMany_83 ⟨(by first | (simp only [headSpec]; omega) | omega | (dsimp only; omega)), (by first | (simp only [headSpec]; omega) | omega | (dsimp only; omega))⟩) hS (fun σ_s_265 H locs hw_264 hH hS => ?_)
              obtain ⟨hO9, hF9, hM9, hw_264⟩ := hw_264
              replace hM := hM.tu hM9 (by decide)
              replace hF := hF.tu hF9 (by decide)
              have e_266 : gI σ_s_265 a 11 = a110 := (hM9.i (by decide)).trans e_250
              have e_267 : aF σ_s_265 (ad E a 2) = F2q183 := (hM9.a (by decide) (by decide)).trans e_251
              have e_268 : gI σ_s_265 a 22 = G22q185 := (hM9.i (by decide)).trans e_252
              have e_269 : gI σ_s_265 a 19 = z_253 := (hM9.i (by decide)).trans e_254
              replace hsr := hsr.mv hM9 (by decide) (by decide) (by decide) (by decide) (by decide)
              replace hO := hO9
              have hw_264 : (gI σ_s_248 a 13 ≤ gI σ_s_265 a 13 ∧ gI σ_s_265 a 13 ≤ gI σ_s_248 a 11 ∧ 0 ≤ gI σ_s_265 a 17 ∧ gI σ_s_265 a 17 ≤ gI σ_s_265 a 13) ∧ pgo (gI σ_s_265 a 19) (gI σ_s_265 a 14) (gI σ_s_248 a 13) (gI σ_s_265 a 13) ∧ gI σ_s_265 a 19 = gI σ_s_248 a 19 := hw_264
              refine lv_goto (tgt := 20) hx hb dX11_readMany_86 (by decide) ?_
              replace hl : lv_has ls 6 [(4, .int (I z_259)), (0, .ref a), (1, .int (I k)), (2, .int (I dp)), (3, .int (I en))] := lv_sub hl [0, 2, 3, 4, 5] rfl
              obtain ⟨z_270, e_271, rz_270, lz_270, uz_270⟩ := hO.gi h_a (by decide) k13_13
              exact ihJ_187 (z_259, z_270, G22q185, F2q183) σ_s_265 _ _ _ (by first | (dsimp only; omega) | omega) ⟨hO, hF, hM, hsr, hH, hS, lv_sub hl [1, 2, 3, 4, 0] rfl, rz_259, rz_270, rG22q185, by first | (dsimp only; omega) | omega, by first | (dsimp only; omega) | omega, by first | (dsimp only; omega) | omega, by first | (dsimp only; omega) | omega, by first | (dsimp only; omega) | omega, by first | (dsimp only; omega) | omega, by first | (dsimp only; omega) | omega, by first | (dsimp only; omega) | omega, (by unfold pgo; first | (dsimp only; omega) | omega), by first | (dsimp only; omega) | omega, (Or.inl (by omega)), e_266, e_267, e_271, e_268⟩
          · replace c_255 := (I_eq (a := z_253) (b := 0) rz_253 (show rng 0 from ⟨by decide, by decide⟩)).mp c_255
            refine lv_aload_n hx hb dX11_readMany_60 rfl (lv_at hl 1 rfl) ?_
            refine lv_iload hx hb dX11_readMany_61 (lv_at hl 0 rfl) ?_
            refine lv_iload_n hx hb dX11_readMany_63 rfl (lv_at hl 3 rfl) ?_
            refine lv_iconst (v := I 1) hx hb dX11_readMany_64 (by decide) ?_
            refine lv_iadd hx hb dX11_readMany_65 ?_
            refine nq_top (I_add _ _) ?_
            obtain ⟨_, hc_272⟩ := hO.cell h_a (by decide) (ci := 11) rfl
            refine th_callv (va_runV (As := [.int (I z_249), .int (I (dp + 1))]) (rest := []) ⟨hx, hb, hml, hown, hts⟩ (ih l G y b0 σ_s_248 E hO a h_a z_249 (show rng z_249 from rz_249) (dp + 1) (show rng (dp + 1) from ⟨by omega, by omega⟩) (by omega) (by omega) F2q183 e_251 Bf hsr (by omega) (by omega) (by omega)) (cwV 2 hts gX11_readMany_X11_readThing rfl rfl rfl (by decide +kernel) ⟨(by first | (simp only [headSpec]; omega) | omega | (dsimp only; omega)), (by first | (simp only [headSpec]; omega) | omega | (dsimp only; omega))⟩) (th_PV hK hH rfl hc_272) rfl rfl hl.1 rfl (lv_room (Nat.le_of_ble_eq_true rfl)) dX11_readMany_66 ⟨(by first | (simp only [headSpec]; omega) | omega | (dsimp only; omega)), (by first | (simp only [headSpec]; omega) | omega | (dsimp only; omega))⟩) hS (fun σ_s_274 H locs hw_273 hH hS => ?_)
            obtain ⟨hO9, hF9, hM9, hw_273⟩ := hw_273
            replace hM := hM.tu hM9 (by decide)
            replace hF := hF.tu hF9 (by decide)
            have e_275 : gI σ_s_274 a 11 = a110 := (hM9.i (by decide)).trans e_250
            replace hsr := hsr.mv hM9 (by decide) (by decide) (by decide) (by decide) (by decide)
            replace hO := hO9
            generalize ef_277 : aF σ_s_274 (ad E a 2) = g_276 at hw_273
            have hw_273 : ((gI σ_s_248 a 13 ≤ gI σ_s_274 a 13 ∧ gI σ_s_274 a 13 ≤ gI σ_s_248 a 11 ∧ 0 ≤ gI σ_s_274 a 17 ∧ gI σ_s_274 a 17 ≤ gI σ_s_274 a 13) ∧ pgo (gI σ_s_274 a 19) (gI σ_s_274 a 14) (gI σ_s_248 a 13) (gI σ_s_274 a 13)) ∧ gI σ_s_248 a 22 ≤ gI σ_s_274 a 22 ∧ (¬ gI σ_s_274 a 19 = 0 ∨ rdT F2q183 g_276 (gI σ_s_248 a 22) (gI σ_s_274 a 22) z_249 (dp + 1)) := hw_273
            refine lv_aload_n hx hb dX11_readMany_69 rfl (lv_at hl 1 rfl) ?_
            refine lv_bipush (v := I 44) hx hb dX11_readMany_70 (by decide) ?_
            obtain ⟨_, hc_278⟩ := hO.cell h_a (by decide) (ci := 11) rfl
            refine th_calli (va_runV (As := [.int (I 44)]) (rest := []) ⟨hx, hb, hml, hown, hts⟩ (m_isMarked l G y b0 σ_s_274 E hO a h_a 44 (show rng 44 from (show rng 44 from ⟨by decide, by decide⟩)) Bf hsr (by omega)) (cwV 1 hts gX11_readMany_X11_isMarked rfl rfl rfl (by decide +kernel) ⟨(by first | (simp only [headSpec]; omega) | omega | (dsimp only; omega)), (by first | (simp only [headSpec]; omega) | omega | (dsimp only; omega))⟩) (th_PV hK hH rfl hc_278) rfl rfl hl.1 rfl (lv_room (Nat.le_of_ble_eq_true rfl)) dX11_readMany_72 ⟨(by first | (simp only [headSpec]; omega) | omega | (dsimp only; omega)), (by first | (simp only [headSpec]; omega) | omega | (dsimp only; omega))⟩) hS (fun z_281 σ_s_280 H locs rz_281 hw_279 hH hS => ?_)
            obtain ⟨e9, bhw_279, hw_279⟩ := hw_279
            replace e9 := e9.symm
            subst e9
            have hw_279 : z_281 = 0 ∨ (z_281 = 1 ∧ gI σ_s_274 a 19 = 0 ∧ gI σ_s_274 a 14 = 3 ∧ Bf (gI σ_s_274 a 17) = 44) := hw_279
            refine lv_istore (lv' := [(4, .int (I z_281)), (5, .int (I z_249)), (0, .ref a), (1, .int (I k)), (2, .int (I dp)), (3, .int (I en))]) hx hb dX11_readMany_75 hl (by decide) rfl (fun ls hl => ?_)
            refine lv_iload hx hb dX11_readMany_77 (lv_at hl 0 rfl) ?_
            refine lv_if_eq (tgt := 86) hx hb dX11_readMany_79 (by decide) (fun c_282 => ?_) (fun c_282 => ?_)
            · replace c_282 := (I_eq (a := z_281) (b := 0) rz_281 (show rng 0 from ⟨by decide, by decide⟩)).mp c_282
              clear hw_279
              refine lv_goto (tgt := 20) hx hb dX11_readMany_86 (by decide) ?_
              replace hl : lv_has ls 6 [(4, .int (I z_281)), (0, .ref a), (1, .int (I k)), (2, .int (I dp)), (3, .int (I en))] := lv_sub hl [0, 2, 3, 4, 5] rfl
              obtain ⟨z_283, e_284, rz_283, lz_283, uz_283⟩ := hO.gi h_a (by decide) k13_13
              obtain ⟨z_285, e_286, rz_285, lz_285, uz_285⟩ := hO.gi h_a (by decide) k13_22
              exact ihJ_187 (z_281, z_283, z_285, g_276) σ_s_274 _ _ _ (by have h8 := hw_273.1.2; unfold pgo at h8; first | (dsimp only; omega) | omega) ⟨hO, hF, hM, hsr, hH, hS, lv_sub hl [1, 2, 3, 4, 0] rfl, rz_281, rz_283, rz_285, by first | (dsimp only; omega) | omega, by first | (dsimp only; omega) | omega, by first | (dsimp only; omega) | omega, by first | (dsimp only; omega) | omega, by first | (dsimp only; omega) | omega, by first | (dsimp only; omega) | omega, by first | (dsimp only; omega) | omega, by first | (dsimp only; omega) | omega, (by have h8 := hw_273.1.2; unfold pgo at h8; unfold pgo; first | (dsimp only; omega) | omega), by first | (dsimp only; omega) | omega, (hw_273.2.2.elim (fun h9 => Or.inl (by omega)) (fun h9 => Or.inr (by rw [show z_285 = gI σ_s_274 a 22 by omega]; exact hR9.step (by rwa [show gI σ_s_248 a 22 = G22q185 by omega] at h9) (by intro h9; first | exact absurd h9 (by omega) | (have h8 := hw_247.2.2.resolve_left (by omega); rwa [show gI σ_J_187 a 22 = G22q185 by omega] at h8)) (by omega)))), e_275, ef_277, e_284, e_286⟩
            · replace c_282 := mt (I_eq (a := z_281) (b := 0) rz_281 (show rng 0 from ⟨by decide, by decide⟩)).mpr c_282
              replace hw_279 := (hw_279.resolve_left c_282).2
              refine lv_aload_n hx hb dX11_readMany_82 rfl (lv_at hl 2 rfl) ?_
              obtain ⟨z_287, e_288, rz_287, lz_287, uz_287⟩ := hO.gi h_a (by decide) k13_22
              obtain ⟨_, hc_289⟩ := hO.cell h_a (by decide) (ci := 11) rfl
              refine th_callv (va_runV (As := []) (rest := []) ⟨hx, hb, hml, hown, hts⟩ (m_pass l G y b0 σ_s_274 E hO a h_a Bf hsr (by omega)) (cwV 0 hts gX11_readMany_X11_pass rfl rfl rfl (by decide +kernel) ⟨(by first | (simp only [headSpec]; omega) | omega | (dsimp only; omega)), (by first | (simp only [headSpec]; omega) | omega | (dsimp only; omega))⟩) (th_PV hK hH rfl hc_289) rfl rfl hl.1 rfl (lv_room (Nat.le_of_ble_eq_true rfl)) dX11_readMany_83 ⟨(by first | (simp only [headSpec]; omega) | omega | (dsimp only; omega)), (by first | (simp only [headSpec]; omega) | omega | (dsimp only; omega))⟩) hS (fun σ_s_291 H locs hw_290 hH hS => ?_)
              obtain ⟨hO9, hF9, hM9, hw_290⟩ := hw_290
              replace hM := hM.tu hM9 (by decide)
              replace hF := hF.tu hF9 (by decide)
              have e_292 : gI σ_s_291 a 11 = a110 := (hM9.i (by decide)).trans e_275
              have e_293 : aF σ_s_291 (ad E a 2) = g_276 := (hM9.a (by decide) (by decide)).trans ef_277
              have e_294 : gI σ_s_291 a 22 = z_287 := (hM9.i (by decide)).trans e_288
              replace hsr := hsr.mv hM9 (by decide) (by decide) (by decide) (by decide) (by decide)
              replace hO := hO9
              have hw_290 : (gI σ_s_274 a 13 ≤ gI σ_s_291 a 13 ∧ gI σ_s_291 a 13 ≤ gI σ_s_274 a 11 ∧ 0 ≤ gI σ_s_291 a 17 ∧ gI σ_s_291 a 17 ≤ gI σ_s_291 a 13) ∧ pgo (gI σ_s_291 a 19) (gI σ_s_291 a 14) (gI σ_s_274 a 13) (gI σ_s_291 a 13) ∧ gI σ_s_291 a 19 = gI σ_s_274 a 19 := hw_290
              refine lv_goto (tgt := 20) hx hb dX11_readMany_86 (by decide) ?_
              replace hl : lv_has ls 6 [(4, .int (I z_281)), (0, .ref a), (1, .int (I k)), (2, .int (I dp)), (3, .int (I en))] := lv_sub hl [0, 2, 3, 4, 5] rfl
              obtain ⟨z_295, e_296, rz_295, lz_295, uz_295⟩ := hO.gi h_a (by decide) k13_13
              exact ihJ_187 (z_281, z_295, z_287, g_276) σ_s_291 _ _ _ (by have h8 := hw_273.1.2; unfold pgo at h8; first | (dsimp only; omega) | omega) ⟨hO, hF, hM, hsr, hH, hS, lv_sub hl [1, 2, 3, 4, 0] rfl, rz_281, rz_295, rz_287, by first | (dsimp only; omega) | omega, by first | (dsimp only; omega) | omega, by first | (dsimp only; omega) | omega, by first | (dsimp only; omega) | omega, by first | (dsimp only; omega) | omega, by first | (dsimp only; omega) | omega, by first | (dsimp only; omega) | omega, by first | (dsimp only; omega) | omega, (by have h8 := hw_273.1.2; unfold pgo at h8; unfold pgo; first | (dsimp only; omega) | omega), by first | (dsimp only; omega) | omega, (hw_273.2.2.elim (fun h9 => Or.inl (by omega)) (fun h9 => Or.inr (by rw [show z_287 = gI σ_s_274 a 22 by omega]; exact hR9.step (by rwa [show gI σ_s_248 a 22 = G22q185 by omega] at h9) (by intro h9; first | exact absurd h9 (by omega) | (have h8 := hw_247.2.2.resolve_left (by omega); rwa [show gI σ_J_187 a 22 = G22q185 by omega] at h8)) (by omega)))), e_292, e_293, e_296, e_294⟩
  · replace c_12 := mt (I_eq (a := z_11) (b := 0) rz_11 (show rng 0 from ⟨by decide, by decide⟩)).mpr c_12
    replace hw_9 := (hw_9.resolve_left c_12).2
    refine lv_aload_n hx hb dX11_readMany_12 rfl (lv_at hl 0 rfl) ?_
    obtain ⟨_, hc_297⟩ := hO.cell h_a (by decide) (ci := 11) rfl
    refine th_callv (va_runV (As := []) (rest := []) ⟨hx, hb, hml, hown, hts⟩ (m_pass l G y b0 σ_s_3 E hO a h_a Bf hsr (by omega)) (cwV 0 hts gX11_readMany_X11_pass rfl rfl rfl (by decide +kernel) ⟨(by first | (simp only [headSpec]; omega) | omega | (dsimp only; omega)), (by first | (simp only [headSpec]; omega) | omega | (dsimp only; omega))⟩) (th_PV hK hH rfl hc_297) rfl rfl hl.1 rfl (lv_room (Nat.le_of_ble_eq_true rfl)) dX11_readMany_13 ⟨(by first | (simp only [headSpec]; omega) | omega | (dsimp only; omega)), (by first | (simp only [headSpec]; omega) | omega | (dsimp only; omega))⟩) hS (fun σ_s_299 H locs hw_298 hH hS => ?_)
    obtain ⟨hO9, hF9, hM9, hw_298⟩ := hw_298
    replace hM := hM.tu hM9 (by decide)
    replace hF := hF.tu hF9 (by decide)
    have e_300 : aF σ_s_299 (ad E a 2) = f2 := (hM9.a (by decide) (by decide)).trans e_4
    have e_301 : gI σ_s_299 a 11 = a110 := (hM9.i (by decide)).trans e_5
    have e_302 : gI σ_s_299 a 19 = a190 := (hM9.i (by decide)).trans e_6
    have e_303 : gI σ_s_299 a 22 = a220 := (hM9.i (by decide)).trans e_7
    replace hsr := hsr.mv hM9 (by decide) (by decide) (by decide) (by decide) (by decide)
    replace hO := hO9
    have hw_298 : (gI σ_s_3 a 13 ≤ gI σ_s_299 a 13 ∧ gI σ_s_299 a 13 ≤ gI σ_s_3 a 11 ∧ 0 ≤ gI σ_s_299 a 17 ∧ gI σ_s_299 a 17 ≤ gI σ_s_299 a 13) ∧ pgo (gI σ_s_299 a 19) (gI σ_s_299 a 14) (gI σ_s_3 a 13) (gI σ_s_299 a 13) ∧ gI σ_s_299 a 19 = gI σ_s_3 a 19 := hw_298
    exact th_vret hx hb hr hlocks hH hS ⟨hO, hF, hM, ⟨⟨by omega, pgo.of (by have h7 := hw_2.2.1; have h8 := hw_298.2.1; unfold pgo at h7 h8; omega)⟩, by omega, Or.inr (by rw [show gI σ_s_299 a 22 = k / 4 + 1 by omega]; exact rdF.zero (by rw [show aF σ_s_299 (ad E a 2) = f2 from e_300]; exact same.rf))⟩⟩ dX11_readMany_16
