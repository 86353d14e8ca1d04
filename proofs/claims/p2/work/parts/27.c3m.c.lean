set_option maxHeartbeats 4000000 in
set_option maxRecDepth 100000 in
theorem m_readMany (n : Nat) (ih : ∀ (l : Launch) (G : va_G) (y : Nat → ClassId) (b0 : Nat) (σ : th_M) (E : th_E) (hO : ok y E σ) (a : Nat) (h_a : kd E a = 13) (ky : Int) (rky : rng ky) (dp : Int) (rdp : rng dp) (l_dp : 0 ≤ dp) (u_dp : dp ≤ 8) (f2 : Nat → Int32) (ef2 : aF σ (ad E a 2) = f2) (Bf : Int → Int) (hsr : sr E σ a Bf) (hy0 : 0 ≤ gI σ a 17 ∧ gI σ a 17 ≤ gI σ a 13 ∧ gI σ a 13 ≤ gI σ a 11 ∧ gI σ a 11 ≤ 400) (hy1 : gI σ a 19 = 0) (hn : (8 - dp).toNat < n), Met l yX11_readThing wsX11_readThing ({ frames := 4*n+12, cells := 0, slots := 0, locals := (120*n+900) }) (th_P G y b0 σ [.ref a, .int (I ky), .int (I dp)]) (th_Qv G b0 (fun σ1 => ok y E σ1 ∧ fr [13] E σ σ1 ∧ fm [13, 14, 15, 16, 17, 18, 19, 20, 2, 22] E σ σ1 a ∧ (((gI σ a 13 ≤ gI σ1 a 13 ∧ gI σ1 a 13 ≤ gI σ a 11 ∧ 0 ≤ gI σ1 a 17 ∧ gI σ1 a 17 ≤ gI σ1 a 13) ∧ pgo (gI σ1 a 19) (gI σ1 a 14) (gI σ a 13) (gI σ1 a 13)) ∧ gI σ a 22 ≤ gI σ1 a 22 ∧ (¬ gI σ1 a 19 = 0 ∨ rdT f2 (aF σ1 (ad E a 2)) (gI σ a 22) (gI σ1 a 22) ky dp)))) 0 0 (th_A b0)) (l : Launch) (G : va_G) (y : Nat → ClassId) (b0 : Nat) (σ : th_M) (E : th_E) (hO : ok y E σ) (a : Nat) (h_a : kd E a = 13) (k : Int) (rk : rng k) (l_k : 0 ≤ k) (u_k : k ≤ 236) (dp : Int) (rdp : rng dp) (l_dp : 0 ≤ dp) (u_dp : dp ≤ 7) (en : Int) (ren : rng en) (f2 : Nat → Int32) (ef2 : aF σ (ad E a 2) = f2) (Bf : Int → Int) (hsr : sr E σ a Bf) (hy0 : 0 ≤ gI σ a 17 ∧ gI σ a 17 ≤ gI σ a 13 ∧ gI σ a 13 ≤ gI σ a 11 ∧ gI σ a 11 ≤ 400) (hy1 : k % 4 = 0) (hy2 : k / 4 + 1 = gI σ a 22) (hy3 : (8 - dp).toNat < n + 1) : Met l yX11_readMany wsX11_readMany ({ frames := 4*n+14, cells := 0, slots := 0, locals := (120*n+960) }) (th_P G y b0 σ [.ref a, .int (I k), .int (I dp), .int (I en)]) (th_Qv G b0 (fun σ1 => ok y E σ1 ∧ fr [13] E σ σ1 ∧ fm [13, 14, 15, 16, 17, 18, 19, 20, 2, 22] E σ σ1 a ∧ (((gI σ a 13 ≤ gI σ1 a 13 ∧ gI σ1 a 13 ≤ gI σ a 11 ∧ 0 ≤ gI σ1 a 17 ∧ gI σ1 a 17 ≤ gI σ1 a 13) ∧ pgo (gI σ1 a 19) (gI σ1 a 14) (gI σ a 13) (gI σ1 a 13)) ∧ gI σ a 22 ≤ gI σ1 a 22 ∧ (¬ gI σ1 a 19 = 0 ∨ rdF f2 (aF σ1 (ad E a 2)) (k / 4) (gI σ1 a 22) dp)))) 0 0 (th_A b0) := by
  refine Met.ofW (cc := cX11_readMany) (maxL := 6) (ret := none) (by decide) rfl ?_
  intro p e s m args below meth c s₁ B hml hv
  obtain ⟨rfl, hH, hK⟩ := hv
  have hx := B.exec
  have hb := B.bytes
  have hr := B.returns
  have hts := atoms_spec (ws := wsX11_readMany) B.pre
  have hown : s.vm.findClass RX11 = some m.cls := findClass_of_methodNamed B.named
  have hlocks := B.notSynchronized
  have h00 : b0 ≤ s.heap.size := hH.1
  have hS : va_S (th_A b0) s.heap s.heap [] := va_S.rf
  have hF : fr [13] E σ σ := fr.rf
  have hM : fm [13, 14, 15, 16, 17, 18, 19, 20, 2, 22] E σ σ a := fm.rf
  have inX11 : ∀ w ∈ wsX110, w ∈ wsX11_readMany := by decide +kernel
  have fl0 := hts (.fieldLink RX11 162 "NestQueryModel" "bad" "I") (by decide +kernel)
  have fl1 := hts (.fieldLink RX11 13 "NestQueryModel" "data" "[I") (by decide +kernel)
  have hl := lv_entry ([.ref a, .int (I k), .int (I dp), .int (I en)]) (n := 6) (Nat.le_of_ble_eq_true rfl)
  rw [lg_entry_eq]
  generalize (lg_sl ([.ref a, .int (I k), .int (I dp), .int (I en)]) ++ List.replicate (6 - (lg_sl ([.ref a, .int (I k), .int (I dp), .int (I en)])).length) Slot.unset).toArray = ls at hl ⊢
  have hl : lv_has ls 6 [(0, .ref a), (1, .int (I k)), (2, .int (I dp)), (3, .int (I en))] := hl
  obtain ⟨a110, ea110, ra110, la110, ua110⟩ := hO.gi h_a (by decide) k13_11
  obtain ⟨a130, ea130, ra130, la130, ua130⟩ := hO.gi h_a (by decide) k13_13
  obtain ⟨a140, ea140, ra140, la140, ua140⟩ := hO.gi h_a (by decide) k13_14
  obtain ⟨a170, ea170, ra170, la170, ua170⟩ := hO.gi h_a (by decide) k13_17
  obtain ⟨a190, ea190, ra190, la190, ua190⟩ := hO.gi h_a (by decide) k13_19
  obtain ⟨a220, ea220, ra220, la220, ua220⟩ := hO.gi h_a (by decide) k13_22
  refine lv_aload_n hx hb dX11_readMany_0 rfl (lv_at hl 0 rfl) ?_
  obtain ⟨_, hc_1⟩ := hO.cell h_a (by decide) (ci := 11) rfl
  refine th_callv (va_runV (As := []) (rest := []) ⟨hx, hb, hml, hown, hts⟩ (m_pass l G y b0 σ E hO a h_a Bf hsr (by omega)) (cwV 0 hts gX11_readMany_X11_pass rfl rfl rfl (by decide +kernel) ⟨(by first | (simp only [headSpec]; omega) | omega | (dsimp only; omega)), (by first | (simp only [headSpec]; omega) | omega | (dsimp only; omega))⟩) (th_PV hK hH rfl hc_1) rfl rfl hl.1 rfl (lv_room (Nat.le_of_ble_eq_true rfl)) dX11_readMany_1 ⟨(by first | (simp only [headSpec]; omega) | omega | (dsimp only; omega)), (by first | (simp only [headSpec]; omega) | omega | (dsimp only; omega))⟩) hS (fun σ_s_3 H locs hw_2 hH hS => ?_)
  obtain ⟨hO9, hF9, hM9, hw_2⟩ := hw_2
  replace hM := hM.tu hM9 (by decide)
  replace hF := hF.tu hF9 (by decide)
  have e_4 : aF σ_s_3 (ad E a 2) = f2 := (hM9.a (by decide) (by decide)).trans ef2
  have e_5 : gI σ_s_3 a 11 = a110 := (hM9.i (by decide)).trans ea110
  have e_6 : gI σ_s_3 a 19 = a190 := (hM9.i (by decide)).trans ea190
  have e_7 : gI σ_s_3 a 22 = a220 := (hM9.i (by decide)).trans ea220
  replace hsr := hsr.mv hM9 (by decide) (by decide) (by decide) (by decide) (by decide)
  replace hO := hO9
  have hw_2 : (gI σ a 13 ≤ gI σ_s_3 a 13 ∧ gI σ_s_3 a 13 ≤ gI σ a 11 ∧ 0 ≤ gI σ_s_3 a 17 ∧ gI σ_s_3 a 17 ≤ gI σ_s_3 a 13) ∧ pgo (gI σ_s_3 a 19) (gI σ_s_3 a 14) (gI σ a 13) (gI σ_s_3 a 13) ∧ gI σ_s_3 a 19 = gI σ a 19 := hw_2
  refine lv_aload_n hx hb dX11_readMany_4 rfl (lv_at hl 0 rfl) ?_
  refine lv_iload_n hx hb dX11_readMany_5 rfl (lv_at hl 3 rfl) ?_
  obtain ⟨_, hc_8⟩ := hO.cell h_a (by decide) (ci := 11) rfl
  refine th_calli (va_runV (As := [.int (I en)]) (rest := []) ⟨hx, hb, hml, hown, hts⟩ (m_isMarked l G y b0 σ_s_3 E hO a h_a en (show rng en from ren) Bf hsr (by omega)) (cwV 1 hts gX11_readMany_X11_isMarked rfl rfl rfl (by decide +kernel) ⟨(by first | (simp only [headSpec]; omega) | omega | (dsimp only; omega)), (by first | (simp only [headSpec]; omega) | omega | (dsimp only; omega))⟩) (th_PV hK hH rfl hc_8) rfl rfl hl.1 rfl (lv_room (Nat.le_of_ble_eq_true rfl)) dX11_readMany_6 ⟨(by first | (simp only [headSpec]; omega) | omega | (dsimp only; omega)), (by first | (simp only [headSpec]; omega) | omega | (dsimp only; omega))⟩) hS (fun z_11 σ_s_10 H locs rz_11 hw_9 hH hS => ?_)
  obtain ⟨e9, bhw_9, hw_9⟩ := hw_9
  replace e9 := e9.symm
  subst e9
  have hw_9 : z_11 = 0 ∨ (z_11 = 1 ∧ gI σ_s_3 a 19 = 0 ∧ gI σ_s_3 a 14 = 3 ∧ Bf (gI σ_s_3 a 17) = en) := hw_9
  refine lv_if_eq (tgt := 17) hx hb dX11_readMany_9 (by decide) (fun c_12 => ?_) (fun c_12 => ?_)
  · replace c_12 := (I_eq (a := z_11) (b := 0) rz_11 (show rng 0 from ⟨by decide, by decide⟩)).mp c_12
    clear hw_9
    refine lv_iconst (v := I 1) hx hb dX11_readMany_17 (by decide) ?_
    refine lv_istore (lv' := [(4, .int (I 1)), (0, .ref a), (1, .int (I k)), (2, .int (I dp)), (3, .int (I en))]) hx hb dX11_readMany_18 hl (by decide) rfl (fun ls hl => ?_)
    obtain ⟨z_13, e_14, rz_13, lz_13, uz_13⟩ := hO.gi h_a (by decide) k13_13
    refine th_loop (α := Int × Int × Int × (Nat → Int32)) (pc := 20) (fun x9 => (2 * (gI σ a 11 - x9.2.1) + x9.1).toNat) (fun x9 σ9 H9 l9 ls9 => ok y E σ9 ∧ fr [13] E σ σ9 ∧ fm [13, 14, 15, 16, 17, 18, 19, 20, 2, 22] E σ σ9 a ∧ sr E σ9 a Bf ∧ th_H G b0 σ9 H9 ∧ va_S (th_A b0) s.heap H9 l9 ∧ lv_has ls9 6 [(0, .ref a), (1, .int (I k)), (2, .int (I dp)), (3, .int (I en)), (4, .int (I x9.1))] ∧ rng x9.1 ∧ rng x9.2.1 ∧ rng x9.2.2.1 ∧ (gI σ a 13 ≤ x9.2.1) ∧ (x9.2.1 ≤ gI σ a 11) ∧ (0 ≤ gI σ9 a 17) ∧ (gI σ9 a 17 ≤ x9.2.1) ∧ (k / 4 + 1 ≤ x9.2.2.1) ∧ (x9.2.2.1 ≤ 60) ∧ (0 ≤ x9.1) ∧ (x9.1 ≤ 1) ∧ (pgo (gI σ9 a 19) (gI σ9 a 14) (gI σ a 13) x9.2.1) ∧ (0 ≤ x9.2.2.1) ∧ (¬ gI σ9 a 19 = 0 ∨ rdF f2 x9.2.2.2 (k / 4) x9.2.2.1 dp) ∧ (gI σ9 a 11 = a110) ∧ (aF σ9 (ad E a 2) = x9.2.2.2) ∧ (gI σ9 a 13 = x9.2.1) ∧ (gI σ9 a 22 = x9.2.2.1)) ?_ (1, z_13, a220, f2) σ_s_3 _ _ _ ⟨hO, hF, hM, hsr, hH, hS, lv_sub hl [1, 2, 3, 4, 0] rfl, (show rng 1 from ⟨by decide, by decide⟩), rz_13, ra220, by first | (dsimp only; omega) | omega, by first | (dsimp only; omega) | omega, by first | (dsimp only; omega) | omega, by first | (dsimp only; omega) | omega, by first | (dsimp only; omega) | omega, by first | (dsimp only; omega) | omega, by first | (dsimp only; omega) | omega, by first | (dsimp only; omega) | omega, (by have h7 := hw_2.2.1; unfold pgo at h7 ⊢; first | (dsimp only; omega) | omega), by first | (dsimp only; omega) | omega, (Or.inr (by rw [show a220 = k / 4 + 1 by omega]; exact rdF.zero same.rf)), e_5, e_4, e_14, e_7⟩
    intro x9 σ_J_175 H locs ls hI9 ihJ_175
    obtain ⟨v4q174, G13q172, G22q173, F2q171⟩ := x9
    obtain ⟨hO, hF, hM, hsr, hH, hS, hl, rv4q174, rG13q172, rG22q173, J_175_0, J_175_1, J_175_2, J_175_3, J_175_4, J_175_5, J_175_6, J_175_7, J_175_8, J_175_9, J_175_10, J_175_11, J_175_12, J_175_13, J_175_14⟩ := hI9
    have hl : lv_has ls 6 [(0, .ref a), (1, .int (I k)), (2, .int (I dp)), (3, .int (I en)), (4, .int (I v4q174))] := hl
    have rv4q174 : rng v4q174 := rv4q174
    have rG13q172 : rng G13q172 := rG13q172
    have rG22q173 : rng G22q173 := rG22q173
    have J_175_0 : gI σ a 13 ≤ G13q172 := J_175_0
    have J_175_1 : G13q172 ≤ gI σ a 11 := J_175_1
    have J_175_2 : 0 ≤ gI σ_J_175 a 17 := J_175_2
    have J_175_3 : gI σ_J_175 a 17 ≤ G13q172 := J_175_3
    have J_175_4 : k / 4 + 1 ≤ G22q173 := J_175_4
    have J_175_5 : G22q173 ≤ 60 := J_175_5
    have J_175_6 : 0 ≤ v4q174 := J_175_6
    have J_175_7 : v4q174 ≤ 1 := J_175_7
    have J_175_8 : pgo (gI σ_J_175 a 19) (gI σ_J_175 a 14) (gI σ a 13) G13q172 := J_175_8
    have J_175_9 : 0 ≤ G22q173 := J_175_9
    have J_175_10 : ¬ gI σ_J_175 a 19 = 0 ∨ rdF f2 F2q171 (k / 4) G22q173 dp := J_175_10
    have J_175_11 : gI σ_J_175 a 11 = a110 := J_175_11
    have J_175_12 : aF σ_J_175 (ad E a 2) = F2q171 := J_175_12
    have J_175_13 : gI σ_J_175 a 13 = G13q172 := J_175_13
    have J_175_14 : gI σ_J_175 a 22 = G22q173 := J_175_14
    refine lv_iload hx hb dX11_readMany_20 (lv_at hl 4 rfl) ?_
    refine lv_if_eq (tgt := 89) hx hb dX11_readMany_22 (by decide) (fun c_176 => ?_) (fun c_176 => ?_)
    · replace c_176 := (I_eq (a := v4q174) (b := 0) rv4q174 (show rng 0 from ⟨by decide, by decide⟩)).mp c_176
      refine lv_aload_n hx hb dX11_readMany_89 rfl (lv_at hl 0 rfl) ?_
      refine lv_iload_n hx hb dX11_readMany_90 rfl (lv_at hl 3 rfl) ?_
      obtain ⟨_, hc_177⟩ := hO.cell h_a (by decide) (ci := 11) rfl
      refine th_callv (va_runV (As := [.int (I en)]) (rest := []) ⟨hx, hb, hml, hown, hts⟩ (m_need l G y b0 σ_J_175 E hO a h_a en (show rng en from ren) Bf hsr (by omega)) (cwV 1 hts gX11_readMany_X11_need rfl rfl rfl (by decide +kernel) ⟨(by first | (simp only [headSpec]; omega) | omega | (dsimp only; omega)), (by first | (simp only [headSpec]; omega) | omega | (dsimp only; omega))⟩) (th_PV hK hH rfl hc_177) rfl rfl hl.1 rfl (lv_room (Nat.le_of_ble_eq_true rfl)) dX11_readMany_91 ⟨(by first | (simp only [headSpec]; omega) | omega | (dsimp only; omega)), (by first | (simp only [headSpec]; omega) | omega | (dsimp only; omega))⟩) hS (fun σ_s_179 H locs hw_178 hH hS => ?_)
      obtain ⟨hO9, hF9, hM9, hw_178⟩ := hw_178
      replace hM := hM.tu hM9 (by decide)
      replace hF := hF.tu hF9 (by decide)
      have e_180 : gI σ_s_179 a 11 = a110 := (hM9.i (by decide)).trans J_175_11
      have e_181 : aF σ_s_179 (ad E a 2) = F2q171 := (hM9.a (by decide) (by decide)).trans J_175_12
      have e_182 : gI σ_s_179 a 22 = G22q173 := (hM9.i (by decide)).trans J_175_14
      replace hsr := hsr.mv hM9 (by decide) (by decide) (by decide) (by decide) (by decide)
      replace hO := hO9
      have hw_178 : (gI σ_J_175 a 13 ≤ gI σ_s_179 a 13 ∧ gI σ_s_179 a 13 ≤ gI σ_J_175 a 11 ∧ 0 ≤ gI σ_s_179 a 17 ∧ gI σ_s_179 a 17 ≤ gI σ_s_179 a 13) ∧ pgo (gI σ_s_179 a 19) (gI σ_s_179 a 14) (gI σ_J_175 a 13) (gI σ_s_179 a 13) ∧ bdo (gI σ_J_175 a 19) (gI σ_s_179 a 19) := hw_178
      exact th_vret hx hb hr hlocks hH hS ⟨hO, hF, hM, ⟨⟨by omega, pgo.of (by have h7 := J_175_8; have h8 := hw_178.2.1; have h6 := hw_178.2.2; unfold pgo at h7 h8; unfold bdo at h6; omega)⟩, by omega, (J_175_10).elim (fun h9 => Or.inl (by have h6 := hw_178.2.2; unfold bdo at h6; omega)) (fun h9 => Or.inr (by rw [show gI σ_s_179 a 22 = G22q173 by omega, show aF σ_s_179 (ad E a 2) = F2q171 from e_181]; exact h9))⟩⟩ dX11_readMany_94
    · replace c_176 := mt (I_eq (a := v4q174) (b := 0) rv4q174 (show rng 0 from ⟨by decide, by decide⟩)).mpr c_176
      refine lv_aload_n hx hb dX11_readMany_25 rfl (lv_at hl 0 rfl) ?_
      refine ok.getI hO h_a (by decide) k13_19 (fun _ _ he hv kk => th_get (ci := 11) (C := RX11) (T := TX11) (N := 66) hx hb hts inX11 hown hK hH he rfl 19 (by decide) fl0 hv dX11_readMany_26 kk) (fun z_183 e_184 rz_183 lz_183 uz_183 => ?_)
      refine lv_if_ne (tgt := 89) hx hb dX11_readMany_29 (by decide) (fun c_185 => ?_) (fun c_185 => ?_)
      · replace c_185 := mt (I_eq (a := z_183) (b := 0) rz_183 (show rng 0 from ⟨by decide, by decide⟩)).mpr c_185
        refine lv_aload_n hx hb dX11_readMany_89 rfl (lv_at hl 0 rfl) ?_
        refine lv_iload_n hx hb dX11_readMany_90 rfl (lv_at hl 3 rfl) ?_
        obtain ⟨_, hc_186⟩ := hO.cell h_a (by decide) (ci := 11) rfl
        refine th_callv (va_runV (As := [.int (I en)]) (rest := []) ⟨hx, hb, hml, hown, hts⟩ (m_need l G y b0 σ_J_175 E hO a h_a en (show rng en from ren) Bf hsr (by omega)) (cwV 1 hts gX11_readMany_X11_need rfl rfl rfl (by decide +kernel) ⟨(by first | (simp only [headSpec]; omega) | omega | (dsimp only; omega)), (by first | (simp only [headSpec]; omega) | omega | (dsimp only; omega))⟩) (th_PV hK hH rfl hc_186) rfl rfl hl.1 rfl (lv_room (Nat.le_of_ble_eq_true rfl)) dX11_readMany_91 ⟨(by first | (simp only [headSpec]; omega) | omega | (dsimp only; omega)), (by first | (simp only [headSpec]; omega) | omega | (dsimp only; omega))⟩) hS (fun σ_s_188 H locs hw_187 hH hS => ?_)
        obtain ⟨hO9, hF9, hM9, hw_187⟩ := hw_187
        replace hM := hM.tu hM9 (by decide)
        replace hF := hF.tu hF9 (by decide)
        have e_189 : gI σ_s_188 a 11 = a110 := (hM9.i (by decide)).trans J_175_11
        have e_190 : aF σ_s_188 (ad E a 2) = F2q171 := (hM9.a (by decide) (by decide)).trans J_175_12
        have e_191 : gI σ_s_188 a 22 = G22q173 := (hM9.i (by decide)).trans J_175_14
        replace hsr := hsr.mv hM9 (by decide) (by decide) (by decide) (by decide) (by decide)
        replace hO := hO9
        have hw_187 : (gI σ_J_175 a 13 ≤ gI σ_s_188 a 13 ∧ gI σ_s_188 a 13 ≤ gI σ_J_175 a 11 ∧ 0 ≤ gI σ_s_188 a 17 ∧ gI σ_s_188 a 17 ≤ gI σ_s_188 a 13) ∧ pgo (gI σ_s_188 a 19) (gI σ_s_188 a 14) (gI σ_J_175 a 13) (gI σ_s_188 a 13) ∧ bdo (gI σ_J_175 a 19) (gI σ_s_188 a 19) := hw_187
        exact th_vret hx hb hr hlocks hH hS ⟨hO, hF, hM, ⟨⟨by omega, pgo.of (by have h7 := J_175_8; have h8 := hw_187.2.1; have h6 := hw_187.2.2; unfold pgo at h7 h8; unfold bdo at h6; omega)⟩, by omega, (J_175_10).elim (fun h9 => Or.inl (by have h6 := hw_187.2.2; unfold bdo at h6; omega)) (fun h9 => Or.inr (by rw [show gI σ_s_188 a 22 = G22q173 by omega, show aF σ_s_188 (ad E a 2) = F2q171 from e_190]; exact h9))⟩⟩ dX11_readMany_94
      · replace c_185 := (I_eq (a := z_183) (b := 0) rz_183 (show rng 0 from ⟨by decide, by decide⟩)).mp c_185
        have hR9 := (J_175_10).resolve_left (by omega)
        have hK9 := hR9.k (by omega)
        refine lv_aload_n hx hb dX11_readMany_32 rfl (lv_at hl 0 rfl) ?_
        refine ok.getR hO h_a (by decide) k13_2 (by decide) (fun _ _ he hv kk => th_get (ci := 11) (C := RX11) (T := TX11) (N := 66) hx hb hts inX11 hown hK hH he rfl 2 (by decide) fl1 hv dX11_readMany_33 kk) ?_
        refine lv_iload_n hx hb dX11_readMany_36 rfl (lv_at hl 1 rfl) ?_
        refine m_iald hx hb hK hH hO h_a k13_2 isA1 J_175_12 rk (by omega) (by omega) dX11_readMany_37 (fun z_192 ez_192 rz_192 elx9 => ?_)
        have hK8 : mK F2q171 (k / 4) = z_192 := (by unfold mK; rw [show 4 * (k / 4) = k by omega]; exact ez_192)
        refine lv_iconst (v := I 3) hx hb dX11_readMany_38 (by decide) ?_
        refine lv_icmp_ne (tgt := 50) hx hb dX11_readMany_39 (by decide) (fun c_193 => ?_) (fun c_193 => ?_)
        · replace c_193 := mt (I_eq (a := z_192) (b := 3) rz_192 (show rng 3 from ⟨by decide, by decide⟩)).mpr c_193
          refine lv_iconst (v := I 0) hx hb dX11_readMany_50 (by decide) ?_
          refine lv_istore (lv' := [(5, .int (I 0)), (0, .ref a), (1, .int (I k)), (2, .int (I dp)), (3, .int (I en)), (4, .int (I v4q174))]) hx hb dX11_readMany_51 hl (by decide) rfl (fun ls hl => ?_)
          refine lv_aload_n hx hb dX11_readMany_53 rfl (lv_at hl 1 rfl) ?_
          refine ok.getIc hO h_a (by decide) k13_19 e_184 (fun _ _ he hv kk => th_get (ci := 11) (C := RX11) (T := TX11) (N := 66) hx hb hts inX11 hown hK hH he rfl 19 (by decide) fl0 hv dX11_readMany_54 kk) ?_
          refine lv_if_ne (tgt := 69) hx hb dX11_readMany_57 (by decide) (fun c_194 => ?_) (fun c_194 => ?_)
          · replace c_194 := mt (I_eq (a := z_183) (b := 0) rz_183 (show rng 0 from ⟨by decide, by decide⟩)).mpr c_194
            refine lv_aload_n hx hb dX11_readMany_69 rfl (lv_at hl 1 rfl) ?_
            refine lv_bipush (v := I 44) hx hb dX11_readMany_70 (by decide) ?_
            obtain ⟨_, hc_195⟩ := hO.cell h_a (by decide) (ci := 11) rfl
            refine th_calli (va_runV (As := [.int (I 44)]) (rest := []) ⟨hx, hb, hml, hown, hts⟩ (m_isMarked l G y b0 σ_J_175 E hO a h_a 44 (show rng 44 from (show rng 44 from ⟨by decide, by decide⟩)) Bf hsr (by omega)) (cwV 1 hts gX11_readMany_X11_isMarked rfl rfl rfl (by decide +kernel) ⟨(by first | (simp only [headSpec]; omega) | omega | (dsimp only; omega)), (by first | (simp only [headSpec]; omega) | omega | (dsimp only; omega))⟩) (th_PV hK hH rfl hc_195) rfl rfl hl.1 rfl (lv_room (Nat.le_of_ble_eq_true rfl)) dX11_readMany_72 ⟨(by first | (simp only [headSpec]; omega) | omega | (dsimp only; omega)), (by first | (simp only [headSpec]; omega) | omega | (dsimp only; omega))⟩) hS (fun z_198 σ_s_197 H locs rz_198 hw_196 hH hS => ?_)
            obtain ⟨e9, bhw_196, hw_196⟩ := hw_196
            replace e9 := e9.symm
            subst e9
            have hw_196 : z_198 = 0 ∨ (z_198 = 1 ∧ gI σ_J_175 a 19 = 0 ∧ gI σ_J_175 a 14 = 3 ∧ Bf (gI σ_J_175 a 17) = 44) := hw_196
            refine lv_istore (lv' := [(4, .int (I z_198)), (5, .int (I 0)), (0, .ref a), (1, .int (I k)), (2, .int (I dp)), (3, .int (I en))]) hx hb dX11_readMany_75 hl (by decide) rfl (fun ls hl => ?_)
            refine lv_iload hx hb dX11_readMany_77 (lv_at hl 0 rfl) ?_
            refine lv_if_eq (tgt := 86) hx hb dX11_readMany_79 (by decide) (fun c_199 => ?_) (fun c_199 => ?_)
            · replace c_199 := (I_eq (a := z_198) (b := 0) rz_198 (show rng 0 from ⟨by decide, by decide⟩)).mp c_199
              clear hw_196
              refine lv_goto (tgt := 20) hx hb dX11_readMany_86 (by decide) ?_
              replace hl : lv_has ls 6 [(4, .int (I z_198)), (0, .ref a), (1, .int (I k)), (2, .int (I dp)), (3, .int (I en))] := lv_sub hl [0, 2, 3, 4, 5] rfl
              exact ihJ_175 (z_198, G13q172, G22q173, F2q171) σ_J_175 _ _ _ (by first | (dsimp only; omega) | omega) ⟨hO, hF, hM, hsr, hH, hS, lv_sub hl [1, 2, 3, 4, 0] rfl, rz_198, rG13q172, rG22q173, by first | (dsimp only; omega) | omega, by first | (dsimp only; omega) | omega, by first | (dsimp only; omega) | omega, by first | (dsimp only; omega) | omega, by first | (dsimp only; omega) | omega, by first | (dsimp only; omega) | omega, by first | (dsimp only; omega) | omega, by first | (dsimp only; omega) | omega, (by unfold pgo; first | (dsimp only; omega) | omega), by first | (dsimp only; omega) | omega, (Or.inl (by omega)), J_175_11, J_175_12, J_175_13, J_175_14⟩
            · replace c_199 := mt (I_eq (a := z_198) (b := 0) rz_198 (show rng 0 from ⟨by decide, by decide⟩)).mpr c_199
              replace hw_196 := (hw_196.resolve_left c_199).2
              refine lv_aload_n hx hb dX11_readMany_82 rfl (lv_at hl 2 rfl) ?_
              obtain ⟨_, hc_200⟩ := hO.cell h_a (by decide) (ci := 11) rfl
              refine th_callv (va_runV (As := []) (rest := []) ⟨hx, hb, hml, hown, hts⟩ (m_pass l G y b0 σ_J_175 E hO a h_a Bf hsr (by omega)) (cwV 0 hts gX11_readMany_X11_pass rfl rfl rfl (by decide +kernel) ⟨(by first | (simp only [headSpec]; omega) | omega | (dsimp only; omega)), (by first | (simp only [headSpec]; omega) | omega | (dsimp only; omega))⟩) (th_PV hK hH rfl hc_200) rfl rfl hl.1 rfl (lv_room (Nat.le_of_ble_eq_true rfl)) dX11_readMany_83 ⟨(by first | (simp only [headSpec]; omega) | omega | (dsimp only; omega)), (by first | (simp only [headSpec]; omega) | omega | (dsimp only; omega))⟩) hS (fun σ_s_202 H locs hw_201 hH hS => ?_)
              obtain ⟨hO9, hF9, hM9, hw_201⟩ := hw_201
              replace hM := hM.tu hM9 (by decide)
              replace hF := hF.tu hF9 (by decide)
              have e_203 : gI σ_s_202 a 11 = a110 := (hM9.i (by decide)).trans J_175_11
              have e_204 : aF σ_s_202 (ad E a 2) = F2q171 := (hM9.a (by decide) (by decide)).trans J_175_12
              have e_205 : gI σ_s_202 a 22 = G22q173 := (hM9.i (by decide)).trans J_175_14
              have e_206 : gI σ_s_202 a 19 = z_183 := (hM9.i (by decide)).trans e_184
              replace hsr := hsr.mv hM9 (by decide) (by decide) (by decide) (by decide) (by decide)
              replace hO := hO9
              have hw_201 : (gI σ_J_175 a 13 ≤ gI σ_s_202 a 13 ∧ gI σ_s_202 a 13 ≤ gI σ_J_175 a 11 ∧ 0 ≤ gI σ_s_202 a 17 ∧ gI σ_s_202 a 17 ≤ gI σ_s_202 a 13) ∧ pgo (gI σ_s_202 a 19) (gI σ_s_202 a 14) (gI σ_J_175 a 13) (gI σ_s_202 a 13) ∧ gI σ_s_202 a 19 = gI σ_J_175 a 19 := hw_201
              refine lv_goto (tgt := 20) hx hb dX11_readMany_86 (by decide) ?_
              replace hl : lv_has ls 6 [(4, .int (I z_198)), (0, .ref a), (1, .int (I k)), (2, .int (I dp)), (3, .int (I en))] := lv_sub hl [0, 2, 3, 4, 5] rfl
              obtain ⟨z_207, e_208, rz_207, lz_207, uz_207⟩ := hO.gi h_a (by decide) k13_13
              exact ihJ_175 (z_198, z_207, G22q173, F2q171) σ_s_202 _ _ _ (by first | (dsimp only; omega) | omega) ⟨hO, hF, hM, hsr, hH, hS, lv_sub hl [1, 2, 3, 4, 0] rfl, rz_198, rz_207, rG22q173, by first | (dsimp only; omega) | omega, by first | (dsimp only; omega) | omega, by first | (dsimp only; omega) | omega, by first | (dsimp only; omega) | omega, by first | (dsimp only; omega) | omega, by first | (dsimp only; omega) | omega, by first | (dsimp only; omega) | omega, by first | (dsimp only; omega) | omega, (by unfold pgo; first | (dsimp only; omega) | omega), by first | (dsimp only; omega) | omega, (Or.inl (by omega)), e_203, e_204, e_208, e_205⟩
          · replace c_194 := (I_eq (a := z_183) (b := 0) rz_183 (show rng 0 from ⟨by decide, by decide⟩)).mp c_194
            refine lv_aload_n hx hb dX11_readMany_60 rfl (lv_at hl 1 rfl) ?_
            refine lv_iload hx hb dX11_readMany_61 (lv_at hl 0 rfl) ?_
            refine lv_iload_n hx hb dX11_readMany_63 rfl (lv_at hl 3 rfl) ?_
            refine lv_iconst (v := I 1) hx hb dX11_readMany_64 (by decide) ?_
            refine lv_iadd hx hb dX11_readMany_65 ?_
            refine nq_top (I_add _ _) ?_
            obtain ⟨_, hc_209⟩ := hO.cell h_a (by decide) (ci := 11) rfl
            refine th_callv (va_runV (As := [.int (I 0), .int (I (dp + 1))]) (rest := []) ⟨hx, hb, hml, hown, hts⟩ (ih l G y b0 σ_J_175 E hO a h_a 0 (show rng 0 from (show rng 0 from ⟨by decide, by decide⟩)) (dp + 1) (show rng (dp + 1) from ⟨by omega, by omega⟩) (by omega) (by omega) F2q171 J_175_12 Bf hsr (by omega) (by omega) (by omega)) (cwV 2 hts gX11_readMany_X11_readThing rfl rfl rfl (by decide +kernel) ⟨(by first | (simp only [headSpec]; omega) | omega | (dsimp only; omega)), (by first | (simp only [headSpec]; omega) | omega | (dsimp only; omega))⟩) (th_PV hK hH rfl hc_209) rfl rfl hl.1 rfl (lv_room (Nat.le_of_ble_eq_true rfl)) dX11_readMany_66 ⟨(by first | (simp only [headSpec]; omega) | omega | (dsimp only; omega)), (by first | (simp only [headSpec]; omega) | omega | (dsimp only; omega))⟩) hS (fun σ_s_211 H locs hw_210 hH hS => ?_)
            obtain ⟨hO9, hF9, hM9, hw_210⟩ := hw_210
            replace hM := hM.tu hM9 (by decide)
            replace hF := hF.tu hF9 (by decide)
            have e_212 : gI σ_s_211 a 11 = a110 := (hM9.i (by decide)).trans J_175_11
            replace hsr := hsr.mv hM9 (by decide) (by decide) (by decide) (by decide) (by decide)
            replace hO := hO9
            generalize ef_214 : aF σ_s_211 (ad E a 2) = g_213 at hw_210
            have hw_210 : ((gI σ_J_175 a 13 ≤ gI σ_s_211 a 13 ∧ gI σ_s_211 a 13 ≤ gI σ_J_175 a 11 ∧ 0 ≤ gI σ_s_211 a 17 ∧ gI σ_s_211 a 17 ≤ gI σ_s_211 a 13) ∧ pgo (gI σ_s_211 a 19) (gI σ_s_211 a 14) (gI σ_J_175 a 13) (gI σ_s_211 a 13)) ∧ gI σ_J_175 a 22 ≤ gI σ_s_211 a 22 ∧ (¬ gI σ_s_211 a 19 = 0 ∨ rdT F2q171 g_213 (gI σ_J_175 a 22) (gI σ_s_211 a 22) 0 (dp + 1)) := hw_210
            refine lv_aload_n hx hb dX11_readMany_69 rfl (lv_at hl 1 rfl) ?_
            refine lv_bipush (v := I 44) hx hb dX11_readMany_70 (by decide) ?_
            obtain ⟨_, hc_215⟩ := hO.cell h_a (by decide) (ci := 11) rfl
            refine th_calli (va_runV (As := [.int (I 44)]) (rest := []) ⟨hx, hb, hml, hown, hts⟩ (m_isMarked l G y b0 σ_s_211 E hO a h_a 44 (show rng 44 from (show rng 44 from ⟨by decide, by decide⟩)) Bf hsr (by omega)) (cwV 1 hts gX11_readMany_X11_isMarked rfl rfl rfl (by decide +kernel) ⟨(by first | (simp only [headSpec]; omega) | omega | (dsimp only; omega)), (by first | (simp only [headSpec]; omega) | omega | (dsimp only; omega))⟩) (th_PV hK hH rfl hc_215) rfl rfl hl.1 rfl (lv_room (Nat.le_of_ble_eq_true rfl)) dX11_readMany_72 ⟨(by first | (simp only [headSpec]; omega) | omega | (dsimp only; omega)), (by first | (simp only [headSpec]; omega) | omega | (dsimp only; omega))⟩) hS (fun z_218 σ_s_217 H locs rz_218 hw_216 hH hS => ?_)
            obtain ⟨e9, bhw_216, hw_216⟩ := hw_216
            replace e9 := e9.symm
            subst e9
            have hw_216 : z_218 = 0 ∨ (z_218 = 1 ∧ gI σ_s_211 a 19 = 0 ∧ gI σ_s_211 a 14 = 3 ∧ Bf (gI σ_s_211 a 17) = 44) := hw_216
            refine lv_istore (lv' := [(4, .int (I z_218)), (5, .int (I 0)), (0, .ref a), (1, .int (I k)), (2, .int (I dp)), (3, .int (I en))]) hx hb dX11_readMany_75 hl (by decide) rfl (fun ls hl => ?_)
            refine lv_iload hx hb dX11_readMany_77 (lv_at hl 0 rfl) ?_
            refine lv_if_eq (tgt := 86) hx hb dX11_readMany_79 (by decide) (fun c_219 => ?_) (fun c_219 => ?_)
            · replace c_219 := (I_eq (a := z_218) (b := 0) rz_218 (show rng 0 from ⟨by decide, by decide⟩)).mp c_219
              clear hw_216
              refine lv_goto (tgt := 20) hx hb dX11_readMany_86 (by decide) ?_
              replace hl : lv_has ls 6 [(4, .int (I z_218)), (0, .ref a), (1, .int (I k)), (2, .int (I dp)), (3, .int (I en))] := lv_sub hl [0, 2, 3, 4, 5] rfl
              obtain ⟨z_220, e_221, rz_220, lz_220, uz_220⟩ := hO.gi h_a (by decide) k13_13
              obtain ⟨z_222, e_223, rz_222, lz_222, uz_222⟩ := hO.gi h_a (by decide) k13_22
              exact ihJ_175 (z_218, z_220, z_222, g_213) σ_s_211 _ _ _ (by have h8 := hw_210.1.2; unfold pgo at h8; first | (dsimp only; omega) | omega) ⟨hO, hF, hM, hsr, hH, hS, lv_sub hl [1, 2, 3, 4, 0] rfl, rz_218, rz_220, rz_222, by first | (dsimp only; omega) | omega, by first | (dsimp only; omega) | omega, by first | (dsimp only; omega) | omega, by first | (dsimp only; omega) | omega, by first | (dsimp only; omega) | omega, by first | (dsimp only; omega) | omega, by first | (dsimp only; omega) | omega, by first | (dsimp only; omega) | omega, (by have h8 := hw_210.1.2; unfold pgo at h8; unfold pgo; first | (dsimp only; omega) | omega), by first | (dsimp only; omega) | omega, (hw_210.2.2.elim (fun h9 => Or.inl (by omega)) (fun h9 => Or.inr (by rw [show z_222 = gI σ_s_211 a 22 by omega]; exact hR9.step (by rwa [show gI σ_J_175 a 22 = G22q173 by omega] at h9) (by intro h9; first | exact absurd h9 (by omega) | (have h8 := hX.2.2.resolve_left (by omega); rwa [show gI σ a 22 = G22q173 by omega] at h8)) (by omega)))), e_212, ef_214, e_221, e_223⟩
            · replace c_219 := mt (I_eq (a := z_218) (b := 0) rz_218 (show rng 0 from ⟨by decide, by decide⟩)).mpr c_219
              replace hw_216 := (hw_216.resolve_left c_219).2
              refine lv_aload_n hx hb dX11_readMany_82 rfl (lv_at hl 2 rfl) ?_
              obtain ⟨_, hc_224⟩ := hO.cell h_a (by decide) (ci := 11) rfl
              refine th_callv (va_runV (As := []) (rest := []) ⟨hx, hb, hml, hown, hts⟩ (m_pass l G y b0 σ_s_211 E hO a h_a Bf hsr (by omega)) (cwV 0 hts gX11_readMany_X11_pass rfl rfl rfl (by decide +kernel) ⟨(by first | (simp only [headSpec]; omega) | omega | (dsimp only; omega)), (by first | (simp only [headSpec]; omega) | omega | (dsimp only; omega))⟩) (th_PV hK hH rfl hc_224) rfl rfl hl.1 rfl (lv_room (Nat.le_of_ble_eq_true rfl)) dX11_readMany_83 ⟨(by first | (simp only [headSpec]; omega) | omega | (dsimp only; omega)), (by first | (simp only [headSpec]; omega) | omega | (dsimp only; omega))⟩) hS (fun σ_s_226 H locs hw_225 hH hS => ?_)
              obtain ⟨hO9, hF9, hM9, hw_225⟩ := hw_225
              replace hM := hM.tu hM9 (by decide)
              replace hF := hF.tu hF9 (by decide)
              have e_227 : gI σ_s_226 a 11 = a110 := (hM9.i (by decide)).trans e_212
              have e_228 : aF σ_s_226 (ad E a 2) = g_213 := (hM9.a (by decide) (by decide)).trans ef_214
              replace hsr := hsr.mv hM9 (by decide) (by decide) (by decide) (by decide) (by decide)
              replace hO := hO9
              have hw_225 : (gI σ_s_211 a 13 ≤ gI σ_s_226 a 13 ∧ gI σ_s_226 a 13 ≤ gI σ_s_211 a 11 ∧ 0 ≤ gI σ_s_226 a 17 ∧ gI σ_s_226 a 17 ≤ gI σ_s_226 a 13) ∧ pgo (gI σ_s_226 a 19) (gI σ_s_226 a 14) (gI σ_s_211 a 13) (gI σ_s_226 a 13) ∧ gI σ_s_226 a 19 = gI σ_s_211 a 19 := hw_225
              refine lv_goto (tgt := 20) hx hb dX11_readMany_86 (by decide) ?_
              replace hl : lv_has ls 6 [(4, .int (I z_218)), (0, .ref a), (1, .int (I k)), (2, .int (I dp)), (3, .int (I en))] := lv_sub hl [0, 2, 3, 4, 5] rfl
              obtain ⟨z_229, e_230, rz_229, lz_229, uz_229⟩ := hO.gi h_a (by decide) k13_13
              obtain ⟨z_231, e_232, rz_231, lz_231, uz_231⟩ := hO.gi h_a (by decide) k13_22
              exact ihJ_175 (z_218, z_229, z_231, g_213) σ_s_226 _ _ _ (by have h8 := hw_210.1.2; unfold pgo at h8; first | (dsimp only; omega) | omega) ⟨hO, hF, hM, hsr, hH, hS, lv_sub hl [1, 2, 3, 4, 0] rfl, rz_218, rz_229, rz_231, by first | (dsimp only; omega) | omega, by first | (dsimp only; omega) | omega, by first | (dsimp only; omega) | omega, by first | (dsimp only; omega) | omega, by first | (dsimp only; omega) | omega, by first | (dsimp only; omega) | omega, by first | (dsimp only; omega) | omega, by first | (dsimp only; omega) | omega, (by have h8 := hw_210.1.2; unfold pgo at h8; unfold pgo; first | (dsimp only; omega) | omega), by first | (dsimp only; omega) | omega, (hw_210.2.2.elim (fun h9 => Or.inl (by omega)) (fun h9 => Or.inr (by rw [show z_231 = gI σ_s_211 a 22 by omega]; exact hR9.step (by rwa [show gI σ_J_175 a 22 = G22q173 by omega] at h9) (by intro h9; first | exact absurd h9 (by omega) | (have h8 := hX.2.2.resolve_left (by omega); rwa [show gI σ a 22 = G22q173 by omega] at h8)) (by omega)))), e_227, e_228, e_230, e_232⟩
        · replace c_193 := (I_eq (a := z_192) (b := 3) rz_192 (show rng 3 from ⟨by decide, by decide⟩)).mp c_193
          refine lv_aload_n hx hb dX11_readMany_42 rfl (lv_at hl 0 rfl) ?_
          refine lv_iload_n hx hb dX11_readMany_43 rfl (lv_at hl 1 rfl) ?_
          obtain ⟨_, hc_233⟩ := hO.cell h_a (by decide) (ci := 11) rfl
          refine th_calli (va_runV (As := [.int (I k)]) (rest := []) ⟨hx, hb, hml, hown, hts⟩ (m_readKey l G y b0 σ_J_175 E hO a h_a k (show rng k from rk) (by omega) (by omega) F2q171 J_175_12 Bf hsr (by omega) (by omega) (by omega) (hR9.1.1) (by omega)) (cwV 1 hts gX11_readMany_X11_readKey rfl rfl rfl (by decide +kernel) ⟨(by first | (simp only [headSpec]; omega) | omega | (dsimp only; omega)), (by first | (simp only [headSpec]; omega) | omega | (dsimp only; omega))⟩) (th_PV hK hH rfl hc_233) rfl rfl hl.1 rfl (lv_room (Nat.le_of_ble_eq_true rfl)) dX11_readMany_44 ⟨(by first | (simp only [headSpec]; omega) | omega | (dsimp only; omega)), (by first | (simp only [headSpec]; omega) | omega | (dsimp only; omega))⟩) hS (fun z_236 σ_s_235 H locs rz_236 hw_234 hH hS => ?_)
          obtain ⟨hO9, hF9, hM9, hw_234⟩ := hw_234
          replace hM := hM.tu hM9 (by decide)
          replace hF := hF.tu hF9 (by decide)
          have e_237 : gI σ_s_235 a 11 = a110 := (hM9.i (by decide)).trans J_175_11
          have e_238 : aF σ_s_235 (ad E a 2) = F2q171 := (hM9.a (by decide) (by decide)).trans J_175_12
          have e_239 : gI σ_s_235 a 22 = G22q173 := (hM9.i (by decide)).trans J_175_14
          replace hsr := hsr.mv hM9 (by decide) (by decide) (by decide) (by decide) (by decide)
          replace hO := hO9
          have hw_234 : ((gI σ_J_175 a 13 ≤ gI σ_s_235 a 13 ∧ gI σ_s_235 a 13 ≤ gI σ_J_175 a 11 ∧ 0 ≤ gI σ_s_235 a 17 ∧ gI σ_s_235 a 17 ≤ gI σ_s_235 a 13) ∧ pgo (gI σ_s_235 a 19) (gI σ_s_235 a 14) (gI σ_J_175 a 13) (gI σ_s_235 a 13)) ∧ bdo (gI σ_J_175 a 19) (gI σ_s_235 a 19) ∧ (¬ gI σ_s_235 a 19 = 0 ∨ nok F2q171 (k / 4 + 1) (gI σ_J_175 a 22) z_236) := hw_234
          refine lv_goto (tgt := 51) hx hb dX11_readMany_47 (by decide) ?_
          refine lv_istore (lv' := [(5, .int (I z_236)), (0, .ref a), (1, .int (I k)), (2, .int (I dp)), (3, .int (I en)), (4, .int (I v4q174))]) hx hb dX11_readMany_51 hl (by decide) rfl (fun ls hl => ?_)
          refine lv_aload_n hx hb dX11_readMany_53 rfl (lv_at hl 1 rfl) ?_
          refine ok.getI hO h_a (by decide) k13_19 (fun _ _ he hv kk => th_get (ci := 11) (C := RX11) (T := TX11) (N := 66) hx hb hts inX11 hown hK hH he rfl 19 (by decide) fl0 hv dX11_readMany_54 kk) (fun z_240 e_241 rz_240 lz_240 uz_240 => ?_)
          refine lv_if_ne (tgt := 69) hx hb dX11_readMany_57 (by decide) (fun c_242 => ?_) (fun c_242 => ?_)
          · replace c_242 := mt (I_eq (a := z_240) (b := 0) rz_240 (show rng 0 from ⟨by decide, by decide⟩)).mpr c_242
            refine lv_aload_n hx hb dX11_readMany_69 rfl (lv_at hl 1 rfl) ?_
            refine lv_bipush (v := I 44) hx hb dX11_readMany_70 (by decide) ?_
            obtain ⟨_, hc_243⟩ := hO.cell h_a (by decide) (ci := 11) rfl
            refine th_calli (va_runV (As := [.int (I 44)]) (rest := []) ⟨hx, hb, hml, hown, hts⟩ (m_isMarked l G y b0 σ_s_235 E hO a h_a 44 (show rng 44 from (show rng 44 from ⟨by decide, by decide⟩)) Bf hsr (by omega)) (cwV 1 hts gX11_readMany_X11_isMarked rfl rfl rfl (by decide +kernel) ⟨(by first | (simp only [headSpec]; omega) | omega | (dsimp only; omega)), (by first | (simp only [headSpec]; omega) | omega | (dsimp only; omega))⟩) (th_PV hK hH rfl hc_243) rfl rfl hl.1 rfl (lv_room (Nat.le_of_ble_eq_true rfl)) dX11_readMany_72 ⟨(by first | (simp only [headSpec]; omega) | omega | (dsimp only; omega)), (by first | (simp only [headSpec]; omega) | omega | (dsimp only; omega))⟩) hS (fun z_246 σ_s_245 H locs rz_246 hw_244 hH hS => ?_)
            obtain ⟨e9, bhw_244, hw_244⟩ := hw_244
            replace e9 := e9.symm
            subst e9
            have hw_244 : z_246 = 0 ∨ (z_246 = 1 ∧ gI σ_s_235 a 19 = 0 ∧ gI σ_s_235 a 14 = 3 ∧ Bf (gI σ_s_235 a 17) = 44) := hw_244
            refine lv_istore (lv' := [(4, .int (I z_246)), (5, .int (I z_236)), (0, .ref a), (1, .int (I k)), (2, .int (I dp)), (3, .int (I en))]) hx hb dX11_readMany_75 hl (by decide) rfl (fun ls hl => ?_)
            refine lv_iload hx hb dX11_readMany_77 (lv_at hl 0 rfl) ?_
            refine lv_if_eq (tgt := 86) hx hb dX11_readMany_79 (by decide) (fun c_247 => ?_) (fun c_247 => ?_)
            · replace c_247 := (I_eq (a := z_246) (b := 0) rz_246 (show rng 0 from ⟨by decide, by decide⟩)).mp c_247
              clear hw_244
              refine lv_goto (tgt := 20) hx hb dX11_readMany_86 (by decide) ?_
              replace hl : lv_has ls 6 [(4, .int (I z_246)), (0, .ref a), (1, .int (I k)), (2, .int (I dp)), (3, .int (I en))] := lv_sub hl [0, 2, 3, 4, 5] rfl
              obtain ⟨z_248, e_249, rz_248, lz_248, uz_248⟩ := hO.gi h_a (by decide) k13_13
              exact ihJ_175 (z_246, z_248, G22q173, F2q171) σ_s_235 _ _ _ (by first | (dsimp only; omega) | omega) ⟨hO, hF, hM, hsr, hH, hS, lv_sub hl [1, 2, 3, 4, 0] rfl, rz_246, rz_248, rG22q173, by first | (dsimp only; omega) | omega, by first | (dsimp only; omega) | omega, by first | (dsimp only; omega) | omega, by first | (dsimp only; omega) | omega, by first | (dsimp only; omega) | omega, by first | (dsimp only; omega) | omega, by first | (dsimp only; omega) | omega, by first | (dsimp only; omega) | omega, (by unfold pgo; first | (dsimp only; omega) | omega), by first | (dsimp only; omega) | omega, (Or.inl (by omega)), e_237, e_238, e_249, e_239⟩
            · replace c_247 := mt (I_eq (a := z_246) (b := 0) rz_246 (show rng 0 from ⟨by decide, by decide⟩)).mpr c_247
              replace hw_244 := (hw_244.resolve_left c_247).2
              refine lv_aload_n hx hb dX11_readMany_82 rfl (lv_at hl 2 rfl) ?_
              obtain ⟨_, hc_250⟩ := hO.cell h_a (by decide) (ci := 11) rfl
              refine th_callv (va_runV (As := []) (rest := []) ⟨hx, hb, hml, hown, hts⟩ (m_pass l G y b0 σ_s_235 E hO a h_a Bf hsr (by omega)) (cwV 0 hts gX11_readMany_X11_pass rfl rfl rfl (by decide +kernel) ⟨(by first | (simp only [headSpec]; omega) | omega | (dsimp only; omega)), (by first | (simp only [headSpec]; omega) | omega | (dsimp only; omega))⟩) (th_PV hK hH rfl hc_250) rfl rfl hl.1 rfl (lv_room (Nat.le_of_ble_eq_true rfl)) dX11_readMany_83 ⟨(by first | (simp only [headSpec]; omega) | omega | (dsimp only; omega)), (by first | (simp only [headSpec]; omega) | omega | (dsimp only; omega))⟩) hS (fun σ_s_252 H locs hw_251 hH hS => ?_)
              obtain ⟨hO9, hF9, hM9, hw_251⟩ := hw_251
              replace hM := hM.tu hM9 (by decide)
              replace hF := hF.tu hF9 (by decide)
              have e_253 : gI σ_s_252 a 11 = a110 := (hM9.i (by decide)).trans e_237
              have e_254 : aF σ_s_252 (ad E a 2) = F2q171 := (hM9.a (by decide) (by decide)).trans e_238
              have e_255 : gI σ_s_252 a 22 = G22q173 := (hM9.i (by decide)).trans e_239
              have e_256 : gI σ_s_252 a 19 = z_240 := (hM9.i (by decide)).trans e_241
              replace hsr := hsr.mv hM9 (by decide) (by decide) (by decide) (by decide) (by decide)
              replace hO := hO9
              have hw_251 : (gI σ_s_235 a 13 ≤ gI σ_s_252 a 13 ∧ gI σ_s_252 a 13 ≤ gI σ_s_235 a 11 ∧ 0 ≤ gI σ_s_252 a 17 ∧ gI σ_s_252 a 17 ≤ gI σ_s_252 a 13) ∧ pgo (gI σ_s_252 a 19) (gI σ_s_252 a 14) (gI σ_s_235 a 13) (gI σ_s_252 a 13) ∧ gI σ_s_252 a 19 = gI σ_s_235 a 19 := hw_251
              refine lv_goto (tgt := 20) hx hb dX11_readMany_86 (by decide) ?_
              replace hl : lv_has ls 6 [(4, .int (I z_246)), (0, .ref a), (1, .int (I k)), (2, .int (I dp)), (3, .int (I en))] := lv_sub hl [0, 2, 3, 4, 5] rfl
              obtain ⟨z_257, e_258, rz_257, lz_257, uz_257⟩ := hO.gi h_a (by decide) k13_13
              exact ihJ_175 (z_246, z_257, G22q173, F2q171) σ_s_252 _ _ _ (by first | (dsimp only; omega) | omega) ⟨hO, hF, hM, hsr, hH, hS, lv_sub hl [1, 2, 3, 4, 0] rfl, rz_246, rz_257, rG22q173, by first | (dsimp only; omega) | omega, by first | (dsimp only; omega) | omega, by first | (dsimp only; omega) | omega, by first | (dsimp only; omega) | omega, by first | (dsimp only; omega) | omega, by first | (dsimp only; omega) | omega, by first | (dsimp only; omega) | omega, by first | (dsimp only; omega) | omega, (by unfold pgo; first | (dsimp only; omega) | omega), by first | (dsimp only; omega) | omega, (Or.inl (by omega)), e_253, e_254, e_258, e_255⟩
          · replace c_242 := (I_eq (a := z_240) (b := 0) rz_240 (show rng 0 from ⟨by decide, by decide⟩)).mp c_242
            refine lv_aload_n hx hb dX11_readMany_60 rfl (lv_at hl 1 rfl) ?_
            refine lv_iload hx hb dX11_readMany_61 (lv_at hl 0 rfl) ?_
            refine lv_iload_n hx hb dX11_readMany_63 rfl (lv_at hl 3 rfl) ?_
            refine lv_iconst (v := I 1) hx hb dX11_readMany_64 (by decide) ?_
            refine lv_iadd hx hb dX11_readMany_65 ?_
            refine nq_top (I_add _ _) ?_
            obtain ⟨_, hc_259⟩ := hO.cell h_a (by decide) (ci := 11) rfl
            refine th_callv (va_runV (As := [.int (I z_236), .int (I (dp + 1))]) (rest := []) ⟨hx, hb, hml, hown, hts⟩ (ih l G y b0 σ_s_235 E hO a h_a z_236 (show rng z_236 from rz_236) (dp + 1) (show rng (dp + 1) from ⟨by omega, by omega⟩) (by omega) (by omega) F2q171 e_238 Bf hsr (by omega) (by omega) (by omega)) (cwV 2 hts gX11_readMany_X11_readThing rfl rfl rfl (by decide +kernel) ⟨(by first | (simp only [headSpec]; omega) | omega | (dsimp only; omega)), (by first | (simp only [headSpec]; omega) | omega | (dsimp only; omega))⟩) (th_PV hK hH rfl hc_259) rfl rfl hl.1 rfl (lv_room (Nat.le_of_ble_eq_true rfl)) dX11_readMany_66 ⟨(by first | (simp only [headSpec]; omega) | omega | (dsimp only; omega)), (by first | (simp only [headSpec]; omega) | omega | (dsimp only; omega))⟩) hS (fun σ_s_261 H locs hw_260 hH hS => ?_)
            obtain ⟨hO9, hF9, hM9, hw_260⟩ := hw_260
            replace hM := hM.tu hM9 (by decide)
            replace hF := hF.tu hF9 (by decide)
            have e_262 : gI σ_s_261 a 11 = a110 := (hM9.i (by decide)).trans e_237
            replace hsr := hsr.mv hM9 (by decide) (by decide) (by decide) (by decide) (by decide)
            replace hO := hO9
            generalize ef_264 : aF σ_s_261 (ad E a 2) = g_263 at hw_260
            have hw_260 : ((gI σ_s_235 a 13 ≤ gI σ_s_261 a 13 ∧ gI σ_s_261 a 13 ≤ gI σ_s_235 a 11 ∧ 0 ≤ gI σ_s_261 a 17 ∧ gI σ_s_261 a 17 ≤ gI σ_s_261 a 13) ∧ pgo (gI σ_s_261 a 19) (gI σ_s_261 a 14) (gI σ_s_235 a 13) (gI σ_s_261 a 13)) ∧ gI σ_s_235 a 22 ≤ gI σ_s_261 a 22 ∧ (¬ gI σ_s_261 a 19 = 0 ∨ rdT F2q171 g_263 (gI σ_s_235 a 22) (gI σ_s_261 a 22) z_236 (dp + 1)) := hw_260
            refine lv_aload_n hx hb dX11_readMany_69 rfl (lv_at hl 1 rfl) ?_
            refine lv_bipush (v := I 44) hx hb dX11_readMany_70 (by decide) ?_
            obtain ⟨_, hc_265⟩ := hO.cell h_a (by decide) (ci := 11) rfl
            refine th_calli (va_runV (As := [.int (I 44)]) (rest := []) ⟨hx, hb, hml, hown, hts⟩ (m_isMarked l G y b0 σ_s_261 E hO a h_a 44 (show rng 44 from (show rng 44 from ⟨by decide, by decide⟩)) Bf hsr (by omega)) (cwV 1 hts gX11_readMany_X11_isMarked rfl rfl rfl (by decide +kernel) ⟨(by first | (simp only [headSpec]; omega) | omega | (dsimp only; omega)), (by first | (simp only [headSpec]; omega) | omega | (dsimp only; omega))⟩) (th_PV hK hH rfl hc_265) rfl rfl hl.1 rfl (lv_room (Nat.le_of_ble_eq_true rfl)) dX11_readMany_72 ⟨(by first | (simp only [headSpec]; omega) | omega | (dsimp only; omega)), (by first | (simp only [headSpec]; omega) | omega | (dsimp only; omega))⟩) hS (fun z_268 σ_s_267 H locs rz_268 hw_266 hH hS => ?_)
            obtain ⟨e9, bhw_266, hw_266⟩ := hw_266
            replace e9 := e9.symm
            subst e9
            have hw_266 : z_268 = 0 ∨ (z_268 = 1 ∧ gI σ_s_261 a 19 = 0 ∧ gI σ_s_261 a 14 = 3 ∧ Bf (gI σ_s_261 a 17) = 44) := hw_266
            refine lv_istore (lv' := [(4, .int (I z_268)), (5, .int (I z_236)), (0, .ref a), (1, .int (I k)), (2, .int (I dp)), (3, .int (I en))]) hx hb dX11_readMany_75 hl (by decide) rfl (fun ls hl => ?_)
            refine lv_iload hx hb dX11_readMany_77 (lv_at hl 0 rfl) ?_
            refine lv_if_eq (tgt := 86) hx hb dX11_readMany_79 (by decide) (fun c_269 => ?_) (fun c_269 => ?_)
            · replace c_269 := (I_eq (a := z_268) (b := 0) rz_268 (show rng 0 from ⟨by decide, by decide⟩)).mp c_269
              clear hw_266
              refine lv_goto (tgt := 20) hx hb dX11_readMany_86 (by decide) ?_
              replace hl : lv_has ls 6 [(4, .int (I z_268)), (0, .ref a), (1, .int (I k)), (2, .int (I dp)), (3, .int (I en))] := lv_sub hl [0, 2, 3, 4, 5] rfl
              obtain ⟨z_270, e_271, rz_270, lz_270, uz_270⟩ := hO.gi h_a (by decide) k13_13
              obtain ⟨z_272, e_273, rz_272, lz_272, uz_272⟩ := hO.gi h_a (by decide) k13_22
              exact ihJ_175 (z_268, z_270, z_272, g_263) σ_s_261 _ _ _ (by have h8 := hw_260.1.2; unfold pgo at h8; first | (dsimp only; omega) | omega) ⟨hO, hF, hM, hsr, hH, hS, lv_sub hl [1, 2, 3, 4, 0] rfl, rz_268, rz_270, rz_272, by first | (dsimp only; omega) | omega, by first | (dsimp only; omega) | omega, by first | (dsimp only; omega) | omega, by first | (dsimp only; omega) | omega, by first | (dsimp only; omega) | omega, by first | (dsimp only; omega) | omega, by first | (dsimp only; omega) | omega, by first | (dsimp only; omega) | omega, (by have h8 := hw_260.1.2; unfold pgo at h8; unfold pgo; first | (dsimp only; omega) | omega), by first | (dsimp only; omega) | omega, (hw_260.2.2.elim (fun h9 => Or.inl (by omega)) (fun h9 => Or.inr (by rw [show z_272 = gI σ_s_261 a 22 by omega]; exact hR9.step (by rwa [show gI σ_s_235 a 22 = G22q173 by omega] at h9) (by intro h9; first | exact absurd h9 (by omega) | (have h8 := hw_234.2.2.resolve_left (by omega); rwa [show gI σ_J_175 a 22 = G22q173 by omega] at h8)) (by omega)))), e_262, ef_264, e_271, e_273⟩
            · replace c_269 := mt (I_eq (a := z_268) (b := 0) rz_268 (show rng 0 from ⟨by decide, by decide⟩)).mpr c_269
              replace hw_266 := (hw_266.resolve_left c_269).2
              refine lv_aload_n hx hb dX11_readMany_82 rfl (lv_at hl 2 rfl) ?_
              obtain ⟨_, hc_274⟩ := hO.cell h_a (by decide) (ci := 11) rfl
              refine th_callv (va_runV (As := []) (rest := []) ⟨hx, hb, hml, hown, hts⟩ (m_pass l G y b0 σ_s_261 E hO a h_a Bf hsr (by omega)) (cwV 0 hts gX11_readMany_X11_pass rfl rfl rfl (by decide +kernel) ⟨(by first | (simp only [headSpec]; omega) | omega | (dsimp only; omega)), (by first | (simp only [headSpec]; omega) | omega | (dsimp only; omega))⟩) (th_PV hK hH rfl hc_274) rfl rfl hl.1 rfl (lv_room (Nat.le_of_ble_eq_true rfl)) dX11_readMany_83 ⟨(by first | (simp only [headSpec]; omega) | omega | (dsimp only; omega)), (by first | (simp only [headSpec]; omega) | omega | (dsimp only; omega))⟩) hS (fun σ_s_276 H locs hw_275 hH hS => ?_)
              obtain ⟨hO9, hF9, hM9, hw_275⟩ := hw_275
              replace hM := hM.tu hM9 (by decide)
              replace hF := hF.tu hF9 (by decide)
              have e_277 : gI σ_s_276 a 11 = a110 := (hM9.i (by decide)).trans e_262
              have e_278 : aF σ_s_276 (ad E a 2) = g_263 := (hM9.a (by decide) (by decide)).trans ef_264
              replace hsr := hsr.mv hM9 (by decide) (by decide) (by decide) (by decide) (by decide)
              replace hO := hO9
              have hw_275 : (gI σ_s_261 a 13 ≤ gI σ_s_276 a 13 ∧ gI σ_s_276 a 13 ≤ gI σ_s_261 a 11 ∧ 0 ≤ gI σ_s_276 a 17 ∧ gI σ_s_276 a 17 ≤ gI σ_s_276 a 13) ∧ pgo (gI σ_s_276 a 19) (gI σ_s_276 a 14) (gI σ_s_261 a 13) (gI σ_s_276 a 13) ∧ gI σ_s_276 a 19 = gI σ_s_261 a 19 := hw_275
              refine lv_goto (tgt := 20) hx hb dX11_readMany_86 (by decide) ?_
              replace hl : lv_has ls 6 [(4, .int (I z_268)), (0, .ref a), (1, .int (I k)), (2, .int (I dp)), (3, .int (I en))] := lv_sub hl [0, 2, 3, 4, 5] rfl
              obtain ⟨z_279, e_280, rz_279, lz_279, uz_279⟩ := hO.gi h_a (by decide) k13_13
              obtain ⟨z_281, e_282, rz_281, lz_281, uz_281⟩ := hO.gi h_a (by decide) k13_22
              exact ihJ_175 (z_268, z_279, z_281, g_263) σ_s_276 _ _ _ (by have h8 := hw_260.1.2; unfold pgo at h8; first | (dsimp only; omega) | omega) ⟨hO, hF, hM, hsr, hH, hS, lv_sub hl [1, 2, 3, 4, 0] rfl, rz_268, rz_279, rz_281, by first | (dsimp only; omega) | omega, by first | (dsimp only; omega) | omega, by first | (dsimp only; omega) | omega, by first | (dsimp only; omega) | omega, by first | (dsimp only; omega) | omega, by first | (dsimp only; omega) | omega, by first | (dsimp only; omega) | omega, by first | (dsimp only; omega) | omega, (by have h8 := hw_260.1.2; unfold pgo at h8; unfold pgo; first | (dsimp only; omega) | omega), by first | (dsimp only; omega) | omega, (hw_260.2.2.elim (fun h9 => Or.inl (by omega)) (fun h9 => Or.inr (by rw [show z_281 = gI σ_s_261 a 22 by omega]; exact hR9.step (by rwa [show gI σ_s_235 a 22 = G22q173 by omega] at h9) (by intro h9; first | exact absurd h9 (by omega) | (have h8 := hw_234.2.2.resolve_left (by omega); rwa [show gI σ_J_175 a 22 = G22q173 by omega] at h8)) (by omega)))), e_277, e_278, e_280, e_282⟩
  · replace c_12 := mt (I_eq (a := z_11) (b := 0) rz_11 (show rng 0 from ⟨by decide, by decide⟩)).mpr c_12
    replace hw_9 := (hw_9.resolve_left c_12).2
    refine lv_aload_n hx hb dX11_readMany_12 rfl (lv_at hl 0 rfl) ?_
    obtain ⟨_, hc_283⟩ := hO.cell h_a (by decide) (ci := 11) rfl
    refine th_callv (va_runV (As := []) (rest := []) ⟨hx, hb, hml, hown, hts⟩ (m_pass l G y b0 σ_s_3 E hO a h_a Bf hsr (by omega)) (cwV 0 hts gX11_readMany_X11_pass rfl rfl rfl (by decide +kernel) ⟨(by first | (simp only [headSpec]; omega) | omega | (dsimp only; omega)), (by first | (simp only [headSpec]; omega) | omega | (dsimp only; omega))⟩) (th_PV hK hH rfl hc_283) rfl rfl hl.1 rfl (lv_room (Nat.le_of_ble_eq_true rfl)) dX11_readMany_13 ⟨(by first | (simp only [headSpec]; omega) | omega | (dsimp only; omega)), (by first | (simp only [headSpec]; omega) | omega | (dsimp only; omega))⟩) hS (fun σ_s_285 H locs hw_284 hH hS => ?_)
    obtain ⟨hO9, hF9, hM9, hw_284⟩ := hw_284
    replace hM := hM.tu hM9 (by decide)
    replace hF := hF.tu hF9 (by decide)
    have e_286 : aF σ_s_285 (ad E a 2) = f2 := (hM9.a (by decide) (by decide)).trans e_4
    have e_287 : gI σ_s_285 a 11 = a110 := (hM9.i (by decide)).trans e_5
    have e_288 : gI σ_s_285 a 19 = a190 := (hM9.i (by decide)).trans e_6
    have e_289 : gI σ_s_285 a 22 = a220 := (hM9.i (by decide)).trans e_7
    replace hsr := hsr.mv hM9 (by decide) (by decide) (by decide) (by decide) (by decide)
    replace hO := hO9
    have hw_284 : (gI σ_s_3 a 13 ≤ gI σ_s_285 a 13 ∧ gI σ_s_285 a 13 ≤ gI σ_s_3 a 11 ∧ 0 ≤ gI σ_s_285 a 17 ∧ gI σ_s_285 a 17 ≤ gI σ_s_285 a 13) ∧ pgo (gI σ_s_285 a 19) (gI σ_s_285 a 14) (gI σ_s_3 a 13) (gI σ_s_285 a 13) ∧ gI σ_s_285 a 19 = gI σ_s_3 a 19 := hw_284
    exact th_vret hx hb hr hlocks hH hS ⟨hO, hF, hM, ⟨⟨by omega, pgo.of (by have h7 := hw_2.2.1; have h8 := hw_284.2.1; unfold pgo at h7 h8; omega)⟩, by omega, Or.inr (by rw [show gI σ_s_285 a 22 = k / 4 + 1 by omega]; exact rdF.zero (by rw [show aF σ_s_285 (ad E a 2) = f2 from e_286]; exact same.rf))⟩⟩ dX11_readMany_16
