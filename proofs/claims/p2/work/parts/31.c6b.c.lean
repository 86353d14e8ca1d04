set_option maxHeartbeats 4000000 in
set_option maxRecDepth 100000 in
theorem m_emitWithin (n : Nat) (ih : ∀ (l : Launch) (G : va_G) (y : Nat → ClassId) (b0 : Nat) (σ : th_M) (E : th_E) (hO : ok y E σ) (a : Nat) (h_a : kd E a = 13) (i : Int) (ri : rng i) (l_i : 0 ≤ i) (u_i : i ≤ 59) (dp : Int) (rdp : rng dp) (l_dp : 0 ≤ dp) (u_dp : dp ≤ 7) (f1 : Nat → Int32) (ef1 : aF σ (ad E a 1) = f1) (f2 : Nat → Int32) (ef2 : aF σ (ad E a 2) = f2) (f3 : Nat → Int32) (ef3 : aF σ (ad E a 3) = f3) (f35 : Nat → Int32) (ef35 : aF σ (ad E a 35) = f35) (hy0 : wf f1 0 (mS f1 0)) (hy1 : 1 ≤ mS f1 0 ∧ mS f1 0 ≤ 60) (hy2 : tr f1) (hy3 : tdc (gI σ a 32) f2) (hy4 : i < mS f1 0) (hy5 : dp ≤ cn f1 i i.toNat) (hy6 : gI σ a 5 + 61 * mS f1 i ≤ 4000) (hn : (8 - dp).toNat < n), Met l yX11_emit wsX11_emit ({ frames := 4*n+12, cells := 0, slots := 0, locals := (120*n+600) }) (th_P G y b0 σ [.ref a, .int (I i), .int (I dp)]) (th_Qv G b0 (fun σ1 => ok y E σ1 ∧ fr [13] E σ σ1 ∧ fm [3, 5, 35] E σ σ1 a ∧ (blk f3 (aF σ1 (ad E a 3)) (gI σ a 5) (gI σ1 a 5) (mY f1 i) ∧ gI σ1 a 5 - gI σ a 5 ≤ 61 * mS f1 i ∧ ofr f35 (aF σ1 (ad E a 35)) (60 * dp)))) 0 0 (th_A b0)) (l : Launch) (G : va_G) (y : Nat → ClassId) (b0 : Nat) (σ : th_M) (E : th_E) (hO : ok y E σ) (a : Nat) (h_a : kd E a = 13) (i : Int) (ri : rng i) (l_i : 0 ≤ i) (u_i : i ≤ 59) (is : Int) (ris : rng is) (l_is : 0 ≤ is) (u_is : is ≤ 1) (dp : Int) (rdp : rng dp) (l_dp : 0 ≤ dp) (u_dp : dp ≤ 7) (f1 : Nat → Int32) (ef1 : aF σ (ad E a 1) = f1) (f2 : Nat → Int32) (ef2 : aF σ (ad E a 2) = f2) (f3 : Nat → Int32) (ef3 : aF σ (ad E a 3) = f3) (f35 : Nat → Int32) (ef35 : aF σ (ad E a 35) = f35) (hy0 : wf f1 0 (mS f1 0)) (hy1 : 1 ≤ mS f1 0 ∧ mS f1 0 ≤ 60) (hy2 : tr f1) (hy3 : tdc (gI σ a 32) f2) (hy4 : i < mS f1 0) (hy5 : dp ≤ cn f1 i i.toNat) (hy6 : gI σ a 5 + 61 * mS f1 i ≤ 4001) (hy7 : 1 ≤ gI σ a 5) (hy8 : (8 - dp).toNat < n + 1) : Met l yX11_emitWithin wsX11_emitWithin ({ frames := 4*n+14, cells := 0, slots := 0, locals := (120*n+660) }) (th_P G y b0 σ [.ref a, .int (I i), .int (I is), .int (I dp)]) (th_Qv G b0 (fun σ1 => ok y E σ1 ∧ fr [13] E σ σ1 ∧ fm [3, 5, 35] E σ σ1 a ∧ (emf f1 (aF σ1 (ad E a 3)) i (gI σ a 5 - 1) (gI σ1 a 5) ∧ same f3 (aF σ1 (ad E a 3)) 0 (gI σ a 5) 0 ∧ ofr f35 (aF σ1 (ad E a 35)) (60 * dp)))) 0 0 (th_A b0) := by
  refine Met.ofW (cc := cX11_emitWithin) (maxL := 9) (ret := none) (by decide) rfl ?_
  intro p e s m args below meth c s₁ B hml hv
  obtain ⟨rfl, hH, hK⟩ := hv
  have hx := B.exec
  have hb := B.bytes
  have hr := B.returns
  have hts := atoms_spec (ws := wsX11_emitWithin) B.pre
  have hown : s.vm.findClass RX11 = some m.cls := findClass_of_methodNamed B.named
  have hlocks := B.notSynchronized
  have h00 : b0 ≤ s.heap.size := hH.1
  have hS : va_S (th_A b0) s.heap s.heap [] := va_S.rf
  have hF : fr [13] E σ σ := fr.rf
  have hM : fm [3, 5, 35] E σ σ a := fm.rf
  have hk0 := hy0 i (by omega) (by omega)
  have inX11 : ∀ w ∈ wsX110, w ∈ wsX11_emitWithin := by decide +kernel
  have fl0 := hts (.fieldLink RX11 9 "NestQueryModel" "tree" "[I") (by decide +kernel)
  have fl1 := hts (.fieldLink RX11 385 "NestQueryModel" "changeKey" "I") (by decide +kernel)
  have fl2 := hts (.fieldLink RX11 13 "NestQueryModel" "data" "[I") (by decide +kernel)
  have fl3 := hts (.fieldLink RX11 369 "NestQueryModel" "change" "I") (by decide +kernel)
  have fl4 := hts (.fieldLink RX11 45 "NestQueryModel" "order" "[I") (by decide +kernel)
  have fl5 := hts (.fieldLink RX11 35 "NestQueryModel" "set" "[Z") (by decide +kernel)
  have hl := lv_entry ([.ref a, .int (I i), .int (I is), .int (I dp)]) (n := 9) (Nat.le_of_ble_eq_true rfl)
  rw [lg_entry_eq]
  generalize (lg_sl ([.ref a, .int (I i), .int (I is), .int (I dp)]) ++ List.replicate (9 - (lg_sl ([.ref a, .int (I i), .int (I is), .int (I dp)])).length) Slot.unset).toArray = ls at hl ⊢
  have hl : lv_has ls 9 [(0, .ref a), (1, .int (I i)), (2, .int (I is)), (3, .int (I dp))] := hl
  obtain ⟨a50, ea50, ra50, la50, ua50⟩ := hO.gi h_a (by decide) k13_5
  obtain ⟨a320, ea320, ra320, la320, ua320⟩ := hO.gi h_a (by decide) k13_32
  obtain ⟨a330, ea330, ra330, la330, ua330⟩ := hO.gi h_a (by decide) k13_33
  refine lv_aload_n hx hb dX11_emitWithin_0 rfl (lv_at hl 0 rfl) ?_
  refine ok.getR hO h_a (by decide) k13_1 (by decide) (fun _ _ he hv kk => th_get (ci := 11) (C := RX11) (T := TX11) (N := 66) hx hb hts inX11 hown hK hH he rfl 1 (by decide) fl0 hv dX11_emitWithin_1 kk) ?_
  refine lv_iload_n hx hb dX11_emitWithin_4 rfl (lv_at hl 1 rfl) ?_
  refine th_calli (va_runS (As := [.ref (ad E a 1), .int (I i)]) (rest := []) ⟨hx, hb, hml, hown, hts⟩ (w_many l G y b0 σ E hO (ad E a 1) 240 f1 (hO.roww h_a k13_1 isA1 ef1 rfl) i (show rng i from ri) (by omega) (by omega) (by first | exact hy0 | exact (hy0).sub (by omega) (by omega)) (by omega) (by omega) (by omega)) (va_cwS 2 hts gX11_emitWithin_X11_many rfl rfl rfl (by decide +kernel) ⟨(by first | (simp only [headSpec]; omega) | omega | (dsimp only; omega)), (by first | (simp only [headSpec]; omega) | omega | (dsimp only; omega))⟩) (th_PS hK hH) rfl rfl hl.1 rfl (lv_room (Nat.le_of_ble_eq_true rfl)) dX11_emitWithin_5 ⟨(by first | (simp only [headSpec]; omega) | omega | (dsimp only; omega)), (by first | (simp only [headSpec]; omega) | omega | (dsimp only; omega))⟩) hS (fun z_3 σ_s_2 H locs rz_3 hw_1 hH hS => ?_)
  obtain ⟨e9, hw_1⟩ := hw_1
  replace e9 := e9.symm
  subst e9
  have hw_1 : chn f1 (i + 1) z_3 (i + mS f1 i) ∧ 0 ≤ z_3 ∧ z_3 < mS f1 i := hw_1
  refine lv_istore (lv' := [(4, .int (I z_3)), (0, .ref a), (1, .int (I i)), (2, .int (I is)), (3, .int (I dp))]) hx hb dX11_emitWithin_8 hl (by decide) rfl (fun ls hl => ?_)
  refine lv_bipush (v := I 60) hx hb dX11_emitWithin_10 (by decide) ?_
  refine lv_iload_n hx hb dX11_emitWithin_12 rfl (lv_at hl 4 rfl) ?_
  refine lv_imul hx hb dX11_emitWithin_13 ?_
  refine nq_top (I_mul _ _) ?_
  refine lv_istore (lv' := [(5, .int (I (60 * dp))), (4, .int (I z_3)), (0, .ref a), (1, .int (I i)), (2, .int (I is)), (3, .int (I dp))]) hx hb dX11_emitWithin_14 hl (by decide) rfl (fun ls hl => ?_)
  refine lv_iconst (v := I 0) hx hb dX11_emitWithin_16 (by decide) ?_
  refine lv_istore (lv' := [(6, .int (I 0)), (5, .int (I (60 * dp))), (4, .int (I z_3)), (0, .ref a), (1, .int (I i)), (2, .int (I is)), (3, .int (I dp))]) hx hb dX11_emitWithin_17 hl (by decide) rfl (fun ls hl => ?_)
  refine th_loop (α := Int × (Nat → Int32)) (pc := 19) (fun x9 => (z_3 - x9.1).toNat) (fun x9 σ9 H9 l9 ls9 => ok y E σ9 ∧ fr [13] E σ σ9 ∧ fm [3, 5, 35] E σ σ9 a ∧ th_H G b0 σ9 H9 ∧ va_S (th_A b0) s.heap H9 l9 ∧ lv_has ls9 9 [(0, .ref a), (1, .int (I i)), (2, .int (I is)), (3, .int (I dp)), (4, .int (I z_3)), (5, .int (I (60 * dp))), (6, .int (I x9.1))] ∧ rng x9.1 ∧ (0 ≤ x9.1) ∧ (x9.1 ≤ z_3) ∧ (ofl (is = 1 ∧ gI σ a 32 = 4) f1 x9.2 (60 * dp) z_3 i x9.1) ∧ (ofr f35 x9.2 (60 * dp)) ∧ (gI σ9 a 5 = a50) ∧ (gI σ9 a 32 = a320) ∧ (gI σ9 a 33 = a330) ∧ (aF σ9 (ad E a 1) = f1) ∧ (aF σ9 (ad E a 2) = f2) ∧ (aF σ9 (ad E a 3) = f3) ∧ (aF σ9 (ad E a 35) = x9.2)) ?_ (0, f35) σ _ _ _ ⟨hO, hF, hM, hH, hS, lv_sub hl [3, 4, 5, 6, 2, 1, 0] rfl, (show rng 0 from ⟨by decide, by decide⟩), by first | (dsimp only; omega) | omega, by first | (dsimp only; omega) | omega, ofl.zero, ofr.rf, ea50, ea320, ea330, ef1, ef2, ef3, ef35⟩
  intro x9 σ_J_94 H locs ls hI9 ihJ_94
  obtain ⟨v6q93, F35q92⟩ := x9
  obtain ⟨hO, hF, hM, hH, hS, hl, rv6q93, J_94_0, J_94_1, J_94_2, J_94_3, J_94_4, J_94_5, J_94_6, J_94_7, J_94_8, J_94_9, J_94_10⟩ := hI9
  have hl : lv_has ls 9 [(0, .ref a), (1, .int (I i)), (2, .int (I is)), (3, .int (I dp)), (4, .int (I z_3)), (5, .int (I (60 * dp))), (6, .int (I v6q93))] := hl
  have rv6q93 : rng v6q93 := rv6q93
  have J_94_0 : 0 ≤ v6q93 := J_94_0
  have J_94_1 : v6q93 ≤ z_3 := J_94_1
  have J_94_2 : ofl (is = 1 ∧ gI σ a 32 = 4) f1 F35q92 (60 * dp) z_3 i v6q93 := J_94_2
  have J_94_3 : ofr f35 F35q92 (60 * dp) := J_94_3
  have J_94_4 : gI σ_J_94 a 5 = a50 := J_94_4
  have J_94_5 : gI σ_J_94 a 32 = a320 := J_94_5
  have J_94_6 : gI σ_J_94 a 33 = a330 := J_94_6
  have J_94_7 : aF σ_J_94 (ad E a 1) = f1 := J_94_7
  have J_94_8 : aF σ_J_94 (ad E a 2) = f2 := J_94_8
  have J_94_9 : aF σ_J_94 (ad E a 3) = f3 := J_94_9
  have J_94_10 : aF σ_J_94 (ad E a 35) = F35q92 := J_94_10
  refine lv_iload hx hb dX11_emitWithin_19 (lv_at hl 6 rfl) ?_
  refine lv_iload hx hb dX11_emitWithin_21 (lv_at hl 4 rfl) ?_
  refine lv_icmp_ge (tgt := 74) hx hb dX11_emitWithin_23 (by decide) (fun c_95 => ?_) (fun c_95 => ?_)
  · replace c_95 := (I_le (a := z_3) (b := v6q93) rz_3 rv6q93).mp c_95
    have hpm_96 : prm f1 F35q92 (60 * dp) (z_3).toNat i := (J_94_2.to (by omega)).prm hw_1.1 (by omega)
    refine lv_iload_n hx hb dX11_emitWithin_74 rfl (lv_at hl 2 rfl) ?_
    obtain ⟨f_114, ef_115⟩ : ∃ f9, aF σ_J_94 (ad E a 35) = f9 := ⟨_, rfl⟩
    refine th_join (α := (Nat → Int32)) (J := 106) (stk := fun x9 => []) (fun x9 σ9 H9 l9 ls9 => ok y E σ9 ∧ fr [13] E σ σ9 ∧ fm [3, 5, 35] E σ σ9 a ∧ th_H G b0 σ9 H9 ∧ va_S (th_A b0) s.heap H9 l9 ∧ lv_has ls9 9 [(0, .ref a), (1, .int (I i)), (2, .int (I is)), (3, .int (I dp)), (4, .int (I z_3)), (5, .int (I (60 * dp)))] ∧ (prm f1 x9 (60 * dp) (z_3).toNat i) ∧ (ofr f35 x9 (60 * dp)) ∧ (gI σ9 a 5 = a50) ∧ (gI σ9 a 32 = a320) ∧ (gI σ9 a 33 = a330) ∧ (aF σ9 (ad E a 1) = f1) ∧ (aF σ9 (ad E a 2) = f2) ∧ (aF σ9 (ad E a 3) = f3) ∧ (aF σ9 (ad E a 35) = x9)) ?_ (fun jK_118 => ?_)
    · intro x9 σ_K_118 H locs ls hI9
      obtain ⟨F35q116, ex9⟩ : ∃ z, z = x9 := ⟨_, rfl⟩
      subst ex9
      obtain ⟨hO, hF, hM, hH, hS, hl, K_118_0, K_118_1, K_118_2, K_118_3, K_118_4, K_118_5, K_118_6, K_118_7, K_118_8⟩ := hI9
      have hl : lv_has ls 9 [(0, .ref a), (1, .int (I i)), (2, .int (I is)), (3, .int (I dp)), (4, .int (I z_3)), (5, .int (I (60 * dp)))] := hl
      have K_118_0 : prm f1 F35q116 (60 * dp) (z_3).toNat i := K_118_0
      have K_118_1 : ofr f35 F35q116 (60 * dp) := K_118_1
      have K_118_2 : gI σ_K_118 a 5 = a50 := K_118_2
      have K_118_3 : gI σ_K_118 a 32 = a320 := K_118_3
      have K_118_4 : gI σ_K_118 a 33 = a330 := K_118_4
      have K_118_5 : aF σ_K_118 (ad E a 1) = f1 := K_118_5
      have K_118_6 : aF σ_K_118 (ad E a 2) = f2 := K_118_6
      have K_118_7 : aF σ_K_118 (ad E a 3) = f3 := K_118_7
      have K_118_8 : aF σ_K_118 (ad E a 35) = F35q116 := K_118_8
      refine lv_iload_n hx hb dX11_emitWithin_106 rfl (lv_at hl 2 rfl) ?_
      refine th_join (α := Int) (J := 135) (stk := fun x9 => [.int (I x9)]) (fun x9 σ9 H9 l9 ls9 => σ9 = σ_K_118 ∧ th_H G b0 σ9 H9 ∧ va_S (th_A b0) s.heap H9 l9 ∧ lv_has ls9 9 [(0, .ref a), (1, .int (I i)), (2, .int (I is)), (3, .int (I dp)), (4, .int (I z_3)), (5, .int (I (60 * dp)))] ∧ rng x9 ∧ (x9 = 0 ∨ (gI σ a 32 = 2 ∧ mK f1 i = 3)) ∧ (x9 = 0 ∨ x9 = 1)) ?_ (fun jK_126 => ?_)
      · intro x9 σ_K_126 H locs ls hI9
        obtain ⟨w0q125, ex9⟩ : ∃ z, z = x9 := ⟨_, rfl⟩
        subst ex9
        obtain ⟨eK_126, hH, hS, hl, rw0q125, K_126_0, K_126_1⟩ := hI9
        replace eK_126 := eK_126.symm
        subst eK_126
        have hl : lv_has ls 9 [(0, .ref a), (1, .int (I i)), (2, .int (I is)), (3, .int (I dp)), (4, .int (I z_3)), (5, .int (I (60 * dp)))] := hl
        have rw0q125 : rng w0q125 := rw0q125
        have K_126_0 : w0q125 = 0 ∨ (gI σ a 32 = 2 ∧ mK f1 i = 3) := K_126_0
        have K_126_1 : w0q125 = 0 ∨ w0q125 = 1 := K_126_1
        refine lv_istore (lv' := [(6, .int (I w0q125)), (0, .ref a), (1, .int (I i)), (2, .int (I is)), (3, .int (I dp)), (4, .int (I z_3)), (5, .int (I (60 * dp)))]) hx hb dX11_emitWithin_135 hl (by decide) rfl (fun ls hl => ?_)
        refine lv_iconst (v := I 0) hx hb dX11_emitWithin_137 (by decide) ?_
        refine lv_istore (lv' := [(7, .int (I 0)), (6, .int (I w0q125)), (0, .ref a), (1, .int (I i)), (2, .int (I is)), (3, .int (I dp)), (4, .int (I z_3)), (5, .int (I (60 * dp)))]) hx hb dX11_emitWithin_138 hl (by decide) rfl (fun ls hl => ?_)
        refine th_loop (α := Int × Int × (Nat → Int32) × (Nat → Int32)) (pc := 140) (fun x9 => (z_3 - x9.1).toNat) (fun x9 σ9 H9 l9 ls9 => ok y E σ9 ∧ fr [13] E σ σ9 ∧ fm [3, 5, 35] E σ σ9 a ∧ th_H G b0 σ9 H9 ∧ va_S (th_A b0) s.heap H9 l9 ∧ lv_has ls9 9 [(0, .ref a), (1, .int (I i)), (2, .int (I is)), (3, .int (I dp)), (4, .int (I z_3)), (5, .int (I (60 * dp))), (6, .int (I w0q125)), (7, .int (I x9.1))] ∧ rng x9.1 ∧ rng x9.2.1 ∧ (0 ≤ x9.1) ∧ (x9.1 ≤ z_3) ∧ (emv f1 x9.2.2.1 (lis x9.2.2.2 (60 * dp) (x9.1).toNat) (gI σ a 5 - 1) x9.2.1) ∧ (same f3 x9.2.2.1 0 (gI σ a 5) 0) ∧ (prm f1 x9.2.2.2 (60 * dp) (z_3).toNat i) ∧ (ofr f35 x9.2.2.2 (60 * dp)) ∧ (gI σ a 5 ≤ x9.2.1) ∧ (0 ≤ x9.2.1) ∧ (x9.2.1 ≤ 4000) ∧ (gI σ9 a 32 = a320) ∧ (gI σ9 a 33 = a330) ∧ (aF σ9 (ad E a 1) = f1) ∧ (aF σ9 (ad E a 2) = f2) ∧ (aF σ9 (ad E a 3) = x9.2.2.1) ∧ (aF σ9 (ad E a 35) = x9.2.2.2) ∧ (gI σ9 a 5 = x9.2.1)) ?_ (0, a50, f3, F35q116) σ_K_118 _ _ _ ⟨hO, hF, hM, hH, hS, lv_sub hl [2, 3, 4, 5, 6, 7, 1, 0] rfl, (show rng 0 from ⟨by decide, by decide⟩), ra50, by first | (dsimp only; omega) | omega, by first | (dsimp only; omega) | omega, (by have h9 := emv.zero (f1 := f1) (g := f3) (m := gI σ a 5 - 1); rw [show gI σ a 5 - 1 + 1 = a50 by omega] at h9; exact h9), same.rf, K_118_0, K_118_1, by first | (dsimp only; omega) | omega, by first | (dsimp only; omega) | omega, by first | (dsimp only; omega) | omega, K_118_3, K_118_4, K_118_5, K_118_6, K_118_7, K_118_8, K_118_2⟩
        intro x9 σ_J_283 H locs ls hI9 ihJ_283
        obtain ⟨v7q282, G5q281, F3q279, F35q280⟩ := x9
        obtain ⟨hO, hF, hM, hH, hS, hl, rv7q282, rG5q281, J_283_0, J_283_1, J_283_2, J_283_3, J_283_4, J_283_5, J_283_6, J_283_7, J_283_8, J_283_9, J_283_10, J_283_11, J_283_12, J_283_13, J_283_14, J_283_15⟩ := hI9
        have hl : lv_has ls 9 [(0, .ref a), (1, .int (I i)), (2, .int (I is)), (3, .int (I dp)), (4, .int (I z_3)), (5, .int (I (60 * dp))), (6, .int (I w0q125)), (7, .int (I v7q282))] := hl
        have rv7q282 : rng v7q282 := rv7q282
        have rG5q281 : rng G5q281 := rG5q281
        have J_283_0 : 0 ≤ v7q282 := J_283_0
        have J_283_1 : v7q282 ≤ z_3 := J_283_1
        have J_283_2 : emv f1 F3q279 (lis F35q280 (60 * dp) (v7q282).toNat) (gI σ a 5 - 1) G5q281 := J_283_2
        have J_283_3 : same f3 F3q279 0 (gI σ a 5) 0 := J_283_3
        have J_283_4 : prm f1 F35q280 (60 * dp) (z_3).toNat i := J_283_4
        have J_283_5 : ofr f35 F35q280 (60 * dp) := J_283_5
        have J_283_6 : gI σ a 5 ≤ G5q281 := J_283_6
        have J_283_7 : 0 ≤ G5q281 := J_283_7
        have J_283_8 : G5q281 ≤ 4000 := J_283_8
        have J_283_9 : gI σ_J_283 a 32 = a320 := J_283_9
        have J_283_10 : gI σ_J_283 a 33 = a330 := J_283_10
        have J_283_11 : aF σ_J_283 (ad E a 1) = f1 := J_283_11
        have J_283_12 : aF σ_J_283 (ad E a 2) = f2 := J_283_12
        have J_283_13 : aF σ_J_283 (ad E a 3) = F3q279 := J_283_13
        have J_283_14 : aF σ_J_283 (ad E a 35) = F35q280 := J_283_14
        have J_283_15 : gI σ_J_283 a 5 = G5q281 := J_283_15
        refine lv_iload hx hb dX11_emitWithin_140 (lv_at hl 7 rfl) ?_
        refine lv_iload hx hb dX11_emitWithin_142 (lv_at hl 4 rfl) ?_
        refine lv_icmp_ge (tgt := 232) hx hb dX11_emitWithin_144 (by decide) (fun c_284 => ?_) (fun c_284 => ?_)
        · replace c_284 := (I_le (a := z_3) (b := v7q282) rz_3 rv7q282).mp c_284
          have hfu := J_283_2.full J_283_4 (by omega)
          refine lv_iload_n hx hb dX11_emitWithin_232 rfl (lv_at hl 2 rfl) ?_
          refine lv_if_eq (tgt := 266) hx hb dX11_emitWithin_233 (by decide) (fun c_285 => ?_) (fun c_285 => ?_)
          · replace c_285 := (I_eq (a := is) (b := 0) ris (show rng 0 from ⟨by decide, by decide⟩)).mp c_285
            refine lv_iload hx hb dX11_emitWithin_266 (lv_at hl 6 rfl) ?_
            refine lv_if_eq (tgt := 300) hx hb dX11_emitWithin_268 (by decide) (fun c_286 => ?_) (fun c_286 => ?_)
            · replace c_286 := (I_eq (a := w0q125) (b := 0) rw0q125 (show rng 0 from ⟨by decide, by decide⟩)).mp c_286
              exact th_vret hx hb hr hlocks hH hS ⟨hO, hF, hM, by have h7 := (J_283_2.to (k := z_3) (by omega)).fin (n := (z_3).toNat) J_283_4 (hy2.1.2.one (by omega) (by omega)); rw [show aF σ_J_283 (ad E a 3) = F3q279 from J_283_13, show aF σ_J_283 (ad E a 35) = F35q280 from J_283_14, show gI σ_J_283 a 5 = G5q281 by omega]; exact ⟨h7, J_283_3, J_283_5⟩⟩ dX11_emitWithin_300
            · replace c_286 := mt (I_eq (a := w0q125) (b := 0) rw0q125 (show rng 0 from ⟨by decide, by decide⟩)).mpr c_286
              refine lv_aload_n hx hb dX11_emitWithin_271 rfl (lv_at hl 0 rfl) ?_
              refine ok.getR hO h_a (by decide) k13_1 (by decide) (fun _ _ he hv kk => th_get (ci := 11) (C := RX11) (T := TX11) (N := 66) hx hb hts inX11 hown hK hH he rfl 1 (by decide) fl0 hv dX11_emitWithin_272 kk) ?_
              refine lv_iload_n hx hb dX11_emitWithin_275 rfl (lv_at hl 1 rfl) ?_
              refine lv_aload_n hx hb dX11_emitWithin_276 rfl (lv_at hl 0 rfl) ?_
              refine ok.getIc hO h_a (by decide) k13_33 J_283_10 (fun _ _ he hv kk => th_get (ci := 11) (C := RX11) (T := TX11) (N := 66) hx hb hts inX11 hown hK hH he rfl 33 (by decide) fl1 hv dX11_emitWithin_277 kk) ?_
              refine th_calli (va_runS (As := [.ref (ad E a 1), .int (I i), .int (I a330)]) (rest := []) ⟨hx, hb, hml, hown, hts⟩ (w_byKey l G y b0 σ_J_283 E hO (ad E a 1) 240 f1 (hO.roww h_a k13_1 isA1 J_283_11 rfl) i (show rng i from ri) (by omega) (by omega) a330 (show rng a330 from ra330) (by first | exact hy0 | exact (hy0).sub (by omega) (by omega)) (by omega) (by omega) (by omega)) (va_cwS 3 hts gX11_emitWithin_X11_byKey rfl rfl rfl (by decide +kernel) ⟨(by first | (simp only [headSpec]; omega) | omega | (dsimp only; omega)), (by first | (simp only [headSpec]; omega) | omega | (dsimp only; omega))⟩) (th_PS hK hH) rfl rfl hl.1 rfl (lv_room (Nat.le_of_ble_eq_true rfl)) dX11_emitWithin_280 ⟨(by first | (simp only [headSpec]; omega) | omega | (dsimp only; omega)), (by first | (simp only [headSpec]; omega) | omega | (dsimp only; omega))⟩) hS (fun z_289 σ_s_288 H locs rz_289 hw_287 hH hS => ?_)
              obtain ⟨e9, hw_287⟩ := hw_287
              replace e9 := e9.symm
              subst e9
              have hw_287 : (z_289 = -1 ∧ nok f1 (i + 1) (i + mS f1 i) a330) ∨ (kid f1 i z_289 ∧ mY f1 z_289 = a330 ∧ i < z_289 ∧ z_289 < i + mS f1 i) := hw_287
              refine lv_iconst (v := I (-1)) hx hb dX11_emitWithin_283 (by decide) ?_
              refine lv_icmp_ne (tgt := 300) hx hb dX11_emitWithin_284 (by decide) (fun c_290 => ?_) (fun c_290 => ?_)
              · replace c_290 := mt (I_eq (a := z_289) (b := (-1)) rz_289 (show rng (-1) from ⟨by decide, by decide⟩)).mpr c_290
                exact th_vret hx hb hr hlocks hH hS ⟨hO, hF, hM, by have h7 := (J_283_2.to (k := z_3) (by omega)).fin (n := (z_3).toNat) J_283_4 (hy2.1.2.one (by omega) (by omega)); rw [show aF σ_J_283 (ad E a 3) = F3q279 from J_283_13, show aF σ_J_283 (ad E a 35) = F35q280 from J_283_14, show gI σ_J_283 a 5 = G5q281 by omega]; exact ⟨h7, J_283_3, J_283_5⟩⟩ dX11_emitWithin_300
              · replace c_290 := (I_eq (a := z_289) (b := (-1)) rz_289 (show rng (-1) from ⟨by decide, by decide⟩)).mp c_290
                have ht9 := (hy3 (by omega)).2
                refine lv_aload_n hx hb dX11_emitWithin_287 rfl (lv_at hl 0 rfl) ?_
                refine lv_aload_n hx hb dX11_emitWithin_288 rfl (lv_at hl 0 rfl) ?_
                refine ok.getR hO h_a (by decide) k13_2 (by decide) (fun _ _ he hv kk => th_get (ci := 11) (C := RX11) (T := TX11) (N := 66) hx hb hts inX11 hown hK hH he rfl 2 (by decide) fl2 hv dX11_emitWithin_289 kk) ?_
                refine lv_iconst (v := I 0) hx hb dX11_emitWithin_292 (by decide) ?_
                refine lv_aload_n hx hb dX11_emitWithin_293 rfl (lv_at hl 0 rfl) ?_
                refine ok.getIc hO h_a (by decide) k13_33 J_283_10 (fun _ _ he hv kk => th_get (ci := 11) (C := RX11) (T := TX11) (N := 66) hx hb hts inX11 hown hK hH he rfl 33 (by decide) fl1 hv dX11_emitWithin_294 kk) ?_
                obtain ⟨_, hc_291⟩ := hO.cell h_a (by decide) (ci := 11) rfl
                refine th_callv (va_runV (As := [.ref (ad E a 2), .int (I 0), .int (I a330)]) (rest := []) ⟨hx, hb, hml, hown, hts⟩ (m_copyWith2 l G y b0 σ_J_283 E hO a h_a 0 (show rng 0 from (show rng 0 from ⟨by decide, by decide⟩)) (by omega) (by omega) a330 (show rng a330 from ra330) f2 J_283_12 F3q279 J_283_13 ((hy3 (by omega))) (by omega) (by omega)) (cwV 3 hts gX11_emitWithin_X11_copyWith rfl rfl rfl (by decide +kernel) ⟨(by first | (simp only [headSpec]; omega) | omega | (dsimp only; omega)), (by first | (simp only [headSpec]; omega) | omega | (dsimp only; omega))⟩) (th_PV hK hH rfl hc_291) rfl rfl hl.1 rfl (lv_room (Nat.le_of_ble_eq_true rfl)) dX11_emitWithin_297 ⟨(by first | (simp only [headSpec]; omega) | omega | (dsimp only; omega)), (by first | (simp only [headSpec]; omega) | omega | (dsimp only; omega))⟩) hS (fun σ_s_293 H locs hw_292 hH hS => ?_)
                obtain ⟨hO9, hF9, hM9, hw_292⟩ := hw_292
                replace hM := hM.tu hM9 (by decide)
                replace hF := hF.tu hF9 (by decide)
                have e_294 : gI σ_s_293 a 32 = a320 := (hM9.i (by decide)).trans J_283_9
                have e_295 : gI σ_s_293 a 33 = a330 := (hM9.i (by decide)).trans J_283_10
                have e_296 : aF σ_s_293 (ad E a 1) = f1 := (hM9.a (by decide) (by decide)).trans J_283_11
                have e_297 : aF σ_s_293 (ad E a 2) = f2 := (hM9.a (by decide) (by decide)).trans J_283_12
                have e_298 : aF σ_s_293 (ad E a 35) = F35q280 := (hM9.a (by decide) (by decide)).trans J_283_14
                replace hO := hO9
                generalize ef_300 : aF σ_s_293 (ad E a 3) = g_299 at hw_292
                have hw_292 : blk F3q279 g_299 (gI σ_J_283 a 5) (gI σ_J_283 a 5 + mS f2 0) a330 ∧ mS g_299 (gI σ_J_283 a 5) = mS f2 0 ∧ gI σ_s_293 a 5 = gI σ_J_283 a 5 + mS f2 0 := hw_292
                exact th_vret hx hb hr hlocks hH hS ⟨hO, hF, hM, by have h9 := hw_292.1; rw [show gI σ_J_283 a 5 = G5q281 by omega] at h9; have h7 := (J_283_2.to (k := z_3) (by omega)).add (n := (z_3).toNat) J_283_4 (hy2.1.2.one (by omega) (by omega)) h9 (by omega) (fun _ => (hw_287.resolve_right (fun h9 => by have h8 := h9.2.2.1; omega)).2) (by omega); rw [show aF σ_s_293 (ad E a 3) = g_299 from ef_300, show aF σ_s_293 (ad E a 35) = F35q280 from e_298, show gI σ_s_293 a 5 = G5q281 + mS f2 0 by omega]; exact ⟨h7, blk.tr0 J_283_3 h9 (by omega), J_283_5⟩⟩ dX11_emitWithin_300
          · replace c_285 := mt (I_eq (a := is) (b := 0) ris (show rng 0 from ⟨by decide, by decide⟩)).mpr c_285
            refine lv_aload_n hx hb dX11_emitWithin_236 rfl (lv_at hl 0 rfl) ?_
            refine ok.getIc hO h_a (by decide) k13_32 J_283_9 (fun _ _ he hv kk => th_get (ci := 11) (C := RX11) (T := TX11) (N := 66) hx hb hts inX11 hown hK hH he rfl 32 (by decide) fl3 hv dX11_emitWithin_237 kk) ?_
            refine lv_iconst (v := I 1) hx hb dX11_emitWithin_240 (by decide) ?_
            refine lv_icmp_ne (tgt := 266) hx hb dX11_emitWithin_241 (by decide) (fun c_301 => ?_) (fun c_301 => ?_)
            · replace c_301 := mt (I_eq (a := a320) (b := 1) ra320 (show rng 1 from ⟨by decide, by decide⟩)).mpr c_301
              refine lv_iload hx hb dX11_emitWithin_266 (lv_at hl 6 rfl) ?_
              refine lv_if_eq (tgt := 300) hx hb dX11_emitWithin_268 (by decide) (fun c_302 => ?_) (fun c_302 => ?_)
              · replace c_302 := (I_eq (a := w0q125) (b := 0) rw0q125 (show rng 0 from ⟨by decide, by decide⟩)).mp c_302
                exact th_vret hx hb hr hlocks hH hS ⟨hO, hF, hM, by have h7 := (J_283_2.to (k := z_3) (by omega)).fin (n := (z_3).toNat) J_283_4 (hy2.1.2.one (by omega) (by omega)); rw [show aF σ_J_283 (ad E a 3) = F3q279 from J_283_13, show aF σ_J_283 (ad E a 35) = F35q280 from J_283_14, show gI σ_J_283 a 5 = G5q281 by omega]; exact ⟨h7, J_283_3, J_283_5⟩⟩ dX11_emitWithin_300
              · replace c_302 := mt (I_eq (a := w0q125) (b := 0) rw0q125 (show rng 0 from ⟨by decide, by decide⟩)).mpr c_302
                refine lv_aload_n hx hb dX11_emitWithin_271 rfl (lv_at hl 0 rfl) ?_
                refine ok.getR hO h_a (by decide) k13_1 (by decide) (fun _ _ he hv kk => th_get (ci := 11) (C := RX11) (T := TX11) (N := 66) hx hb hts inX11 hown hK hH he rfl 1 (by decide) fl0 hv dX11_emitWithin_272 kk) ?_
                refine lv_iload_n hx hb dX11_emitWithin_275 rfl (lv_at hl 1 rfl) ?_
                refine lv_aload_n hx hb dX11_emitWithin_276 rfl (lv_at hl 0 rfl) ?_
                refine ok.getIc hO h_a (by decide) k13_33 J_283_10 (fun _ _ he hv kk => th_get (ci := 11) (C := RX11) (T := TX11) (N := 66) hx hb hts inX11 hown hK hH he rfl 33 (by decide) fl1 hv dX11_emitWithin_277 kk) ?_
                refine th_calli (va_runS (As := [.ref (ad E a 1), .int (I i), .int (I a330)]) (rest := []) ⟨hx, hb, hml, hown, hts⟩ (w_byKey l G y b0 σ_J_283 E hO (ad E a 1) 240 f1 (hO.roww h_a k13_1 isA1 J_283_11 rfl) i (show rng i from ri) (by omega) (by omega) a330 (show rng a330 from ra330) (by first | exact hy0 | exact (hy0).sub (by omega) (by omega)) (by omega) (by omega) (by omega)) (va_cwS 3 hts gX11_emitWithin_X11_byKey rfl rfl rfl (by decide +kernel) ⟨(by first | (simp only [headSpec]; omega) | omega | (dsimp only; omega)), (by first | (simp only [headSpec]; omega) | omega | (dsimp only; omega))⟩) (th_PS hK hH) rfl rfl hl.1 rfl (lv_room (Nat.le_of_ble_eq_true rfl)) dX11_emitWithin_280 ⟨(by first | (simp only [headSpec]; omega) | omega | (dsimp only; omega)), (by first | (simp only [headSpec]; omega) | omega | (dsimp only; omega))⟩) hS (fun z_305 σ_s_304 H locs rz_305 hw_303 hH hS => ?_)
                obtain ⟨e9, hw_303⟩ := hw_303
                replace e9 := e9.symm
                subst e9
                have hw_303 : (z_305 = -1 ∧ nok f1 (i + 1) (i + mS f1 i) a330) ∨ (kid f1 i z_305 ∧ mY f1 z_305 = a330 ∧ i < z_305 ∧ z_305 < i + mS f1 i) := hw_303
                refine lv_iconst (v := I (-1)) hx hb dX11_emitWithin_283 (by decide) ?_
                refine lv_icmp_ne (tgt := 300) hx hb dX11_emitWithin_284 (by decide) (fun c_306 => ?_) (fun c_306 => ?_)
                · replace c_306 := mt (I_eq (a := z_305) (b := (-1)) rz_305 (show rng (-1) from ⟨by decide, by decide⟩)).mpr c_306
                  exact th_vret hx hb hr hlocks hH hS ⟨hO, hF, hM, by have h7 := (J_283_2.to (k := z_3) (by omega)).fin (n := (z_3).toNat) J_283_4 (hy2.1.2.one (by omega) (by omega)); rw [show aF σ_J_283 (ad E a 3) = F3q279 from J_283_13, show aF σ_J_283 (ad E a 35) = F35q280 from J_283_14, show gI σ_J_283 a 5 = G5q281 by omega]; exact ⟨h7, J_283_3, J_283_5⟩⟩ dX11_emitWithin_300
                · replace c_306 := (I_eq (a := z_305) (b := (-1)) rz_305 (show rng (-1) from ⟨by decide, by decide⟩)).mp c_306
                  have ht9 := (hy3 (by omega)).2
                  refine lv_aload_n hx hb dX11_emitWithin_287 rfl (lv_at hl 0 rfl) ?_
                  refine lv_aload_n hx hb dX11_emitWithin_288 rfl (lv_at hl 0 rfl) ?_
                  refine ok.getR hO h_a (by decide) k13_2 (by decide) (fun _ _ he hv kk => th_get (ci := 11) (C := RX11) (T := TX11) (N := 66) hx hb hts inX11 hown hK hH he rfl 2 (by decide) fl2 hv dX11_emitWithin_289 kk) ?_
                  refine lv_iconst (v := I 0) hx hb dX11_emitWithin_292 (by decide) ?_
                  refine lv_aload_n hx hb dX11_emitWithin_293 rfl (lv_at hl 0 rfl) ?_
                  refine ok.getIc hO h_a (by decide) k13_33 J_283_10 (fun _ _ he hv kk => th_get (ci := 11) (C := RX11) (T := TX11) (N := 66) hx hb hts inX11 hown hK hH he rfl 33 (by decide) fl1 hv dX11_emitWithin_294 kk) ?_
                  obtain ⟨_, hc_307⟩ := hO.cell h_a (by decide) (ci := 11) rfl
                  refine th_callv (va_runV (As := [.ref (ad E a 2), .int (I 0), .int (I a330)]) (rest := []) ⟨hx, hb, hml, hown, hts⟩ (m_copyWith2 l G y b0 σ_J_283 E hO a h_a 0 (show rng 0 from (show rng 0 from ⟨by decide, by decide⟩)) (by omega) (by omega) a330 (show rng a330 from ra330) f2 J_283_12 F3q279 J_283_13 ((hy3 (by omega))) (by omega) (by omega)) (cwV 3 hts gX11_emitWithin_X11_copyWith rfl rfl rfl (by decide +kernel) ⟨(by first | (simp only [headSpec]; omega) | omega | (dsimp only; omega)), (by first | (simp only [headSpec]; omega) | omega | (dsimp only; omega))⟩) (th_PV hK hH rfl hc_307) rfl rfl hl.1 rfl (lv_room (Nat.le_of_ble_eq_true rfl)) dX11_emitWithin_297 ⟨(by first | (simp only [headSpec]; omega) | omega | (dsimp only; omega)), (by first | (simp only [headSpec]; omega) | omega | (dsimp only; omega))⟩) hS (fun σ_s_309 H locs hw_308 hH hS => ?_)
                  obtain ⟨hO9, hF9, hM9, hw_308⟩ := hw_308
                  replace hM := hM.tu hM9 (by decide)
                  replace hF := hF.tu hF9 (by decide)
                  have e_310 : gI σ_s_309 a 32 = a320 := (hM9.i (by decide)).trans J_283_9
                  have e_311 : gI σ_s_309 a 33 = a330 := (hM9.i (by decide)).trans J_283_10
                  have e_312 : aF σ_s_309 (ad E a 1) = f1 := (hM9.a (by decide) (by decide)).trans J_283_11
                  have e_313 : aF σ_s_309 (ad E a 2) = f2 := (hM9.a (by decide) (by decide)).trans J_283_12
                  have e_314 : aF σ_s_309 (ad E a 35) = F35q280 := (hM9.a (by decide) (by decide)).trans J_283_14
                  replace hO := hO9
                  generalize ef_316 : aF σ_s_309 (ad E a 3) = g_315 at hw_308
                  have hw_308 : blk F3q279 g_315 (gI σ_J_283 a 5) (gI σ_J_283 a 5 + mS f2 0) a330 ∧ mS g_315 (gI σ_J_283 a 5) = mS f2 0 ∧ gI σ_s_309 a 5 = gI σ_J_283 a 5 + mS f2 0 := hw_308
                  exact th_vret hx hb hr hlocks hH hS ⟨hO, hF, hM, by have h9 := hw_308.1; rw [show gI σ_J_283 a 5 = G5q281 by omega] at h9; have h7 := (J_283_2.to (k := z_3) (by omega)).add (n := (z_3).toNat) J_283_4 (hy2.1.2.one (by omega) (by omega)) h9 (by omega) (fun _ => (hw_303.resolve_right (fun h9 => by have h8 := h9.2.2.1; omega)).2) (by omega); rw [show aF σ_s_309 (ad E a 3) = g_315 from ef_316, show aF σ_s_309 (ad E a 35) = F35q280 from e_314, show gI σ_s_309 a 5 = G5q281 + mS f2 0 by omega]; exact ⟨h7, blk.tr0 J_283_3 h9 (by omega), J_283_5⟩⟩ dX11_emitWithin_300
            · replace c_301 := (I_eq (a := a320) (b := 1) ra320 (show rng 1 from ⟨by decide, by decide⟩)).mp c_301
              refine lv_aload_n hx hb dX11_emitWithin_244 rfl (lv_at hl 0 rfl) ?_
              refine ok.getR hO h_a (by decide) k13_1 (by decide) (fun _ _ he hv kk => th_get (ci := 11) (C := RX11) (T := TX11) (N := 66) hx hb hts inX11 hown hK hH he rfl 1 (by decide) fl0 hv dX11_emitWithin_245 kk) ?_
              refine lv_iload_n hx hb dX11_emitWithin_248 rfl (lv_at hl 1 rfl) ?_
              refine th_calli (va_runS (As := [.ref (ad E a 1), .int (I i)]) (rest := []) ⟨hx, hb, hml, hown, hts⟩ (w_kind l G y b0 σ_J_283 E hO (ad E a 1) 240 f1 (hO.roww h_a k13_1 isA1 J_283_11 rfl) i (show rng i from ri) (by omega) (by omega) (by omega)) (va_cwS 2 hts gX11_emitWithin_X11_kind rfl rfl rfl (by decide +kernel) ⟨(by first | (simp only [headSpec]; omega) | omega | (dsimp only; omega)), (by first | (simp only [headSpec]; omega) | omega | (dsimp only; omega))⟩) (th_PS hK hH) rfl rfl hl.1 rfl (lv_room (Nat.le_of_ble_eq_true rfl)) dX11_emitWithin_249 ⟨(by first | (simp only [headSpec]; omega) | omega | (dsimp only; omega)), (by first | (simp only [headSpec]; omega) | omega | (dsimp only; omega))⟩) hS (fun z_319 σ_s_318 H locs rz_319 hw_317 hH hS => ?_)
              obtain ⟨e9, hw_317⟩ := hw_317
              replace e9 := e9.symm
              subst e9
              have hw_317 : z_319 = mK f1 i := hw_317
              refine lv_iconst (v := I 2) hx hb dX11_emitWithin_252 (by decide) ?_
              refine lv_icmp_ne (tgt := 266) hx hb dX11_emitWithin_253 (by decide) (fun c_320 => ?_) (fun c_320 => ?_)
              · replace c_320 := mt (I_eq (a := z_319) (b := 2) rz_319 (show rng 2 from ⟨by decide, by decide⟩)).mpr c_320
                refine lv_iload hx hb dX11_emitWithin_266 (lv_at hl 6 rfl) ?_
                refine lv_if_eq (tgt := 300) hx hb dX11_emitWithin_268 (by decide) (fun c_321 => ?_) (fun c_321 => ?_)
                · replace c_321 := (I_eq (a := w0q125) (b := 0) rw0q125 (show rng 0 from ⟨by decide, by decide⟩)).mp c_321
                  exact th_vret hx hb hr hlocks hH hS ⟨hO, hF, hM, by have h7 := (J_283_2.to (k := z_3) (by omega)).fin (n := (z_3).toNat) J_283_4 (hy2.1.2.one (by omega) (by omega)); rw [show aF σ_J_283 (ad E a 3) = F3q279 from J_283_13, show aF σ_J_283 (ad E a 35) = F35q280 from J_283_14, show gI σ_J_283 a 5 = G5q281 by omega]; exact ⟨h7, J_283_3, J_283_5⟩⟩ dX11_emitWithin_300
                · replace c_321 := mt (I_eq (a := w0q125) (b := 0) rw0q125 (show rng 0 from ⟨by decide, by decide⟩)).mpr c_321
                  refine lv_aload_n hx hb dX11_emitWithin_271 rfl (lv_at hl 0 rfl) ?_
                  refine ok.getR hO h_a (by decide) k13_1 (by decide) (fun _ _ he hv kk => th_get (ci := 11) (C := RX11) (T := TX11) (N := 66) hx hb hts inX11 hown hK hH he rfl 1 (by decide) fl0 hv dX11_emitWithin_272 kk) ?_
                  refine lv_iload_n hx hb dX11_emitWithin_275 rfl (lv_at hl 1 rfl) ?_
                  refine lv_aload_n hx hb dX11_emitWithin_276 rfl (lv_at hl 0 rfl) ?_
                  refine ok.getIc hO h_a (by decide) k13_33 J_283_10 (fun _ _ he hv kk => th_get (ci := 11) (C := RX11) (T := TX11) (N := 66) hx hb hts inX11 hown hK hH he rfl 33 (by decide) fl1 hv dX11_emitWithin_277 kk) ?_
                  refine th_calli (va_runS (As := [.ref (ad E a 1), .int (I i), .int (I a330)]) (rest := []) ⟨hx, hb, hml, hown, hts⟩ (w_byKey l G y b0 σ_J_283 E hO (ad E a 1) 240 f1 (hO.roww h_a k13_1 isA1 J_283_11 rfl) i (show rng i from ri) (by omega) (by omega) a330 (show rng a330 from ra330) (by first | exact hy0 | exact (hy0).sub (by omega) (by omega)) (by omega) (by omega) (by omega)) (va_cwS 3 hts gX11_emitWithin_X11_byKey rfl rfl rfl (by decide +kernel) ⟨(by first | (simp only [headSpec]; omega) | omega | (dsimp only; omega)), (by first | (simp only [headSpec]; omega) | omega | (dsimp only; omega))⟩) (th_PS hK hH) rfl rfl hl.1 rfl (lv_room (Nat.le_of_ble_eq_true rfl)) dX11_emitWithin_280 ⟨(by first | (simp only [headSpec]; omega) | omega | (dsimp only; omega)), (by first | (simp only [headSpec]; omega) | omega | (dsimp only; omega))⟩) hS (fun z_324 σ_s_323 H locs rz_324 hw_322 hH hS => ?_)
                  obtain ⟨e9, hw_322⟩ := hw_322
                  replace e9 := e9.symm
                  subst e9
                  have hw_322 : (z_324 = -1 ∧ nok f1 (i + 1) (i + mS f1 i) a330) ∨ (kid f1 i z_324 ∧ mY f1 z_324 = a330 ∧ i < z_324 ∧ z_324 < i + mS f1 i) := hw_322
                  refine lv_iconst (v := I (-1)) hx hb dX11_emitWithin_283 (by decide) ?_
                  refine lv_icmp_ne (tgt := 300) hx hb dX11_emitWithin_284 (by decide) (fun c_325 => ?_) (fun c_325 => ?_)
                  · replace c_325 := mt (I_eq (a := z_324) (b := (-1)) rz_324 (show rng (-1) from ⟨by decide, by decide⟩)).mpr c_325
                    exact th_vret hx hb hr hlocks hH hS ⟨hO, hF, hM, by have h7 := (J_283_2.to (k := z_3) (by omega)).fin (n := (z_3).toNat) J_283_4 (hy2.1.2.one (by omega) (by omega)); rw [show aF σ_J_283 (ad E a 3) = F3q279 from J_283_13, show aF σ_J_283 (ad E a 35) = F35q280 from J_283_14, show gI σ_J_283 a 5 = G5q281 by omega]; exact ⟨h7, J_283_3, J_283_5⟩⟩ dX11_emitWithin_300
                  · replace c_325 := (I_eq (a := z_324) (b := (-1)) rz_324 (show rng (-1) from ⟨by decide, by decide⟩)).mp c_325
                    have ht9 := (hy3 (by omega)).2
                    refine lv_aload_n hx hb dX11_emitWithin_287 rfl (lv_at hl 0 rfl) ?_
                    refine lv_aload_n hx hb dX11_emitWithin_288 rfl (lv_at hl 0 rfl) ?_
                    refine ok.getR hO h_a (by decide) k13_2 (by decide) (fun _ _ he hv kk => th_get (ci := 11) (C := RX11) (T := TX11) (N := 66) hx hb hts inX11 hown hK hH he rfl 2 (by decide) fl2 hv dX11_emitWithin_289 kk) ?_
                    refine lv_iconst (v := I 0) hx hb dX11_emitWithin_292 (by decide) ?_
                    refine lv_aload_n hx hb dX11_emitWithin_293 rfl (lv_at hl 0 rfl) ?_
                    refine ok.getIc hO h_a (by decide) k13_33 J_283_10 (fun _ _ he hv kk => th_get (ci := 11) (C := RX11) (T := TX11) (N := 66) hx hb hts inX11 hown hK hH he rfl 33 (by decide) fl1 hv dX11_emitWithin_294 kk) ?_
                    obtain ⟨_, hc_326⟩ := hO.cell h_a (by decide) (ci := 11) rfl
                    refine th_callv (va_runV (As := [.ref (ad E a 2), .int (I 0), .int (I a330)]) (rest := []) ⟨hx, hb, hml, hown, hts⟩ (m_copyWith2 l G y b0 σ_J_283 E hO a h_a 0 (show rng 0 from (show rng 0 from ⟨by decide, by decide⟩)) (by omega) (by omega) a330 (show rng a330 from ra330) f2 J_283_12 F3q279 J_283_13 ((hy3 (by omega))) (by omega) (by omega)) (cwV 3 hts gX11_emitWithin_X11_copyWith rfl rfl rfl (by decide +kernel) ⟨(by first | (simp only [headSpec]; omega) | omega | (dsimp only; omega)), (by first | (simp only [headSpec]; omega) | omega | (dsimp only; omega))⟩) (th_PV hK hH rfl hc_326) rfl rfl hl.1 rfl (lv_room (Nat.le_of_ble_eq_true rfl)) dX11_emitWithin_297 ⟨(by first | (simp only [headSpec]; omega) | omega | (dsimp only; omega)), (by first | (simp only [headSpec]; omega) | omega | (dsimp only; omega))⟩) hS (fun σ_s_328 H locs hw_327 hH hS => ?_)
                    obtain ⟨hO9, hF9, hM9, hw_327⟩ := hw_327
                    replace hM := hM.tu hM9 (by decide)
                    replace hF := hF.tu hF9 (by decide)
                    have e_329 : gI σ_s_328 a 32 = a320 := (hM9.i (by decide)).trans J_283_9
                    have e_330 : gI σ_s_328 a 33 = a330 := (hM9.i (by decide)).trans J_283_10
                    have e_331 : aF σ_s_328 (ad E a 1) = f1 := (hM9.a (by decide) (by decide)).trans J_283_11
                    have e_332 : aF σ_s_328 (ad E a 2) = f2 := (hM9.a (by decide) (by decide)).trans J_283_12
                    have e_333 : aF σ_s_328 (ad E a 35) = F35q280 := (hM9.a (by decide) (by decide)).trans J_283_14
                    replace hO := hO9
                    generalize ef_335 : aF σ_s_328 (ad E a 3) = g_334 at hw_327
                    have hw_327 : blk F3q279 g_334 (gI σ_J_283 a 5) (gI σ_J_283 a 5 + mS f2 0) a330 ∧ mS g_334 (gI σ_J_283 a 5) = mS f2 0 ∧ gI σ_s_328 a 5 = gI σ_J_283 a 5 + mS f2 0 := hw_327
                    exact th_vret hx hb hr hlocks hH hS ⟨hO, hF, hM, by have h9 := hw_327.1; rw [show gI σ_J_283 a 5 = G5q281 by omega] at h9; have h7 := (J_283_2.to (k := z_3) (by omega)).add (n := (z_3).toNat) J_283_4 (hy2.1.2.one (by omega) (by omega)) h9 (by omega) (fun _ => (hw_322.resolve_right (fun h9 => by have h8 := h9.2.2.1; omega)).2) (by omega); rw [show aF σ_s_328 (ad E a 3) = g_334 from ef_335, show aF σ_s_328 (ad E a 35) = F35q280 from e_333, show gI σ_s_328 a 5 = G5q281 + mS f2 0 by omega]; exact ⟨h7, blk.tr0 J_283_3 h9 (by omega), J_283_5⟩⟩ dX11_emitWithin_300
              · replace c_320 := (I_eq (a := z_319) (b := 2) rz_319 (show rng 2 from ⟨by decide, by decide⟩)).mp c_320
                have ht9 := (hy3 (by omega)).2
                refine lv_aload_n hx hb dX11_emitWithin_256 rfl (lv_at hl 0 rfl) ?_
                refine lv_aload_n hx hb dX11_emitWithin_257 rfl (lv_at hl 0 rfl) ?_
                refine ok.getR hO h_a (by decide) k13_2 (by decide) (fun _ _ he hv kk => th_get (ci := 11) (C := RX11) (T := TX11) (N := 66) hx hb hts inX11 hown hK hH he rfl 2 (by decide) fl2 hv dX11_emitWithin_258 kk) ?_
                refine lv_iconst (v := I 0) hx hb dX11_emitWithin_261 (by decide) ?_
                refine lv_iconst (v := I 0) hx hb dX11_emitWithin_262 (by decide) ?_
                obtain ⟨_, hc_336⟩ := hO.cell h_a (by decide) (ci := 11) rfl
                refine th_callv (va_runV (As := [.ref (ad E a 2), .int (I 0), .int (I 0)]) (rest := []) ⟨hx, hb, hml, hown, hts⟩ (m_copyWith2 l G y b0 σ_J_283 E hO a h_a 0 (show rng 0 from (show rng 0 from ⟨by decide, by decide⟩)) (by omega) (by omega) 0 (show rng 0 from (show rng 0 from ⟨by decide, by decide⟩)) f2 J_283_12 F3q279 J_283_13 ((hy3 (by omega))) (by omega) (by omega)) (cwV 3 hts gX11_emitWithin_X11_copyWith rfl rfl rfl (by decide +kernel) ⟨(by first | (simp only [headSpec]; omega) | omega | (dsimp only; omega)), (by first | (simp only [headSpec]; omega) | omega | (dsimp only; omega))⟩) (th_PV hK hH rfl hc_336) rfl rfl hl.1 rfl (lv_room (Nat.le_of_ble_eq_true rfl)) dX11_emitWithin_263 ⟨(by first | (simp only [headSpec]; omega) | omega | (dsimp only; omega)), (by first | (simp only [headSpec]; omega) | omega | (dsimp only; omega))⟩) hS (fun σ_s_338 H locs hw_337 hH hS => ?_)
                obtain ⟨hO9, hF9, hM9, hw_337⟩ := hw_337
                replace hM := hM.tu hM9 (by decide)
                replace hF := hF.tu hF9 (by decide)
                have e_339 : gI σ_s_338 a 32 = a320 := (hM9.i (by decide)).trans J_283_9
                have e_340 : gI σ_s_338 a 33 = a330 := (hM9.i (by decide)).trans J_283_10
                have e_341 : aF σ_s_338 (ad E a 1) = f1 := (hM9.a (by decide) (by decide)).trans J_283_11
                have e_342 : aF σ_s_338 (ad E a 2) = f2 := (hM9.a (by decide) (by decide)).trans J_283_12
                have e_343 : aF σ_s_338 (ad E a 35) = F35q280 := (hM9.a (by decide) (by decide)).trans J_283_14
                replace hO := hO9
                generalize ef_345 : aF σ_s_338 (ad E a 3) = g_344 at hw_337
                have hw_337 : blk F3q279 g_344 (gI σ_J_283 a 5) (gI σ_J_283 a 5 + mS f2 0) 0 ∧ mS g_344 (gI σ_J_283 a 5) = mS f2 0 ∧ gI σ_s_338 a 5 = gI σ_J_283 a 5 + mS f2 0 := hw_337
                refine lv_iload hx hb dX11_emitWithin_266 (lv_at hl 6 rfl) ?_
                refine lv_if_eq (tgt := 300) hx hb dX11_emitWithin_268 (by decide) (fun c_346 => ?_) (fun c_346 => ?_)
                · replace c_346 := (I_eq (a := w0q125) (b := 0) rw0q125 (show rng 0 from ⟨by decide, by decide⟩)).mp c_346
                  exact th_vret hx hb hr hlocks hH hS ⟨hO, hF, hM, by have h9 := hw_337.1; rw [show gI σ_J_283 a 5 = G5q281 by omega] at h9; have h7 := (J_283_2.to (k := z_3) (by omega)).add (n := (z_3).toNat) J_283_4 (hy2.1.2.one (by omega) (by omega)) h9 (by omega) (fun h9 => absurd h9 (by omega)) (by omega); rw [show aF σ_s_338 (ad E a 3) = g_344 from ef_345, show aF σ_s_338 (ad E a 35) = F35q280 from e_343, show gI σ_s_338 a 5 = G5q281 + mS f2 0 by omega]; exact ⟨h7, blk.tr0 J_283_3 h9 (by omega), J_283_5⟩⟩ dX11_emitWithin_300
                · replace c_346 := mt (I_eq (a := w0q125) (b := 0) rw0q125 (show rng 0 from ⟨by decide, by decide⟩)).mpr c_346
                  exfalso; omega
        · replace c_284 := mt (I_le (a := z_3) (b := v7q282) rz_3 rv7q282).mpr c_284
          refine lv_aload_n hx hb dX11_emitWithin_147 rfl (lv_at hl 0 rfl) ?_
          refine ok.getR hO h_a (by decide) k13_35 (by decide) (fun _ _ he hv kk => th_get (ci := 11) (C := RX11) (T := TX11) (N := 66) hx hb hts inX11 hown hK hH he rfl 35 (by decide) fl4 hv dX11_emitWithin_148 kk) ?_
          refine lv_iload hx hb dX11_emitWithin_151 (lv_at hl 5 rfl) ?_
          refine lv_iload hx hb dX11_emitWithin_153 (lv_at hl 7 rfl) ?_
          refine lv_iadd hx hb dX11_emitWithin_155 ?_
          refine nq_top (I_add _ _) ?_
          refine m_iald hx hb hK hH hO h_a k13_35 isA1 J_283_14 ⟨by omega, by omega⟩ (by omega) (by omega) dX11_emitWithin_156 (fun z_347 ez_347 rz_347 elx9 => ?_)
          have hk8 := J_283_4.at hy0 (by omega) (by omega) (k := (v7q282).toNat) (x := (60 * dp + v7q282).toNat) (z := z_347) (by omega) (by omega) ez_347
          have hk7 := hk8.1
          have hk6 := hk8.2.1
          have hrm := J_283_2.room J_283_4 hy0 (by omega) (by omega) (by omega) (by omega) (by omega) (x := (60 * dp + v7q282).toNat) (by omega) ez_347
          have hk5 := hy0 z_347 (by omega) (by omega)
          have hcn := cn_kid (f := f1) (b := mS f1 0) hy0 (i := i) (j := z_347) (by omega) (by omega) (by omega) (by omega)
          have htr := hy2.at (p := z_347) (by omega) (by omega)
          refine lv_istore (lv' := [(8, .int (I z_347)), (0, .ref a), (1, .int (I i)), (2, .int (I is)), (3, .int (I dp)), (4, .int (I z_3)), (5, .int (I (60 * dp))), (6, .int (I w0q125)), (7, .int (I v7q282))]) hx hb dX11_emitWithin_157 hl (by decide) rfl (fun ls hl => ?_)
          refine lv_iload hx hb dX11_emitWithin_159 (lv_at hl 7 rfl) ?_
          refine lv_if_eq (tgt := 198) hx hb dX11_emitWithin_161 (by decide) (fun c_348 => ?_) (fun c_348 => ?_)
          · replace c_348 := (I_eq (a := w0q125) (b := 0) rw0q125 (show rng 0 from ⟨by decide, by decide⟩)).mp c_348
            refine lv_aload_n hx hb dX11_emitWithin_198 rfl (lv_at hl 1 rfl) ?_
            refine ok.getIc hO h_a (by decide) k13_32 J_283_9 (fun _ _ he hv kk => th_get (ci := 11) (C := RX11) (T := TX11) (N := 66) hx hb hts inX11 hown hK hH he rfl 32 (by decide) fl3 hv dX11_emitWithin_199 kk) ?_
            refine lv_bipush (v := I 6) hx hb dX11_emitWithin_202 (by decide) ?_
            refine lv_icmp_ne (tgt := 217) hx hb dX11_emitWithin_204 (by decide) (fun c_349 => ?_) (fun c_349 => ?_)
            · replace c_349 := mt (I_eq (a := a320) (b := 6) ra320 (show rng 6 from ⟨by decide, by decide⟩)).mpr c_349
              refine lv_aload_n hx hb dX11_emitWithin_217 rfl (lv_at hl 1 rfl) ?_
              refine lv_iload hx hb dX11_emitWithin_218 (lv_at hl 0 rfl) ?_
              refine lv_iload_n hx hb dX11_emitWithin_220 rfl (lv_at hl 4 rfl) ?_
              refine lv_iconst (v := I 1) hx hb dX11_emitWithin_221 (by decide) ?_
              refine lv_iadd hx hb dX11_emitWithin_222 ?_
              refine nq_top (I_add _ _) ?_
              obtain ⟨_, hc_350⟩ := hO.cell h_a (by decide) (ci := 11) rfl
              refine th_callv (va_runV (As := [.int (I z_347), .int (I (dp + 1))]) (rest := []) ⟨hx, hb, hml, hown, hts⟩ (ih l G y b0 σ_J_283 E hO a h_a z_347 (show rng z_347 from rz_347) (by omega) (by omega) (dp + 1) (show rng (dp + 1) from ⟨by omega, by omega⟩) (by omega) (by omega) f1 J_283_11 f2 J_283_12 F3q279 J_283_13 F35q280 J_283_14 (hy0) (by omega) (hy2) ((by rw [show gI σ_J_283 a 32 = gI σ a 32 by omega]; exact hy3)) (by omega) ((by omega)) (by omega) (by omega)) (cwV 2 hts gX11_emitWithin_X11_emit rfl rfl rfl (by decide +kernel) ⟨(by first | (simp only [headSpec]; omega) | omega | (dsimp only; omega)), (by first | (simp only [headSpec]; omega) | omega | (dsimp only; omega))⟩) (th_PV hK hH rfl hc_350) rfl rfl hl.1 rfl (lv_room (Nat.le_of_ble_eq_true rfl)) dX11_emitWithin_223 ⟨(by first | (simp only [headSpec]; omega) | omega | (dsimp only; omega)), (by first | (simp only [headSpec]; omega) | omega | (dsimp only; omega))⟩) hS (fun σ_s_352 H locs hw_351 hH hS => ?_)
              obtain ⟨hO9, hF9, hM9, hw_351⟩ := hw_351
              replace hM := hM.tu hM9 (by decide)
              replace hF := hF.tu hF9 (by decide)
              have e_353 : gI σ_s_352 a 32 = a320 := (hM9.i (by decide)).trans J_283_9
              have e_354 : gI σ_s_352 a 33 = a330 := (hM9.i (by decide)).trans J_283_10
              have e_355 : aF σ_s_352 (ad E a 1) = f1 := (hM9.a (by decide) (by decide)).trans J_283_11
              have e_356 : aF σ_s_352 (ad E a 2) = f2 := (hM9.a (by decide) (by decide)).trans J_283_12
              replace hO := hO9
              generalize ef_358 : aF σ_s_352 (ad E a 3) = g_357 at hw_351
              generalize ef_360 : aF σ_s_352 (ad E a 35) = g_359 at hw_351
              have hw_351 : blk F3q279 g_357 (gI σ_J_283 a 5) (gI σ_s_352 a 5) (mY f1 z_347) ∧ gI σ_s_352 a 5 - gI σ_J_283 a 5 ≤ 61 * mS f1 z_347 ∧ ofr F35q280 g_359 (60 * (dp + 1)) := hw_351
              refine lv_iinc (v := I (v7q282 + 1)) (lv' := [(7, .int (I (v7q282 + 1))), (8, .int (I z_347)), (0, .ref a), (1, .int (I i)), (2, .int (I is)), (3, .int (I dp)), (4, .int (I z_3)), (5, .int (I (60 * dp))), (6, .int (I w0q125))]) hx hb dX11_emitWithin_226 hl (k := 8) rfl (I_add _ _) (by decide) rfl (fun ls hl => ?_)
              refine lv_goto (tgt := 140) hx hb dX11_emitWithin_229 (by decide) ?_
              replace hl : lv_has ls 9 [(7, .int (I (v7q282 + 1))), (0, .ref a), (1, .int (I i)), (2, .int (I is)), (3, .int (I dp)), (4, .int (I z_3)), (5, .int (I (60 * dp))), (6, .int (I w0q125))] := lv_sub hl [0, 2, 3, 4, 5, 6, 7, 8] rfl
              obtain ⟨z_361, e_362, rz_361, lz_361, uz_361⟩ := hO.gi h_a (by decide) k13_5
              exact ihJ_283 (v7q282 + 1, z_361, g_357, g_359) σ_s_352 _ _ _ (by first | (dsimp only; omega) | omega) ⟨hO, hF, hM, hH, hS, lv_sub hl [1, 2, 3, 4, 5, 6, 7, 0] rfl, ⟨by first | (dsimp only; omega) | omega, by first | (dsimp only; omega) | omega⟩, rz_361, by first | (dsimp only; omega) | omega, by first | (dsimp only; omega) | omega, (by have h9 := hw_351.1; rw [show gI σ_J_283 a 5 = G5q281 by omega] at h9; exact (J_283_2.next1 ez_347 (by first | (dsimp only; omega) | omega) (by first | (dsimp only; omega) | omega) (by omega) hw_351.2.2 (by first | (dsimp only; omega) | omega) h9 rfl (by omega) (by omega)).cur (by omega)), (blk.tr0 J_283_3 hw_351.1 (by omega)), (J_283_4.same (fun q9 h8 h9 => hw_351.2.2 q9 (by omega) (by omega))), (J_283_5.tr hw_351.2.2 (by omega)), by first | (dsimp only; omega) | omega, by first | (dsimp only; omega) | omega, by first | (dsimp only; omega) | omega, e_353, e_354, e_355, e_356, ef_358, ef_360, e_362⟩
            · replace c_349 := (I_eq (a := a320) (b := 6) ra320 (show rng 6 from ⟨by decide, by decide⟩)).mp c_349
              refine lv_aload_n hx hb dX11_emitWithin_207 rfl (lv_at hl 1 rfl) ?_
              refine ok.getR hO h_a (by decide) k13_23 (by decide) (fun _ _ he hv kk => th_get (ci := 11) (C := RX11) (T := TX11) (N := 66) hx hb hts inX11 hown hK hH he rfl 23 (by decide) fl5 hv dX11_emitWithin_208 kk) ?_
              refine lv_iload hx hb dX11_emitWithin_211 (lv_at hl 0 rfl) ?_
              refine m_zald hx hb hK hH hO h_a k13_23 rz_347 (by omega) (by omega) dX11_emitWithin_213 (fun z_363 rz_363 uz_363 => ?_)
              refine lv_if_ne (tgt := 226) hx hb dX11_emitWithin_214 (by decide) (fun c_364 => ?_) (fun c_364 => ?_)
              · replace c_364 := mt (I_eq (a := z_363) (b := 0) rz_363 (show rng 0 from ⟨by decide, by decide⟩)).mpr c_364
                refine lv_iinc (v := I (v7q282 + 1)) (lv' := [(7, .int (I (v7q282 + 1))), (8, .int (I z_347)), (0, .ref a), (1, .int (I i)), (2, .int (I is)), (3, .int (I dp)), (4, .int (I z_3)), (5, .int (I (60 * dp))), (6, .int (I w0q125))]) hx hb dX11_emitWithin_226 hl (k := 8) rfl (I_add _ _) (by decide) rfl (fun ls hl => ?_)
                refine lv_goto (tgt := 140) hx hb dX11_emitWithin_229 (by decide) ?_
                replace hl : lv_has ls 9 [(7, .int (I (v7q282 + 1))), (0, .ref a), (1, .int (I i)), (2, .int (I is)), (3, .int (I dp)), (4, .int (I z_3)), (5, .int (I (60 * dp))), (6, .int (I w0q125))] := lv_sub hl [0, 2, 3, 4, 5, 6, 7, 8] rfl
                exact ihJ_283 (v7q282 + 1, G5q281, F3q279, F35q280) σ_J_283 _ _ _ (by first | (dsimp only; omega) | omega) ⟨hO, hF, hM, hH, hS, lv_sub hl [1, 2, 3, 4, 5, 6, 7, 0] rfl, ⟨by first | (dsimp only; omega) | omega, by first | (dsimp only; omega) | omega⟩, rG5q281, by first | (dsimp only; omega) | omega, by first | (dsimp only; omega) | omega, (J_283_2.next0 ez_347 (by first | (dsimp only; omega) | omega) (by first | (dsimp only; omega) | omega) (by omega)), J_283_3, J_283_4, J_283_5, by first | (dsimp only; omega) | omega, by first | (dsimp only; omega) | omega, by first | (dsimp only; omega) | omega, J_283_9, J_283_10, J_283_11, J_283_12, J_283_13, J_283_14, J_283_15⟩
              · replace c_364 := (I_eq (a := z_363) (b := 0) rz_363 (show rng 0 from ⟨by decide, by decide⟩)).mp c_364
                refine lv_aload_n hx hb dX11_emitWithin_217 rfl (lv_at hl 1 rfl) ?_
                refine lv_iload hx hb dX11_emitWithin_218 (lv_at hl 0 rfl) ?_
                refine lv_iload_n hx hb dX11_emitWithin_220 rfl (lv_at hl 4 rfl) ?_
                refine lv_iconst (v := I 1) hx hb dX11_emitWithin_221 (by decide) ?_
                refine lv_iadd hx hb dX11_emitWithin_222 ?_
                refine nq_top (I_add _ _) ?_
                obtain ⟨_, hc_365⟩ := hO.cell h_a (by decide) (ci := 11) rfl
                refine th_callv (va_runV (As := [.int (I z_347), .int (I (dp + 1))]) (rest := []) ⟨hx, hb, hml, hown, hts⟩ (ih l G y b0 σ_J_283 E hO a h_a z_347 (show rng z_347 from rz_347) (by omega) (by omega) (dp + 1) (show rng (dp + 1) from ⟨by omega, by omega⟩) (by omega) (by omega) f1 J_283_11 f2 J_283_12 F3q279 J_283_13 F35q280 J_283_14 (hy0) (by omega) (hy2) ((by rw [show gI σ_J_283 a 32 = gI σ a 32 by omega]; exact hy3)) (by omega) ((by omega)) (by omega) (by omega)) (cwV 2 hts gX11_emitWithin_X11_emit rfl rfl rfl (by decide +kernel) ⟨(by first | (simp only [headSpec]; omega) | omega | (dsimp only; omega)), (by first | (simp only [headSpec]; omega) | omega | (dsimp only; omega))⟩) (th_PV hK hH rfl hc_365) rfl rfl hl.1 rfl (lv_room (Nat.le_of_ble_eq_true rfl)) dX11_emitWithin_223 ⟨(by first | (simp only [headSpec]; omega) | omega | (dsimp only; omega)), (by first | (simp only [headSpec]; omega) | omega | (dsimp only; omega))⟩) hS (fun σ_s_367 H locs hw_366 hH hS => ?_)
                obtain ⟨hO9, hF9, hM9, hw_366⟩ := hw_366
                replace hM := hM.tu hM9 (by decide)
                replace hF := hF.tu hF9 (by decide)
                have e_368 : gI σ_s_367 a 32 = a320 := (hM9.i (by decide)).trans J_283_9
                have e_369 : gI σ_s_367 a 33 = a330 := (hM9.i (by decide)).trans J_283_10
                have e_370 : aF σ_s_367 (ad E a 1) = f1 := (hM9.a (by decide) (by decide)).trans J_283_11
                have e_371 : aF σ_s_367 (ad E a 2) = f2 := (hM9.a (by decide) (by decide)).trans J_283_12
                replace hO := hO9
                generalize ef_373 : aF σ_s_367 (ad E a 3) = g_372 at hw_366
                generalize ef_375 : aF σ_s_367 (ad E a 35) = g_374 at hw_366
                have hw_366 : blk F3q279 g_372 (gI σ_J_283 a 5) (gI σ_s_367 a 5) (mY f1 z_347) ∧ gI σ_s_367 a 5 - gI σ_J_283 a 5 ≤ 61 * mS f1 z_347 ∧ ofr F35q280 g_374 (60 * (dp + 1)) := hw_366
                refine lv_iinc (v := I (v7q282 + 1)) (lv' := [(7, .int (I (v7q282 + 1))), (8, .int (I z_347)), (0, .ref a), (1, .int (I i)), (2, .int (I is)), (3, .int (I dp)), (4, .int (I z_3)), (5, .int (I (60 * dp))), (6, .int (I w0q125))]) hx hb dX11_emitWithin_226 hl (k := 8) rfl (I_add _ _) (by decide) rfl (fun ls hl => ?_)
                refine lv_goto (tgt := 140) hx hb dX11_emitWithin_229 (by decide) ?_
                replace hl : lv_has ls 9 [(7, .int (I (v7q282 + 1))), (0, .ref a), (1, .int (I i)), (2, .int (I is)), (3, .int (I dp)), (4, .int (I z_3)), (5, .int (I (60 * dp))), (6, .int (I w0q125))] := lv_sub hl [0, 2, 3, 4, 5, 6, 7, 8] rfl
                obtain ⟨z_376, e_377, rz_376, lz_376, uz_376⟩ := hO.gi h_a (by decide) k13_5
                exact ihJ_283 (v7q282 + 1, z_376, g_372, g_374) σ_s_367 _ _ _ (by first | (dsimp only; omega) | omega) ⟨hO, hF, hM, hH, hS, lv_sub hl [1, 2, 3, 4, 5, 6, 7, 0] rfl, ⟨by first | (dsimp only; omega) | omega, by first | (dsimp only; omega) | omega⟩, rz_376, by first | (dsimp only; omega) | omega, by first | (dsimp only; omega) | omega, (by have h9 := hw_366.1; rw [show gI σ_J_283 a 5 = G5q281 by omega] at h9; exact (J_283_2.next1 ez_347 (by first | (dsimp only; omega) | omega) (by first | (dsimp only; omega) | omega) (by omega) hw_366.2.2 (by first | (dsimp only; omega) | omega) h9 rfl (by omega) (by omega)).cur (by omega)), (blk.tr0 J_283_3 hw_366.1 (by omega)), (J_283_4.same (fun q9 h8 h9 => hw_366.2.2 q9 (by omega) (by omega))), (J_283_5.tr hw_366.2.2 (by omega)), by first | (dsimp only; omega) | omega, by first | (dsimp only; omega) | omega, by first | (dsimp only; omega) | omega, e_368, e_369, e_370, e_371, ef_373, ef_375, e_377⟩
          · replace c_348 := mt (I_eq (a := w0q125) (b := 0) rw0q125 (show rng 0 from ⟨by decide, by decide⟩)).mpr c_348
            refine lv_aload_n hx hb dX11_emitWithin_164 rfl (lv_at hl 1 rfl) ?_
            refine ok.getR hO h_a (by decide) k13_1 (by decide) (fun _ _ he hv kk => th_get (ci := 11) (C := RX11) (T := TX11) (N := 66) hx hb hts inX11 hown hK hH he rfl 1 (by decide) fl0 hv dX11_emitWithin_165 kk) ?_
            refine lv_iconst (v := I 4) hx hb dX11_emitWithin_168 (by decide) ?_
            refine lv_iload hx hb dX11_emitWithin_169 (lv_at hl 0 rfl) ?_
            refine lv_imul hx hb dX11_emitWithin_171 ?_
            refine nq_top (I_mul _ _) ?_
            refine lv_iconst (v := I 2) hx hb dX11_emitWithin_172 (by decide) ?_
            refine lv_iadd hx hb dX11_emitWithin_173 ?_
            refine th_addo (fun z_378 rz_378 hz_378 => ?_)
            refine m_iald hx hb hK hH hO h_a k13_1 isA1 J_283_11 rz_378 (by omega) (by omega) dX11_emitWithin_174 (fun z_379 ez_379 rz_379 elx9 => ?_)
            refine lv_aload_n hx hb dX11_emitWithin_175 rfl (lv_at hl 1 rfl) ?_
            refine ok.getIc hO h_a (by decide) k13_33 J_283_10 (fun _ _ he hv kk => th_get (ci := 11) (C := RX11) (T := TX11) (N := 66) hx hb hts inX11 hown hK hH he rfl 33 (by decide) fl1 hv dX11_emitWithin_176 kk) ?_
            refine lv_icmp_ne (tgt := 198) hx hb dX11_emitWithin_179 (by decide) (fun c_380 => ?_) (fun c_380 => ?_)
            · replace c_380 := mt (I_eq (a := z_379) (b := a330) rz_379 ra330).mpr c_380
              refine lv_aload_n hx hb dX11_emitWithin_198 rfl (lv_at hl 1 rfl) ?_
              refine ok.getIc hO h_a (by decide) k13_32 J_283_9 (fun _ _ he hv kk => th_get (ci := 11) (C := RX11) (T := TX11) (N := 66) hx hb hts inX11 hown hK hH he rfl 32 (by decide) fl3 hv dX11_emitWithin_199 kk) ?_
              refine lv_bipush (v := I 6) hx hb dX11_emitWithin_202 (by decide) ?_
              refine lv_icmp_ne (tgt := 217) hx hb dX11_emitWithin_204 (by decide) (fun c_381 => ?_) (fun c_381 => ?_)
              · replace c_381 := mt (I_eq (a := a320) (b := 6) ra320 (show rng 6 from ⟨by decide, by decide⟩)).mpr c_381
                refine lv_aload_n hx hb dX11_emitWithin_217 rfl (lv_at hl 1 rfl) ?_
                refine lv_iload hx hb dX11_emitWithin_218 (lv_at hl 0 rfl) ?_
                refine lv_iload_n hx hb dX11_emitWithin_220 rfl (lv_at hl 4 rfl) ?_
                refine lv_iconst (v := I 1) hx hb dX11_emitWithin_221 (by decide) ?_
                refine lv_iadd hx hb dX11_emitWithin_222 ?_
                refine nq_top (I_add _ _) ?_
                obtain ⟨_, hc_382⟩ := hO.cell h_a (by decide) (ci := 11) rfl
                refine th_callv (va_runV (As := [.int (I z_347), .int (I (dp + 1))]) (rest := []) ⟨hx, hb, hml, hown, hts⟩ (ih l G y b0 σ_J_283 E hO a h_a z_347 (show rng z_347 from rz_347) (by omega) (by omega) (dp + 1) (show rng (dp + 1) from ⟨by omega, by omega⟩) (by omega) (by omega) f1 J_283_11 f2 J_283_12 F3q279 J_283_13 F35q280 J_283_14 (hy0) (by omega) (hy2) ((by rw [show gI σ_J_283 a 32 = gI σ a 32 by omega]; exact hy3)) (by omega) ((by omega)) (by omega) (by omega)) (cwV 2 hts gX11_emitWithin_X11_emit rfl rfl rfl (by decide +kernel) ⟨(by first | (simp only [headSpec]; omega) | omega | (dsimp only; omega)), (by first | (simp only [headSpec]; omega) | omega | (dsimp only; omega))⟩) (th_PV hK hH rfl hc_382) rfl rfl hl.1 rfl (lv_room (Nat.le_of_ble_eq_true rfl)) dX11_emitWithin_223 ⟨(by first | (simp only [headSpec]; omega) | omega | (dsimp only; omega)), (by first | (simp only [headSpec]; omega) | omega | (dsimp only; omega))⟩) hS (fun σ_s_384 H locs hw_383 hH hS => ?_)
                obtain ⟨hO9, hF9, hM9, hw_383⟩ := hw_383
                replace hM := hM.tu hM9 (by decide)
                replace hF := hF.tu hF9 (by decide)
                have e_385 : gI σ_s_384 a 32 = a320 := (hM9.i (by decide)).trans J_283_9
                have e_386 : gI σ_s_384 a 33 = a330 := (hM9.i (by decide)).trans J_283_10
                have e_387 : aF σ_s_384 (ad E a 1) = f1 := (hM9.a (by decide) (by decide)).trans J_283_11
                have e_388 : aF σ_s_384 (ad E a 2) = f2 := (hM9.a (by decide) (by decide)).trans J_283_12
                replace hO := hO9
                generalize ef_390 : aF σ_s_384 (ad E a 3) = g_389 at hw_383
                generalize ef_392 : aF σ_s_384 (ad E a 35) = g_391 at hw_383
                have hw_383 : blk F3q279 g_389 (gI σ_J_283 a 5) (gI σ_s_384 a 5) (mY f1 z_347) ∧ gI σ_s_384 a 5 - gI σ_J_283 a 5 ≤ 61 * mS f1 z_347 ∧ ofr F35q280 g_391 (60 * (dp + 1)) := hw_383
                refine lv_iinc (v := I (v7q282 + 1)) (lv' := [(7, .int (I (v7q282 + 1))), (8, .int (I z_347)), (0, .ref a), (1, .int (I i)), (2, .int (I is)), (3, .int (I dp)), (4, .int (I z_3)), (5, .int (I (60 * dp))), (6, .int (I w0q125))]) hx hb dX11_emitWithin_226 hl (k := 8) rfl (I_add _ _) (by decide) rfl (fun ls hl => ?_)
                refine lv_goto (tgt := 140) hx hb dX11_emitWithin_229 (by decide) ?_
                replace hl : lv_has ls 9 [(7, .int (I (v7q282 + 1))), (0, .ref a), (1, .int (I i)), (2, .int (I is)), (3, .int (I dp)), (4, .int (I z_3)), (5, .int (I (60 * dp))), (6, .int (I w0q125))] := lv_sub hl [0, 2, 3, 4, 5, 6, 7, 8] rfl
                obtain ⟨z_393, e_394, rz_393, lz_393, uz_393⟩ := hO.gi h_a (by decide) k13_5
                exact ihJ_283 (v7q282 + 1, z_393, g_389, g_391) σ_s_384 _ _ _ (by first | (dsimp only; omega) | omega) ⟨hO, hF, hM, hH, hS, lv_sub hl [1, 2, 3, 4, 5, 6, 7, 0] rfl, ⟨by first | (dsimp only; omega) | omega, by first | (dsimp only; omega) | omega⟩, rz_393, by first | (dsimp only; omega) | omega, by first | (dsimp only; omega) | omega, (by have h9 := hw_383.1; rw [show gI σ_J_283 a 5 = G5q281 by omega] at h9; exact (J_283_2.next1 ez_347 (by first | (dsimp only; omega) | omega) (by first | (dsimp only; omega) | omega) (by omega) hw_383.2.2 (by first | (dsimp only; omega) | omega) h9 rfl (by omega) (by omega)).cur (by omega)), (blk.tr0 J_283_3 hw_383.1 (by omega)), (J_283_4.same (fun q9 h8 h9 => hw_383.2.2 q9 (by omega) (by omega))), (J_283_5.tr hw_383.2.2 (by omega)), by first | (dsimp only; omega) | omega, by first | (dsimp only; omega) | omega, by first | (dsimp only; omega) | omega, e_385, e_386, e_387, e_388, ef_390, ef_392, e_394⟩
              · replace c_381 := (I_eq (a := a320) (b := 6) ra320 (show rng 6 from ⟨by decide, by decide⟩)).mp c_381
                refine lv_aload_n hx hb dX11_emitWithin_207 rfl (lv_at hl 1 rfl) ?_
                refine ok.getR hO h_a (by decide) k13_23 (by decide) (fun _ _ he hv kk => th_get (ci := 11) (C := RX11) (T := TX11) (N := 66) hx hb hts inX11 hown hK hH he rfl 23 (by decide) fl5 hv dX11_emitWithin_208 kk) ?_
                refine lv_iload hx hb dX11_emitWithin_211 (lv_at hl 0 rfl) ?_
                refine m_zald hx hb hK hH hO h_a k13_23 rz_347 (by omega) (by omega) dX11_emitWithin_213 (fun z_395 rz_395 uz_395 => ?_)
                refine lv_if_ne (tgt := 226) hx hb dX11_emitWithin_214 (by decide) (fun c_396 => ?_) (fun c_396 => ?_)
                · replace c_396 := mt (I_eq (a := z_395) (b := 0) rz_395 (show rng 0 from ⟨by decide, by decide⟩)).mpr c_396
                  refine lv_iinc (v := I (v7q282 + 1)) (lv' := [(7, .int (I (v7q282 + 1))), (8, .int (I z_347)), (0, .ref a), (1, .int (I i)), (2, .int (I is)), (3, .int (I dp)), (4, .int (I z_3)), (5, .int (I (60 * dp))), (6, .int (I w0q125))]) hx hb dX11_emitWithin_226 hl (k := 8) rfl (I_add _ _) (by decide) rfl (fun ls hl => ?_)
                  refine lv_goto (tgt := 140) hx hb dX11_emitWithin_229 (by decide) ?_
                  replace hl : lv_has ls 9 [(7, .int (I (v7q282 + 1))), (0, .ref a), (1, .int (I i)), (2, .int (I is)), (3, .int (I dp)), (4, .int (I z_3)), (5, .int (I (60 * dp))), (6, .int (I w0q125))] := lv_sub hl [0, 2, 3, 4, 5, 6, 7, 8] rfl
                  exact ihJ_283 (v7q282 + 1, G5q281, F3q279, F35q280) σ_J_283 _ _ _ (by first | (dsimp only; omega) | omega) ⟨hO, hF, hM, hH, hS, lv_sub hl [1, 2, 3, 4, 5, 6, 7, 0] rfl, ⟨by first | (dsimp only; omega) | omega, by first | (dsimp only; omega) | omega⟩, rG5q281, by first | (dsimp only; omega) | omega, by first | (dsimp only; omega) | omega, (J_283_2.next0 ez_347 (by first | (dsimp only; omega) | omega) (by first | (dsimp only; omega) | omega) (by omega)), J_283_3, J_283_4, J_283_5, by first | (dsimp only; omega) | omega, by first | (dsimp only; omega) | omega, by first | (dsimp only; omega) | omega, J_283_9, J_283_10, J_283_11, J_283_12, J_283_13, J_283_14, J_283_15⟩
                · replace c_396 := (I_eq (a := z_395) (b := 0) rz_395 (show rng 0 from ⟨by decide, by decide⟩)).mp c_396
                  refine lv_aload_n hx hb dX11_emitWithin_217 rfl (lv_at hl 1 rfl) ?_
                  refine lv_iload hx hb dX11_emitWithin_218 (lv_at hl 0 rfl) ?_
                  refine lv_iload_n hx hb dX11_emitWithin_220 rfl (lv_at hl 4 rfl) ?_
                  refine lv_iconst (v := I 1) hx hb dX11_emitWithin_221 (by decide) ?_
                  refine lv_iadd hx hb dX11_emitWithin_222 ?_
                  refine nq_top (I_add _ _) ?_
                  obtain ⟨_, hc_397⟩ := hO.cell h_a (by decide) (ci := 11) rfl
                  refine th_callv (va_runV (As := [.int (I z_347), .int (I (dp + 1))]) (rest := []) ⟨hx, hb, hml, hown, hts⟩ (ih l G y b0 σ_J_283 E hO a h_a z_347 (show rng z_347 from rz_347) (by omega) (by omega) (dp + 1) (show rng (dp + 1) from ⟨by omega, by omega⟩) (by omega) (by omega) f1 J_283_11 f2 J_283_12 F3q279 J_283_13 F35q280 J_283_14 (hy0) (by omega) (hy2) ((by rw [show gI σ_J_283 a 32 = gI σ a 32 by omega]; exact hy3)) (by omega) ((by omega)) (by omega) (by omega)) (cwV 2 hts gX11_emitWithin_X11_emit rfl rfl rfl (by decide +kernel) ⟨(by first | (simp only [headSpec]; omega) | omega | (dsimp only; omega)), (by first | (simp only [headSpec]; omega) | omega | (dsimp only; omega))⟩) (th_PV hK hH rfl hc_397) rfl rfl hl.1 rfl (lv_room (Nat.le_of_ble_eq_true rfl)) dX11_emitWithin_223 ⟨(by first | (simp only [headSpec]; omega) | omega | (dsimp only; omega)), (by first | (simp only [headSpec]; omega) | omega | (dsimp only; omega))⟩) hS (fun σ_s_399 H locs hw_398 hH hS => ?_)
                  obtain ⟨hO9, hF9, hM9, hw_398⟩ := hw_398
                  replace hM := hM.tu hM9 (by decide)
                  replace hF := hF.tu hF9 (by decide)
                  have e_400 : gI σ_s_399 a 32 = a320 := (hM9.i (by decide)).trans J_283_9
                  have e_401 : gI σ_s_399 a 33 = a330 := (hM9.i (by decide)).trans J_283_10
                  have e_402 : aF σ_s_399 (ad E a 1) = f1 := (hM9.a (by decide) (by decide)).trans J_283_11
                  have e_403 : aF σ_s_399 (ad E a 2) = f2 := (hM9.a (by decide) (by decide)).trans J_283_12
                  replace hO := hO9
                  generalize ef_405 : aF σ_s_399 (ad E a 3) = g_404 at hw_398
                  generalize ef_407 : aF σ_s_399 (ad E a 35) = g_406 at hw_398
                  have hw_398 : blk F3q279 g_404 (gI σ_J_283 a 5) (gI σ_s_399 a 5) (mY f1 z_347) ∧ gI σ_s_399 a 5 - gI σ_J_283 a 5 ≤ 61 * mS f1 z_347 ∧ ofr F35q280 g_406 (60 * (dp + 1)) := hw_398
                  refine lv_iinc (v := I (v7q282 + 1)) (lv' := [(7, .int (I (v7q282 + 1))), (8, .int (I z_347)), (0, .ref a), (1, .int (I i)), (2, .int (I is)), (3, .int (I dp)), (4, .int (I z_3)), (5, .int (I (60 * dp))), (6, .int (I w0q125))]) hx hb dX11_emitWithin_226 hl (k := 8) rfl (I_add _ _) (by decide) rfl (fun ls hl => ?_)
                  refine lv_goto (tgt := 140) hx hb dX11_emitWithin_229 (by decide) ?_
                  replace hl : lv_has ls 9 [(7, .int (I (v7q282 + 1))), (0, .ref a), (1, .int (I i)), (2, .int (I is)), (3, .int (I dp)), (4, .int (I z_3)), (5, .int (I (60 * dp))), (6, .int (I w0q125))] := lv_sub hl [0, 2, 3, 4, 5, 6, 7, 8] rfl
                  obtain ⟨z_408, e_409, rz_408, lz_408, uz_408⟩ := hO.gi h_a (by decide) k13_5
                  exact ihJ_283 (v7q282 + 1, z_408, g_404, g_406) σ_s_399 _ _ _ (by first | (dsimp only; omega) | omega) ⟨hO, hF, hM, hH, hS, lv_sub hl [1, 2, 3, 4, 5, 6, 7, 0] rfl, ⟨by first | (dsimp only; omega) | omega, by first | (dsimp only; omega) | omega⟩, rz_408, by first | (dsimp only; omega) | omega, by first | (dsimp only; omega) | omega, (by have h9 := hw_398.1; rw [show gI σ_J_283 a 5 = G5q281 by omega] at h9; exact (J_283_2.next1 ez_347 (by first | (dsimp only; omega) | omega) (by first | (dsimp only; omega) | omega) (by omega) hw_398.2.2 (by first | (dsimp only; omega) | omega) h9 rfl (by omega) (by omega)).cur (by omega)), (blk.tr0 J_283_3 hw_398.1 (by omega)), (J_283_4.same (fun q9 h8 h9 => hw_398.2.2 q9 (by omega) (by omega))), (J_283_5.tr hw_398.2.2 (by omega)), by first | (dsimp only; omega) | omega, by first | (dsimp only; omega) | omega, by first | (dsimp only; omega) | omega, e_400, e_401, e_402, e_403, ef_405, ef_407, e_409⟩
            · replace c_380 := (I_eq (a := z_379) (b := a330) rz_379 ra330).mp c_380
              have ht9 := (hy3 (by omega)).2
              refine lv_aload_n hx hb dX11_emitWithin_182 rfl (lv_at hl 1 rfl) ?_
              refine lv_aload_n hx hb dX11_emitWithin_183 rfl (lv_at hl 1 rfl) ?_
              refine ok.getR hO h_a (by decide) k13_2 (by decide) (fun _ _ he hv kk => th_get (ci := 11) (C := RX11) (T := TX11) (N := 66) hx hb hts inX11 hown hK hH he rfl 2 (by decide) fl2 hv dX11_emitWithin_184 kk) ?_
              refine lv_iconst (v := I 0) hx hb dX11_emitWithin_187 (by decide) ?_
              refine lv_aload_n hx hb dX11_emitWithin_188 rfl (lv_at hl 1 rfl) ?_
              refine ok.getIc hO h_a (by decide) k13_33 J_283_10 (fun _ _ he hv kk => th_get (ci := 11) (C := RX11) (T := TX11) (N := 66) hx hb hts inX11 hown hK hH he rfl 33 (by decide) fl1 hv dX11_emitWithin_189 kk) ?_
              obtain ⟨_, hc_410⟩ := hO.cell h_a (by decide) (ci := 11) rfl
              refine th_callv (va_runV (As := [.ref (ad E a 2), .int (I 0), .int (I a330)]) (rest := []) ⟨hx, hb, hml, hown, hts⟩ (m_copyWith2 l G y b0 σ_J_283 E hO a h_a 0 (show rng 0 from (show rng 0 from ⟨by decide, by decide⟩)) (by omega) (by omega) a330 (show rng a330 from ra330) f2 J_283_12 F3q279 J_283_13 ((hy3 (by omega))) (by omega) (by omega)) (cwV 3 hts gX11_emitWithin_X11_copyWith rfl rfl rfl (by decide +kernel) ⟨(by first | (simp only [headSpec]; omega) | omega | (dsimp only; omega)), (by first | (simp only [headSpec]; omega) | omega | (dsimp only; omega))⟩) (th_PV hK hH rfl hc_410) rfl rfl hl.1 rfl (lv_room (Nat.le_of_ble_eq_true rfl)) dX11_emitWithin_192 ⟨(by first | (simp only [headSpec]; omega) | omega | (dsimp only; omega)), (by first | (simp only [headSpec]; omega) | omega | (dsimp only; omega))⟩) hS (fun σ_s_412 H locs hw_411 hH hS => ?_)
              obtain ⟨hO9, hF9, hM9, hw_411⟩ := hw_411
              replace hM := hM.tu hM9 (by decide)
              replace hF := hF.tu hF9 (by decide)
              have e_413 : gI σ_s_412 a 32 = a320 := (hM9.i (by decide)).trans J_283_9
              have e_414 : gI σ_s_412 a 33 = a330 := (hM9.i (by decide)).trans J_283_10
              have e_415 : aF σ_s_412 (ad E a 1) = f1 := (hM9.a (by decide) (by decide)).trans J_283_11
              have e_416 : aF σ_s_412 (ad E a 2) = f2 := (hM9.a (by decide) (by decide)).trans J_283_12
              have e_417 : aF σ_s_412 (ad E a 35) = F35q280 := (hM9.a (by decide) (by decide)).trans J_283_14
              replace hO := hO9
              generalize ef_419 : aF σ_s_412 (ad E a 3) = g_418 at hw_411
              have hw_411 : blk F3q279 g_418 (gI σ_J_283 a 5) (gI σ_J_283 a 5 + mS f2 0) a330 ∧ mS g_418 (gI σ_J_283 a 5) = mS f2 0 ∧ gI σ_s_412 a 5 = gI σ_J_283 a 5 + mS f2 0 := hw_411
              refine lv_goto (tgt := 226) hx hb dX11_emitWithin_195 (by decide) ?_
              refine lv_iinc (v := I (v7q282 + 1)) (lv' := [(7, .int (I (v7q282 + 1))), (8, .int (I z_347)), (0, .ref a), (1, .int (I i)), (2, .int (I is)), (3, .int (I dp)), (4, .int (I z_3)), (5, .int (I (60 * dp))), (6, .int (I w0q125))]) hx hb dX11_emitWithin_226 hl (k := 8) rfl (I_add _ _) (by decide) rfl (fun ls hl => ?_)
              refine lv_goto (tgt := 140) hx hb dX11_emitWithin_229 (by decide) ?_
              replace hl : lv_has ls 9 [(7, .int (I (v7q282 + 1))), (0, .ref a), (1, .int (I i)), (2, .int (I is)), (3, .int (I dp)), (4, .int (I z_3)), (5, .int (I (60 * dp))), (6, .int (I w0q125))] := lv_sub hl [0, 2, 3, 4, 5, 6, 7, 8] rfl
              obtain ⟨z_420, e_421, rz_420, lz_420, uz_420⟩ := hO.gi h_a (by decide) k13_5
              exact ihJ_283 (v7q282 + 1, z_420, g_418, F35q280) σ_s_412 _ _ _ (by first | (dsimp only; omega) | omega) ⟨hO, hF, hM, hH, hS, lv_sub hl [1, 2, 3, 4, 5, 6, 7, 0] rfl, ⟨by first | (dsimp only; omega) | omega, by first | (dsimp only; omega) | omega⟩, rz_420, by first | (dsimp only; omega) | omega, by first | (dsimp only; omega) | omega, (by have h9 := hw_411.1; rw [show gI σ_J_283 a 5 = G5q281 by omega] at h9; exact (J_283_2.next1 ez_347 (by first | (dsimp only; omega) | omega) (by first | (dsimp only; omega) | omega) (by omega) ofr.rf (c := 60 * dp + 60) (by first | (dsimp only; omega) | omega) h9 (show a330 = mY f1 z_347 by have h8 : mY f1 z_347 = z_379 := ez_379; omega) (by omega) (by omega)).cur (by omega)), (blk.tr0 J_283_3 hw_411.1 (by omega)), J_283_4, J_283_5, by first | (dsimp only; omega) | omega, by first | (dsimp only; omega) | omega, by first | (dsimp only; omega) | omega, e_413, e_414, e_415, e_416, ef_419, e_417, e_421⟩
      · refine lv_if_eq (tgt := 134) hx hb dX11_emitWithin_107 (by decide) (fun c_422 => ?_) (fun c_422 => ?_)
        · replace c_422 := (I_eq (a := is) (b := 0) ris (show rng 0 from ⟨by decide, by decide⟩)).mp c_422
          refine lv_iconst (v := I 0) hx hb dX11_emitWithin_134 (by decide) ?_
          exact jK_126 (0) σ_K_118 _ _ _ ⟨rfl, hH, hS, lv_sub hl [0, 1, 2, 3, 4, 5] rfl, (show rng 0 from ⟨by decide, by decide⟩), by first | (dsimp only; omega) | omega, by first | (dsimp only; omega) | omega⟩
        · replace c_422 := mt (I_eq (a := is) (b := 0) ris (show rng 0 from ⟨by decide, by decide⟩)).mpr c_422
          refine lv_aload_n hx hb dX11_emitWithin_110 rfl (lv_at hl 0 rfl) ?_
          refine ok.getIc hO h_a (by decide) k13_32 K_118_3 (fun _ _ he hv kk => th_get (ci := 11) (C := RX11) (T := TX11) (N := 66) hx hb hts inX11 hown hK hH he rfl 32 (by decide) fl3 hv dX11_emitWithin_111 kk) ?_
          refine lv_iconst (v := I 2) hx hb dX11_emitWithin_114 (by decide) ?_
          refine lv_icmp_ne (tgt := 134) hx hb dX11_emitWithin_115 (by decide) (fun c_423 => ?_) (fun c_423 => ?_)
          · replace c_423 := mt (I_eq (a := a320) (b := 2) ra320 (show rng 2 from ⟨by decide, by decide⟩)).mpr c_423
            refine lv_iconst (v := I 0) hx hb dX11_emitWithin_134 (by decide) ?_
            exact jK_126 (0) σ_K_118 _ _ _ ⟨rfl, hH, hS, lv_sub hl [0, 1, 2, 3, 4, 5] rfl, (show rng 0 from ⟨by decide, by decide⟩), by first | (dsimp only; omega) | omega, by first | (dsimp only; omega) | omega⟩
          · replace c_423 := (I_eq (a := a320) (b := 2) ra320 (show rng 2 from ⟨by decide, by decide⟩)).mp c_423
            refine lv_aload_n hx hb dX11_emitWithin_118 rfl (lv_at hl 0 rfl) ?_
            refine ok.getR hO h_a (by decide) k13_1 (by decide) (fun _ _ he hv kk => th_get (ci := 11) (C := RX11) (T := TX11) (N := 66) hx hb hts inX11 hown hK hH he rfl 1 (by decide) fl0 hv dX11_emitWithin_119 kk) ?_
            refine lv_iload_n hx hb dX11_emitWithin_122 rfl (lv_at hl 1 rfl) ?_
            refine th_calli (va_runS (As := [.ref (ad E a 1), .int (I i)]) (rest := []) ⟨hx, hb, hml, hown, hts⟩ (w_kind l G y b0 σ_K_118 E hO (ad E a 1) 240 f1 (hO.roww h_a k13_1 isA1 K_118_5 rfl) i (show rng i from ri) (by omega) (by omega) (by omega)) (va_cwS 2 hts gX11_emitWithin_X11_kind rfl rfl rfl (by decide +kernel) ⟨(by first | (simp only [headSpec]; omega) | omega | (dsimp only; omega)), (by first | (simp only [headSpec]; omega) | omega | (dsimp only; omega))⟩) (th_PS hK hH) rfl rfl hl.1 rfl (lv_room (Nat.le_of_ble_eq_true rfl)) dX11_emitWithin_123 ⟨(by first | (simp only [headSpec]; omega) | omega | (dsimp only; omega)), (by first | (simp only [headSpec]; omega) | omega | (dsimp only; omega))⟩) hS (fun z_426 σ_s_425 H locs rz_426 hw_424 hH hS => ?_)
            obtain ⟨e9, hw_424⟩ := hw_424
            replace e9 := e9.symm
            subst e9
            have hw_424 : z_426 = mK f1 i := hw_424
            refine lv_iconst (v := I 3) hx hb dX11_emitWithin_126 (by decide) ?_
            refine lv_icmp_ne (tgt := 134) hx hb dX11_emitWithin_127 (by decide) (fun c_427 => ?_) (fun c_427 => ?_)
            · replace c_427 := mt (I_eq (a := z_426) (b := 3) rz_426 (show rng 3 from ⟨by decide, by decide⟩)).mpr c_427
              refine lv_iconst (v := I 0) hx hb dX11_emitWithin_134 (by decide) ?_
              exact jK_126 (0) σ_K_118 _ _ _ ⟨rfl, hH, hS, lv_sub hl [0, 1, 2, 3, 4, 5] rfl, (show rng 0 from ⟨by decide, by decide⟩), by first | (dsimp only; omega) | omega, by first | (dsimp only; omega) | omega⟩
            · replace c_427 := (I_eq (a := z_426) (b := 3) rz_426 (show rng 3 from ⟨by decide, by decide⟩)).mp c_427
              refine lv_iconst (v := I 1) hx hb dX11_emitWithin_130 (by decide) ?_
              refine lv_goto (tgt := 135) hx hb dX11_emitWithin_131 (by decide) ?_
              exact jK_126 (1) σ_K_118 _ _ _ ⟨rfl, hH, hS, lv_sub hl [0, 1, 2, 3, 4, 5] rfl, (show rng 1 from ⟨by decide, by decide⟩), by first | (dsimp only; omega) | omega, by first | (dsimp only; omega) | omega⟩
    · refine lv_if_eq (tgt := 106) hx hb dX11_emitWithin_75 (by decide) (fun c_428 => ?_) (fun c_428 => ?_)
      · replace c_428 := (I_eq (a := is) (b := 0) ris (show rng 0 from ⟨by decide, by decide⟩)).mp c_428
        replace hl : lv_has ls 9 [(0, .ref a), (1, .int (I i)), (2, .int (I is)), (3, .int (I dp)), (4, .int (I z_3)), (5, .int (I (60 * dp)))] := lv_sub hl [0, 1, 2, 3, 4, 5] rfl
        exact jK_118 (F35q92) σ_J_94 _ _ _ ⟨hO, hF, hM, hH, hS, lv_sub hl [0, 1, 2, 3, 4, 5] rfl, hpm_96, J_94_3, J_94_4, J_94_5, J_94_6, J_94_7, J_94_8, J_94_9, J_94_10⟩
      · replace c_428 := mt (I_eq (a := is) (b := 0) ris (show rng 0 from ⟨by decide, by decide⟩)).mpr c_428
        refine lv_aload_n hx hb dX11_emitWithin_78 rfl (lv_at hl 0 rfl) ?_
        refine ok.getIc hO h_a (by decide) k13_32 J_94_5 (fun _ _ he hv kk => th_get (ci := 11) (C := RX11) (T := TX11) (N := 66) hx hb hts inX11 hown hK hH he rfl 32 (by decide) fl3 hv dX11_emitWithin_79 kk) ?_
        refine lv_iconst (v := I 5) hx hb dX11_emitWithin_82 (by decide) ?_
        refine lv_icmp_ne (tgt := 106) hx hb dX11_emitWithin_83 (by decide) (fun c_429 => ?_) (fun c_429 => ?_)
        · replace c_429 := mt (I_eq (a := a320) (b := 5) ra320 (show rng 5 from ⟨by decide, by decide⟩)).mpr c_429
          replace hl : lv_has ls 9 [(0, .ref a), (1, .int (I i)), (2, .int (I is)), (3, .int (I dp)), (4, .int (I z_3)), (5, .int (I (60 * dp)))] := lv_sub hl [0, 1, 2, 3, 4, 5] rfl
          exact jK_118 (F35q92) σ_J_94 _ _ _ ⟨hO, hF, hM, hH, hS, lv_sub hl [0, 1, 2, 3, 4, 5] rfl, hpm_96, J_94_3, J_94_4, J_94_5, J_94_6, J_94_7, J_94_8, J_94_9, J_94_10⟩
        · replace c_429 := (I_eq (a := a320) (b := 5) ra320 (show rng 5 from ⟨by decide, by decide⟩)).mp c_429
          refine lv_aload_n hx hb dX11_emitWithin_86 rfl (lv_at hl 0 rfl) ?_
          refine ok.getR hO h_a (by decide) k13_1 (by decide) (fun _ _ he hv kk => th_get (ci := 11) (C := RX11) (T := TX11) (N := 66) hx hb hts inX11 hown hK hH he rfl 1 (by decide) fl0 hv dX11_emitWithin_87 kk) ?_
          refine lv_iload_n hx hb dX11_emitWithin_90 rfl (lv_at hl 1 rfl) ?_
          refine th_calli (va_runS (As := [.ref (ad E a 1), .int (I i)]) (rest := []) ⟨hx, hb, hml, hown, hts⟩ (w_kind l G y b0 σ_J_94 E hO (ad E a 1) 240 f1 (hO.roww h_a k13_1 isA1 J_94_7 rfl) i (show rng i from ri) (by omega) (by omega) (by omega)) (va_cwS 2 hts gX11_emitWithin_X11_kind rfl rfl rfl (by decide +kernel) ⟨(by first | (simp only [headSpec]; omega) | omega | (dsimp only; omega)), (by first | (simp only [headSpec]; omega) | omega | (dsimp only; omega))⟩) (th_PS hK hH) rfl rfl hl.1 rfl (lv_room (Nat.le_of_ble_eq_true rfl)) dX11_emitWithin_91 ⟨(by first | (simp only [headSpec]; omega) | omega | (dsimp only; omega)), (by first | (simp only [headSpec]; omega) | omega | (dsimp only; omega))⟩) hS (fun z_432 σ_s_431 H locs rz_432 hw_430 hH hS => ?_)
          obtain ⟨e9, hw_430⟩ := hw_430
          replace e9 := e9.symm
          subst e9
          have hw_430 : z_432 = mK f1 i := hw_430
          refine lv_iconst (v := I 2) hx hb dX11_emitWithin_94 (by decide) ?_
          refine lv_icmp_ne (tgt := 106) hx hb dX11_emitWithin_95 (by decide) (fun c_433 => ?_) (fun c_433 => ?_)
          · replace c_433 := mt (I_eq (a := z_432) (b := 2) rz_432 (show rng 2 from ⟨by decide, by decide⟩)).mpr c_433
            replace hl : lv_has ls 9 [(0, .ref a), (1, .int (I i)), (2, .int (I is)), (3, .int (I dp)), (4, .int (I z_3)), (5, .int (I (60 * dp)))] := lv_sub hl [0, 1, 2, 3, 4, 5] rfl
            exact jK_118 (F35q92) σ_J_94 _ _ _ ⟨hO, hF, hM, hH, hS, lv_sub hl [0, 1, 2, 3, 4, 5] rfl, hpm_96, J_94_3, J_94_4, J_94_5, J_94_6, J_94_7, J_94_8, J_94_9, J_94_10⟩
          · replace c_433 := (I_eq (a := z_432) (b := 2) rz_432 (show rng 2 from ⟨by decide, by decide⟩)).mp c_433
            refine lv_aload_n hx hb dX11_emitWithin_98 rfl (lv_at hl 0 rfl) ?_
            refine lv_iload hx hb dX11_emitWithin_99 (lv_at hl 5 rfl) ?_
            refine lv_iload hx hb dX11_emitWithin_101 (lv_at hl 4 rfl) ?_
            obtain ⟨_, hc_434⟩ := hO.cell h_a (by decide) (ci := 11) rfl
            refine th_callv (va_runV (As := [.int (I (60 * dp)), .int (I z_3)]) (rest := []) ⟨hx, hb, hml, hown, hts⟩ (m_sort l G y b0 σ_J_94 E hO a h_a (60 * dp) (show rng (60 * dp) from ⟨by omega, by omega⟩) (by omega) (by omega) z_3 (show rng z_3 from rz_3) (by omega) (by omega) i f1 J_94_7 F35q92 J_94_10 (hy0) (by omega) (hpm_96) (by omega)) (cwV 2 hts gX11_emitWithin_X11_sort rfl rfl rfl (by decide +kernel) ⟨(by first | (simp only [headSpec]; omega) | omega | (dsimp only; omega)), (by first | (simp only [headSpec]; omega) | omega | (dsimp only; omega))⟩) (th_PV hK hH rfl hc_434) rfl rfl hl.1 rfl (lv_room (Nat.le_of_ble_eq_true rfl)) dX11_emitWithin_103 ⟨(by first | (simp only [headSpec]; omega) | omega | (dsimp only; omega)), (by first | (simp only [headSpec]; omega) | omega | (dsimp only; omega))⟩) hS (fun σ_s_436 H locs hw_435 hH hS => ?_)
            obtain ⟨hO9, hF9, hM9, hw_435⟩ := hw_435
            replace hM := hM.tu hM9 (by decide)
            replace hF := hF.tu hF9 (by decide)
            have e_437 : gI σ_s_436 a 5 = a50 := (hM9.i (by decide)).trans J_94_4
            have e_438 : gI σ_s_436 a 32 = a320 := (hM9.i (by decide)).trans J_94_5
            have e_439 : gI σ_s_436 a 33 = a330 := (hM9.i (by decide)).trans J_94_6
            have e_440 : aF σ_s_436 (ad E a 1) = f1 := (hM9.a (by decide) (by decide)).trans J_94_7
            have e_441 : aF σ_s_436 (ad E a 2) = f2 := (hM9.a (by decide) (by decide)).trans J_94_8
            have e_442 : aF σ_s_436 (ad E a 3) = f3 := (hM9.a (by decide) (by decide)).trans J_94_9
            replace hO := hO9
            generalize ef_444 : aF σ_s_436 (ad E a 35) = g_443 at hw_435
            have hw_435 : prm f1 g_443 (60 * dp) z_3.toNat i ∧ ofr F35q92 g_443 (60 * dp) := hw_435
            replace hl : lv_has ls 9 [(0, .ref a), (1, .int (I i)), (2, .int (I is)), (3, .int (I dp)), (4, .int (I z_3)), (5, .int (I (60 * dp)))] := lv_sub hl [0, 1, 2, 3, 4, 5] rfl
            exact jK_118 (g_443) σ_s_436 _ _ _ ⟨hO, hF, hM, hH, hS, lv_sub hl [0, 1, 2, 3, 4, 5] rfl, hw_435.1, (J_94_3.tr hw_435.2 (by omega)), e_437, e_438, e_439, e_440, e_441, e_442, ef_444⟩
  · replace c_95 := mt (I_le (a := z_3) (b := v6q93) rz_3 rv6q93).mpr c_95
    refine lv_aload_n hx hb dX11_emitWithin_26 rfl (lv_at hl 0 rfl) ?_
    refine ok.getR hO h_a (by decide) k13_35 (by decide) (fun _ _ he hv kk => th_get (ci := 11) (C := RX11) (T := TX11) (N := 66) hx hb hts inX11 hown hK hH he rfl 35 (by decide) fl4 hv dX11_emitWithin_27 kk) ?_
    refine lv_iload hx hb dX11_emitWithin_30 (lv_at hl 5 rfl) ?_
    refine lv_iload hx hb dX11_emitWithin_32 (lv_at hl 6 rfl) ?_
    refine lv_iadd hx hb dX11_emitWithin_34 ?_
    refine nq_top (I_add _ _) ?_
    refine lv_aload_n hx hb dX11_emitWithin_35 rfl (lv_at hl 0 rfl) ?_
    refine ok.getR hO h_a (by decide) k13_1 (by decide) (fun _ _ he hv kk => th_get (ci := 11) (C := RX11) (T := TX11) (N := 66) hx hb hts inX11 hown hK hH he rfl 1 (by decide) fl0 hv dX11_emitWithin_36 kk) ?_
    refine lv_iload_n hx hb dX11_emitWithin_39 rfl (lv_at hl 1 rfl) ?_
    refine lv_iload_n hx hb dX11_emitWithin_40 rfl (lv_at hl 2 rfl) ?_
    refine lv_if_eq (tgt := 62) hx hb dX11_emitWithin_41 (by decide) (fun c_445 => ?_) (fun c_445 => ?_)
    · replace c_445 := (I_eq (a := is) (b := 0) ris (show rng 0 from ⟨by decide, by decide⟩)).mp c_445
      refine lv_iload hx hb dX11_emitWithin_62 (lv_at hl 6 rfl) ?_
      refine th_calli (va_runS (As := [.ref (ad E a 1), .int (I i), .int (I v6q93)]) (rest := [.int (I (60 * dp + v6q93)), .ref (ad E a 35)]) ⟨hx, hb, hml, hown, hts⟩ (w_nth l G y b0 σ_J_94 E hO (ad E a 1) 240 f1 (hO.roww h_a k13_1 isA1 J_94_7 rfl) i (show rng i from ri) (by omega) (by omega) v6q93 (show rng v6q93 from rv6q93) (by first | exact hy0 | exact (hy0).sub (by omega) (by omega)) (by omega) (by omega) (by omega) (jin.mk1 (by omega) hw_1.1 (by omega))) (va_cwS 3 hts gX11_emitWithin_X11_nth rfl rfl rfl (by decide +kernel) ⟨(by first | (simp only [headSpec]; omega) | omega | (dsimp only; omega)), (by first | (simp only [headSpec]; omega) | omega | (dsimp only; omega))⟩) (th_PS hK hH) rfl rfl hl.1 rfl (lv_room (Nat.le_of_ble_eq_true rfl)) dX11_emitWithin_64 ⟨(by first | (simp only [headSpec]; omega) | omega | (dsimp only; omega)), (by first | (simp only [headSpec]; omega) | omega | (dsimp only; omega))⟩) hS (fun z_448 σ_s_447 H locs rz_448 hw_446 hH hS => ?_)
      obtain ⟨e9, hw_446⟩ := hw_446
      replace e9 := e9.symm
      subst e9
      have hw_446 : chn f1 (i + 1) v6q93 z_448 ∧ kid f1 i z_448 := hw_446
      refine m_iast hx hb hK hH hS h00 hO h_a k13_35 isA1 (by decide) J_94_10 ⟨by omega, by omega⟩ (by omega) (by omega) rz_448 el1 dX11_emitWithin_67 (fun σ_s_449 H locs hO hF9 hM9 ha9 hH hS => ?_)
      replace hM := hM.tu hM9 (by decide)
      replace hF := hF.tu hF9 (by decide)
      have e_450 : gI σ_s_449 a 5 = a50 := (hM9.i (by decide)).trans J_94_4
      have e_451 : gI σ_s_449 a 32 = a320 := (hM9.i (by decide)).trans J_94_5
      have e_452 : gI σ_s_449 a 33 = a330 := (hM9.i (by decide)).trans J_94_6
      have e_453 : aF σ_s_449 (ad E a 1) = f1 := (hM9.a (by decide) (by decide)).trans J_94_7
      have e_454 : aF σ_s_449 (ad E a 2) = f2 := (hM9.a (by decide) (by decide)).trans J_94_8
      have e_455 : aF σ_s_449 (ad E a 3) = f3 := (hM9.a (by decide) (by decide)).trans J_94_9
      obtain ⟨g_456, dg_456⟩ : ∃ g9, g9 = upd F35q92 (60 * dp + v6q93).toNat (I z_448) := ⟨_, rfl⟩
      rw [← dg_456] at ha9
      have ef_457 := ha9
      refine lv_iinc (v := I (v6q93 + 1)) (lv' := [(6, .int (I (v6q93 + 1))), (0, .ref a), (1, .int (I i)), (2, .int (I is)), (3, .int (I dp)), (4, .int (I z_3)), (5, .int (I (60 * dp)))]) hx hb dX11_emitWithin_68 hl (k := 6) rfl (I_add _ _) (by decide) rfl (fun ls hl => ?_)
      refine lv_goto (tgt := 19) hx hb dX11_emitWithin_71 (by decide) ?_
      exact ihJ_94 (v6q93 + 1, g_456) σ_s_449 _ _ _ (by first | (dsimp only; omega) | omega) ⟨hO, hF, hM, hH, hS, lv_sub hl [1, 2, 3, 4, 5, 6, 0] rfl, ⟨by first | (dsimp only; omega) | omega, by first | (dsimp only; omega) | omega⟩, by first | (dsimp only; omega) | omega, by first | (dsimp only; omega) | omega, (J_94_2.st0 (fun h9 => by omega) hw_446.1 dg_456 (by first | (dsimp only; omega) | omega) rz_448 (by first | (dsimp only; omega) | omega) (by omega)), (J_94_3.up dg_456 (by first | (dsimp only; omega) | omega)), e_450, e_451, e_452, e_453, e_454, e_455, ef_457⟩
    · replace c_445 := mt (I_eq (a := is) (b := 0) ris (show rng 0 from ⟨by decide, by decide⟩)).mpr c_445
      refine lv_aload_n hx hb dX11_emitWithin_44 rfl (lv_at hl 0 rfl) ?_
      refine ok.getIc hO h_a (by decide) k13_32 J_94_5 (fun _ _ he hv kk => th_get (ci := 11) (C := RX11) (T := TX11) (N := 66) hx hb hts inX11 hown hK hH he rfl 32 (by decide) fl3 hv dX11_emitWithin_45 kk) ?_
      refine lv_iconst (v := I 4) hx hb dX11_emitWithin_48 (by decide) ?_
      refine lv_icmp_ne (tgt := 62) hx hb dX11_emitWithin_49 (by decide) (fun c_458 => ?_) (fun c_458 => ?_)
      · replace c_458 := mt (I_eq (a := a320) (b := 4) ra320 (show rng 4 from ⟨by decide, by decide⟩)).mpr c_458
        refine lv_iload hx hb dX11_emitWithin_62 (lv_at hl 6 rfl) ?_
        refine th_calli (va_runS (As := [.ref (ad E a 1), .int (I i), .int (I v6q93)]) (rest := [.int (I (60 * dp + v6q93)), .ref (ad E a 35)]) ⟨hx, hb, hml, hown, hts⟩ (w_nth l G y b0 σ_J_94 E hO (ad E a 1) 240 f1 (hO.roww h_a k13_1 isA1 J_94_7 rfl) i (show rng i from ri) (by omega) (by omega) v6q93 (show rng v6q93 from rv6q93) (by first | exact hy0 | exact (hy0).sub (by omega) (by omega)) (by omega) (by omega) (by omega) (jin.mk1 (by omega) hw_1.1 (by omega))) (va_cwS 3 hts gX11_emitWithin_X11_nth rfl rfl rfl (by decide +kernel) ⟨(by first | (simp only [headSpec]; omega) | omega | (dsimp only; omega)), (by first | (simp only [headSpec]; omega) | omega | (dsimp only; omega))⟩) (th_PS hK hH) rfl rfl hl.1 rfl (lv_room (Nat.le_of_ble_eq_true rfl)) dX11_emitWithin_64 ⟨(by first | (simp only [headSpec]; omega) | omega | (dsimp only; omega)), (by first | (simp only [headSpec]; omega) | omega | (dsimp only; omega))⟩) hS (fun z_461 σ_s_460 H locs rz_461 hw_459 hH hS => ?_)
        obtain ⟨e9, hw_459⟩ := hw_459
        replace e9 := e9.symm
        subst e9
        have hw_459 : chn f1 (i + 1) v6q93 z_461 ∧ kid f1 i z_461 := hw_459
        refine m_iast hx hb hK hH hS h00 hO h_a k13_35 isA1 (by decide) J_94_10 ⟨by omega, by omega⟩ (by omega) (by omega) rz_461 el1 dX11_emitWithin_67 (fun σ_s_462 H locs hO hF9 hM9 ha9 hH hS => ?_)
        replace hM := hM.tu hM9 (by decide)
        replace hF := hF.tu hF9 (by decide)
        have e_463 : gI σ_s_462 a 5 = a50 := (hM9.i (by decide)).trans J_94_4
        have e_464 : gI σ_s_462 a 32 = a320 := (hM9.i (by decide)).trans J_94_5
        have e_465 : gI σ_s_462 a 33 = a330 := (hM9.i (by decide)).trans J_94_6
        have e_466 : aF σ_s_462 (ad E a 1) = f1 := (hM9.a (by decide) (by decide)).trans J_94_7
        have e_467 : aF σ_s_462 (ad E a 2) = f2 := (hM9.a (by decide) (by decide)).trans J_94_8
        have e_468 : aF σ_s_462 (ad E a 3) = f3 := (hM9.a (by decide) (by decide)).trans J_94_9
        obtain ⟨g_469, dg_469⟩ : ∃ g9, g9 = upd F35q92 (60 * dp + v6q93).toNat (I z_461) := ⟨_, rfl⟩
        rw [← dg_469] at ha9
        have ef_470 := ha9
        refine lv_iinc (v := I (v6q93 + 1)) (lv' := [(6, .int (I (v6q93 + 1))), (0, .ref a), (1, .int (I i)), (2, .int (I is)), (3, .int (I dp)), (4, .int (I z_3)), (5, .int (I (60 * dp)))]) hx hb dX11_emitWithin_68 hl (k := 6) rfl (I_add _ _) (by decide) rfl (fun ls hl => ?_)
        refine lv_goto (tgt := 19) hx hb dX11_emitWithin_71 (by decide) ?_
        exact ihJ_94 (v6q93 + 1, g_469) σ_s_462 _ _ _ (by first | (dsimp only; omega) | omega) ⟨hO, hF, hM, hH, hS, lv_sub hl [1, 2, 3, 4, 5, 6, 0] rfl, ⟨by first | (dsimp only; omega) | omega, by first | (dsimp only; omega) | omega⟩, by first | (dsimp only; omega) | omega, by first | (dsimp only; omega) | omega, (J_94_2.st0 (fun h9 => by omega) hw_459.1 dg_469 (by first | (dsimp only; omega) | omega) rz_461 (by first | (dsimp only; omega) | omega) (by omega)), (J_94_3.up dg_469 (by first | (dsimp only; omega) | omega)), e_463, e_464, e_465, e_466, e_467, e_468, ef_470⟩
      · replace c_458 := (I_eq (a := a320) (b := 4) ra320 (show rng 4 from ⟨by decide, by decide⟩)).mp c_458
        refine lv_iload hx hb dX11_emitWithin_52 (lv_at hl 4 rfl) ?_
        refine lv_iconst (v := I 1) hx hb dX11_emitWithin_54 (by decide) ?_
        refine lv_isub hx hb dX11_emitWithin_55 ?_
        refine nq_top (I_sub _ _) ?_
        refine lv_iload hx hb dX11_emitWithin_56 (lv_at hl 6 rfl) ?_
        refine lv_isub hx hb dX11_emitWithin_58 ?_
        refine nq_top (I_sub _ _) ?_
        refine lv_goto (tgt := 64) hx hb dX11_emitWithin_59 (by decide) ?_
        refine th_calli (va_runS (As := [.ref (ad E a 1), .int (I i), .int (I (z_3 - 1 - v6q93))]) (rest := [.int (I (60 * dp + v6q93)), .ref (ad E a 35)]) ⟨hx, hb, hml, hown, hts⟩ (w_nth l G y b0 σ_J_94 E hO (ad E a 1) 240 f1 (hO.roww h_a k13_1 isA1 J_94_7 rfl) i (show rng i from ri) (by omega) (by omega) (z_3 - 1 - v6q93) (show rng (z_3 - 1 - v6q93) from ⟨by omega, by omega⟩) (by first | exact hy0 | exact (hy0).sub (by omega) (by omega)) (by omega) (by omega) (by omega) (jin.mk1 (by omega) hw_1.1 (by omega))) (va_cwS 3 hts gX11_emitWithin_X11_nth rfl rfl rfl (by decide +kernel) ⟨(by first | (simp only [headSpec]; omega) | omega | (dsimp only; omega)), (by first | (simp only [headSpec]; omega) | omega | (dsimp only; omega))⟩) (th_PS hK hH) rfl rfl hl.1 rfl (lv_room (Nat.le_of_ble_eq_true rfl)) dX11_emitWithin_64 ⟨(by first | (simp only [headSpec]; omega) | omega | (dsimp only; omega)), (by first | (simp only [headSpec]; omega) | omega | (dsimp only; omega))⟩) hS (fun z_473 σ_s_472 H locs rz_473 hw_471 hH hS => ?_)
        obtain ⟨e9, hw_471⟩ := hw_471
        replace e9 := e9.symm
        subst e9
        have hw_471 : chn f1 (i + 1) (z_3 - 1 - v6q93) z_473 ∧ kid f1 i z_473 := hw_471
        refine m_iast hx hb hK hH hS h00 hO h_a k13_35 isA1 (by decide) J_94_10 ⟨by omega, by omega⟩ (by omega) (by omega) rz_473 el1 dX11_emitWithin_67 (fun σ_s_474 H locs hO hF9 hM9 ha9 hH hS => ?_)
        replace hM := hM.tu hM9 (by decide)
        replace hF := hF.tu hF9 (by decide)
        have e_475 : gI σ_s_474 a 5 = a50 := (hM9.i (by decide)).trans J_94_4
        have e_476 : gI σ_s_474 a 32 = a320 := (hM9.i (by decide)).trans J_94_5
        have e_477 : gI σ_s_474 a 33 = a330 := (hM9.i (by decide)).trans J_94_6
        have e_478 : aF σ_s_474 (ad E a 1) = f1 := (hM9.a (by decide) (by decide)).trans J_94_7
        have e_479 : aF σ_s_474 (ad E a 2) = f2 := (hM9.a (by decide) (by decide)).trans J_94_8
        have e_480 : aF σ_s_474 (ad E a 3) = f3 := (hM9.a (by decide) (by decide)).trans J_94_9
        obtain ⟨g_481, dg_481⟩ : ∃ g9, g9 = upd F35q92 (60 * dp + v6q93).toNat (I z_473) := ⟨_, rfl⟩
        rw [← dg_481] at ha9
        have ef_482 := ha9
        refine lv_iinc (v := I (v6q93 + 1)) (lv' := [(6, .int (I (v6q93 + 1))), (0, .ref a), (1, .int (I i)), (2, .int (I is)), (3, .int (I dp)), (4, .int (I z_3)), (5, .int (I (60 * dp)))]) hx hb dX11_emitWithin_68 hl (k := 6) rfl (I_add _ _) (by decide) rfl (fun ls hl => ?_)
        refine lv_goto (tgt := 19) hx hb dX11_emitWithin_71 (by decide) ?_
        exact ihJ_94 (v6q93 + 1, g_481) σ_s_474 _ _ _ (by first | (dsimp only; omega) | omega) ⟨hO, hF, hM, hH, hS, lv_sub hl [1, 2, 3, 4, 5, 6, 0] rfl, ⟨by first | (dsimp only; omega) | omega, by first | (dsimp only; omega) | omega⟩, by first | (dsimp only; omega) | omega, by first | (dsimp only; omega) | omega, (J_94_2.st1 ⟨by omega, by omega⟩ hw_471.1 dg_481 (by first | (dsimp only; omega) | omega) rz_473 (by first | (dsimp only; omega) | omega) (by omega)), (J_94_3.up dg_481 (by first | (dsimp only; omega) | omega)), e_475, e_476, e_477, e_478, e_479, e_480, ef_482⟩
