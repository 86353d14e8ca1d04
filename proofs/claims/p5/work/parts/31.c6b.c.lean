set_option maxHeartbeats 4000000 in
set_option maxRecDepth 100000 in
theorem m_emitWithin (n : Nat) (ih : ∀ (l : Launch) (G : va_G) (y : Nat → ClassId) (b0 : Nat) (σ : th_M) (E : th_E) (hO : ok y E σ) (a : Nat) (h_a : kd E a = 13) (i : Int) (ri : rng i) (l_i : 0 ≤ i) (u_i : i ≤ 59) (dp : Int) (rdp : rng dp) (l_dp : 0 ≤ dp) (u_dp : dp ≤ 7) (f1 : Nat → Int32) (ef1 : aF σ (ad E a 1) = f1) (f2 : Nat → Int32) (ef2 : aF σ (ad E a 2) = f2) (f3 : Nat → Int32) (ef3 : aF σ (ad E a 3) = f3) (f35 : Nat → Int32) (ef35 : aF σ (ad E a 35) = f35) (hy0 : wf f1 0 (mS f1 0)) (hy1 : 1 ≤ mS f1 0 ∧ mS f1 0 ≤ 60) (hy2 : tr f1) (hy3 : tdc (gI σ a 32) f2) (hy4 : i < mS f1 0) (hy5 : dp ≤ cn f1 i i.toNat) (hy6 : gI σ a 5 + 61 * mS f1 i ≤ 4000) (hn : (8 - dp).toNat < n), Met l yX11_emit wsX11_emit ({ frames := 4*n+12, cells := 0, slots := 0, locals := (120*n+600) }) (th_P G y b0 σ [.ref a, .int (I i), .int (I dp)]) (th_Qv G b0 (fun σ1 => ok y E σ1 ∧ fr [13] E σ σ1 ∧ fm [3, 5, 35] E σ σ1 a ∧ (blk f3 (aF σ1 (ad E a 3)) (gI σ a 5) (gI σ1 a 5) (mY f1 i) ∧ gI σ1 a 5 - gI σ a 5 ≤ 61 * mS f1 i ∧ ofr f35 (aF σ1 (ad E a 35)) (60 * dp)))) 0 0 (th_A b0)) (l : Launch) (G : va_G) (y : Nat → ClassId) (b0 : Nat) (σ : th_M) (E : th_E) (hO : ok y E σ) (a : Nat) (h_a : kd E a = 13) (i : Int) (ri : rng i) (l_i : 0 ≤ i) (u_i : i ≤ 59) (is : Int) (ris : rng is) (l_is : 0 ≤ is) (u_is : is ≤ 1) (dp : Int) (rdp : rng dp) (l_dp : 0 ≤ dp) (u_dp : dp ≤ 7) (f1 : Nat → Int32) (ef1 : aF σ (ad E a 1) = f1) (f2 : Nat → Int32) (ef2 : aF σ (ad E a 2) = f2) (f3 : Nat → Int32) (ef3 : aF σ (ad E a 3) = f3) (f35 : Nat → Int32) (ef35 : aF σ (ad E a 35) = f35) (hy0 : wf f1 0 (mS f1 0)) (hy1 : 1 ≤ mS f1 0 ∧ mS f1 0 ≤ 60) (hy2 : tr f1) (hy3 : tdc (gI σ a 32) f2) (hy4 : i < mS f1 0) (hy5 : dp ≤ cn f1 i i.toNat) (hy6 : gI σ a 5 + 61 * mS f1 i ≤ 4001) (hy7 : 1 ≤ gI σ a 5) (hy8 : (8 - dp).toNat < n + 1) : Met l yX11_emitWithin wsX11_emitWithin ({ frames := 4*n+14, cells := 0, slots := 0, locals := (120*n+660) }) (th_P G y b0 σ [.ref a, .int (I i), .int (I is), .int (I dp)]) (th_Qv G b0 (fun σ1 => ok y E σ1 ∧ fr [13] E σ σ1 ∧ fm [3, 5, 35] E σ σ1 a ∧ (emf f1 (aF σ1 (ad E a 3)) i (gI σ a 5 - 1) (gI σ1 a 5) ∧ same f3 (aF σ1 (ad E a 3)) 0 (gI σ a 5) 0 ∧ ofr f35 (aF σ1 (ad E a 35)) (60 * dp)))) 0 0 (th_A b0) := by
  refine Met.ofW (cc := cX11_emitWithin) (maxL := 9) (ret := none) (by decide) rfl ?_
  intro p e s m args below meth c s₁ B hml hv
  obtain ⟨rfl, hH, hK⟩ := hv
  have hx := B.exec
  have hb := B.bytes
  have hr := B.returns
  have hts := atoms_spec (ws := wsX11_emitWithin) B.pre
  have hown : s.vm.findClass RX11 = some m.cls := findClass_of_methodNamed B.named
  have hlocks := B.notSynchronized
  have h00 : b0 ≤ s.heap.size := hH.1
  have hS : va_S (th_A b0) s.heap s.heap [] := va_S.rf
  have hF : fr [13] E σ σ := fr.rf
  have hM : fm [3, 5, 35] E σ σ a := fm.rf
  have hk0 := hy0 i (by omega) (by omega)
  have inX11 : ∀ w ∈ wsX110, w ∈ wsX11_emitWithin := by decide +kernel
  have fl0 := hts (.fieldLink RX11 9 "NestQueryModel" "tree" "[I") (by decide +kernel)
  have fl1 := hts (.fieldLink RX11 385 "NestQueryModel" "changeKey" "I") (by decide +kernel)
  have fl2 := hts (.fieldLink RX11 13 "NestQueryModel" "data" "[I") (by decide +kernel)
  have fl3 := hts (.fieldLink RX11 369 "NestQueryModel" "change" "I") (by decide +kernel)
  have fl4 := hts (.fieldLink RX11 45 "NestQueryModel" "order" "[I") (by decide +kernel)
  have fl5 := hts (.fieldLink RX11 35 "NestQueryModel" "set" "[Z") (by decide +kernel)
  have hl := lv_entry ([.ref a, .int (I i), .int (I is), .int (I dp)]) (n := 9) (Nat.le_of_ble_eq_true rfl)
  rw [lg_entry_eq]
  generalize (lg_sl ([.ref a, .int (I i), .int (I is), .int (I dp)]) ++ List.replicate (9 - (lg_sl ([.ref a, .int (I i), .int (I is), .int (I dp)])).length) Slot.unset).toArray = ls at hl ⊢
  have hl : lv_has ls 9 [(0, .ref a), (1, .int (I i)), (2, .int (I is)), (3, .int (I dp))] := hl
  obtain ⟨a50, ea50, ra50, la50, ua50⟩ := hO.gi h_a (by decide) k13_5
  obtain ⟨a320, ea320, ra320, la320, ua320⟩ := hO.gi h_a (by decide) k13_32
  obtain ⟨a330, ea330, ra330, la330, ua330⟩ := hO.gi h_a (by decide) k13_33
  refine lv_aload_n hx hb dX11_emitWithin_0 rfl (lv_at hl 0 rfl) ?_
  refine ok.getR hO h_a (by decide) k13_1 (by decide) (fun _ _ he hv kk => th_get (ci := 11) (C := RX11) (T := TX11) (N := 66) hx hb hts inX11 hown hK hH he rfl 1 (by decide) fl0 hv dX11_emitWithin_1 kk) ?_
  refine lv_iload_n hx hb dX11_emitWithin_4 rfl (lv_at hl 1 rfl) ?_
  refine th_calli (va_runS (As := [.ref (ad E a 1), .int (I i)]) (rest := []) ⟨hx, hb, hml, hown, hts⟩ (w_many l G y b0 σ E hO (ad E a 1) 240 f1 (hO.roww h_a k13_1 isA1 ef1 rfl) i (show rng i from ri) (by omega) (by omega) (by first | exact hy0 | exact (hy0).sub (by omega) (by omega)) (by omega) (by omega) (by omega)) (va_cwS 2 hts gX11_emitWithin_X11_many rfl rfl rfl (by decide +kernel) ⟨(by first | (simp only [headSpec]; omega) | omega | (dsimp only; omega)), (by first | (simp only [headSpec]; omega) | omega | (dsimp only; omega))⟩) (th_PS hK hH) rfl rfl hl.1 rfl (lv_room (Nat.le_of_ble_eq_true rfl)) dX11_emitWithin_5 ⟨(by first | (simp only [headSpec]; omega) | omega | (dsimp only; omega)), (by first | (simp only [headSpec]; omega) | omega | (dsimp only; omega))⟩) hS (fun z_3 σ_s_2 H locs rz_3 hw_1 hH hS => ?_)
  obtain ⟨e9, hw_1⟩ := hw_1
  replace e9 := e9.symm
  subst e9
  have hw_1 : chn f1 (i + 1) z_3 (i + mS f1 i) ∧ 0 ≤ z_3 ∧ z_3 < mS f1 i := hw_1
  refine lv_istore (lv' := [(4, .int (I z_3)), (0, .ref a), (1, .int (I i)), (2, .int (I is)), (3, .int (I dp))]) hx hb dX11_emitWithin_8 hl (by decide) rfl (fun ls hl => ?_)
  refine lv_bipush (v := I 60) hx hb dX11_emitWithin_10 (by decide) ?_
  refine lv_iload_n hx hb dX11_emitWithin_12 rfl (lv_at hl 4 rfl) ?_
  refine lv_imul hx hb dX11_emitWithin_13 ?_
  refine nq_top (I_mul _ _) ?_
  refine lv_istore (lv' := [(5, .int (I (60 * dp))), (4, .int (I z_3)), (0, .ref a), (1, .int (I i)), (2, .int (I is)), (3, .int (I dp))]) hx hb dX11_emitWithin_14 hl (by decide) rfl (fun ls hl => ?_)
  refine lv_iconst (v := I 0) hx hb dX11_emitWithin_16 (by decide) ?_
  refine lv_istore (lv' := [(6, .int (I 0)), (5, .int (I (60 * dp))), (4, .int (I z_3)), (0, .ref a), (1, .int (I i)), (2, .int (I is)), (3, .int (I dp))]) hx hb dX11_emitWithin_17 hl (by decide) rfl (fun ls hl => ?_)
  refine th_loop (α := Int × (Nat → Int32)) (pc := 19) (fun x9 => (z_3 - x9.1).toNat) (fun x9 σ9 H9 l9 ls9 => ok y E σ9 ∧ fr [13] E σ σ9 ∧ fm [3, 5, 35] E σ σ9 a ∧ th_H G b0 σ9 H9 ∧ va_S (th_A b0) s.heap H9 l9 ∧ lv_has ls9 9 [(0, .ref a), (1, .int (I i)), (2, .int (I is)), (3, .int (I dp)), (4, .int (I z_3)), (5, .int (I (60 * dp))), (6, .int (I x9.1))] ∧ rng x9.1 ∧ (0 ≤ x9.1) ∧ (x9.1 ≤ z_3) ∧ (ofl (is = 1 ∧ gI σ a 32 = 4) f1 x9.2 (60 * dp) z_3 i x9.1) ∧ (ofr f35 x9.2 (60 * dp)) ∧ (gI σ9 a 5 = a50) ∧ (gI σ9 a 32 = a320) ∧ (gI σ9 a 33 = a330) ∧ (aF σ9 (ad E a 1) = f1) ∧ (aF σ9 (ad E a 2) = f2) ∧ (aF σ9 (ad E a 3) = f3) ∧ (aF σ9 (ad E a 35) = x9.2)) ?_ (0, f35) σ _ _ _ ⟨hO, hF, hM, hH, hS, lv_sub hl [3, 4, 5, 6, 2, 1, 0] rfl, (show rng 0 from ⟨by decide, by decide⟩), by first | (dsimp only; omega) | omega, by first | (dsimp only; omega) | omega, ofl.zero, ofr.rf, ea50, ea320, ea330, ef1, ef2, ef3, ef35⟩
  intro x9 σ_J_94 H locs ls hI9 ihJ_94
  obtain ⟨v6q93, F35q92⟩ := x9
  obtain ⟨hO, hF, hM, hH, hS, hl, rv6q93, J_94_0, J_94_1, J_94_2, J_94_3, J_94_4, J_94_5, J_94_6, J_94_7, J_94_8, J_94_9, J_94_10⟩ := hI9
  have hl : lv_has ls 9 [(0, .ref a), (1, .int (I i)), (2, .int (I is)), (3, .int (I dp)), (4, .int (I z_3)), (5, .int (I (60 * dp))), (6, .int (I v6q93))] := hl
  have rv6q93 : rng v6q93 := rv6q93
  have J_94_0 : 0 ≤ v6q93 := J_94_0
  have J_94_1 : v6q93 ≤ z_3 := J_94_1
  have J_94_2 : ofl (is = 1 ∧ gI σ a 32 = 4) f1 F35q92 (60 * dp) z_3 i v6q93 := J_94_2
  have J_94_3 : ofr f35 F35q92 (60 * dp) := J_94_3
  have J_94_4 : gI σ_J_94 a 5 = a50 := J_94_4
  have J_94_5 : gI σ_J_94 a 32 = a320 := J_94_5
  have J_94_6 : gI σ_J_94 a 33 = a330 := J_94_6
  have J_94_7 : aF σ_J_94 (ad E a 1) = f1 := J_94_7
  have J_94_8 : aF σ_J_94 (ad E a 2) = f2 := J_94_8
  have J_94_9 : aF σ_J_94 (ad E a 3) = f3 := J_94_9
  have J_94_10 : aF σ_J_94 (ad E a 35) = F35q92 := J_94_10
  refine lv_iload hx hb dX11_emitWithin_19 (lv_at hl 6 rfl) ?_
  refine lv_iload hx hb dX11_emitWithin_21 (lv_at hl 4 rfl) ?_
  refine lv_icmp_ge (tgt := 74) hx hb dX11_emitWithin_23 (by decide) (fun c_95 => ?_) (fun c_95 => ?_)
  · replace c_95 := (I_le (a := z_3) (b := v6q93) rz_3 rv6q93).mp c_95
    have hpm_96 : prm f1 F35q92 (60 * dp) (z_3).toNat i := (J_94_2.to (by omega)).prm hw_1.1 (by omega)
    refine lv_iload_n hx hb dX11_emitWithin_74 rfl (lv_at hl 2 rfl) ?_
    obtain ⟨f_114, ef_115⟩ : ∃ f9, aF σ_J_94 (ad E a 35) = f9 := ⟨_, rfl⟩
    refine th_join (α := (Nat → Int32)) (J := 106) (stk := fun x9 => []) (fun x9 σ9 H9 l9 ls9 => ok y E σ9 ∧ fr [13] E σ σ9 ∧ fm [3, 5, 35] E σ σ9 a ∧ th_H G b0 σ9 H9 ∧ va_S (th_A b0) s.heap H9 l9 ∧ lv_has ls9 9 [(0, .ref a), (1, .int (I i)), (2, .int (I is)), (3, .int (I dp)), (4, .int (I z_3)), (5, .int (I (60 * dp)))] ∧ (prm f1 x9 (60 * dp) (z_3).toNat i) ∧ (ofr f35 x9 (60 * dp)) ∧ (gI σ9 a 5 = a50) ∧ (gI σ9 a 32 = a320) ∧ (gI σ9 a 33 = a330) ∧ (aF σ9 (ad E a 1) = f1) ∧ (aF σ9 (ad E a 2) = f2) ∧ (aF σ9 (ad E a 3) = f3) ∧ (aF σ9 (ad E a 35) = x9)) ?_ (fun jK_118 => ?_)
    · intro x9 σ_K_118 H locs ls hI9
      obtain ⟨F35q116, ex9⟩ : ∃ z, z = x9 := ⟨_, rfl⟩
      subst ex9
      obtain ⟨hO, hF, hM, hH, hS, hl, K_118_0, K_118_1, K_118_2, K_118_3, K_118_4, K_118_5, K_118_6, K_118_7, K_118_8⟩ := hI9
      have hl : lv_has ls 9 [(0, .ref a), (1, .int (I i)), (2, .int (I is)), (3, .int (I dp)), (4, .int (I z_3)), (5, .int (I (60 * dp)))] := hl
      have K_118_0 : prm f1 F35q116 (60 * dp) (z_3).toNat i := K_118_0
      have K_118_1 : ofr f35 F35q116 (60 * dp) := K_118_1
      have K_118_2 : gI σ_K_118 a 5 = a50 := K_118_2
      have K_118_3 : gI σ_K_118 a 32 = a320 := K_118_3
      have K_118_4 : gI σ_K_118 a 33 = a330 := K_118_4
      have K_118_5 : aF σ_K_118 (ad E a 1) = f1 := K_118_5
      have K_118_6 : aF σ_K_118 (ad E a 2) = f2 := K_118_6
      have K_118_7 : aF σ_K_118 (ad E a 3) = f3 := K_118_7
      have K_118_8 : aF σ_K_118 (ad E a 35) = F35q116 := K_118_8
      refine lv_iload_n hx hb dX11_emitWithin_106 rfl (lv_at hl 2 rfl) ?_
      refine th_join (α := Int) (J := 135) (stk := fun x9 => [.int (I x9)]) (fun x9 σ9 H9 l9 ls9 => σ9 = σ_K_118 ∧ th_H G b0 σ9 H9 ∧ va_S (th_A b0) s.heap H9 l9 ∧ lv_has ls9 9 [(0, .ref a), (1, .int (I i)), (2, .int (I is)), (3, .int (I dp)), (4, .int (I z_3)), (5, .int (I (60 * dp)))] ∧ rng x9 ∧ (x9 = 0 ∨ (gI σ a 32 = 2 ∧ mK f1 i = 3)) ∧ (x9 = 0 ∨ x9 = 1)) ?_ (fun jK_126 => ?_)
      · intro x9 σ_K_126 H locs ls hI9
        obtain ⟨w0q125, ex9⟩ : ∃ z, z = x9 := ⟨_, rfl⟩
        subst ex9
        obtain ⟨eK_126, hH, hS, hl, rw0q125, K_126_0, K_126_1⟩ := hI9
        replace eK_126 := eK_126.symm
        subst eK_126
        have hl : lv_has ls 9 [(0, .ref a), (1, .int (I i)), (2, .int (I is)), (3, .int (I dp)), (4, .int (I z_3)), (5, .int (I (60 * dp)))] := hl
        have rw0q125 : rng w0q125 := rw0q125
        have K_126_0 : w0q125 = 0 ∨ (gI σ a 32 = 2 ∧ mK f1 i = 3) := K_126_0
        have K_126_1 : w0q125 = 0 ∨ w0q125 = 1 := K_126_1
        refine lv_istore (lv' := [(6, .int (I w0q125)), (0, .ref a), (1, .int (I i)), (2, .int (I is)), (3, .int (I dp)), (4, .int (I z_3)), (5, .int (I (60 * dp)))]) hx hb dX11_emitWithin_135 hl (by decide) rfl (fun ls hl => ?_)
        refine lv_iconst (v := I 0) hx hb dX11_emitWithin_137 (by decide) ?_
        refine lv_istore (lv' := [(7, .int (I 0)), (6, .int (I w0q125)), (0, .ref a), (1, .int (I i)), (2, .int (I is)), (3, .int (I dp)), (4, .int (I z_3)), (5, .int (I (60 * dp)))]) hx hb dX11_emitWithin_138 hl (by decide) rfl (fun ls hl => ?_)
        refine th_loop (α := Int × Int × (Nat → Int32) × (Nat → Int32)) (pc := 140) (fun x9 => (z_3 - x9.1).toNat) (fun x9 σ9 H9 l9 ls9 => ok y E σ9 ∧ fr [13] E σ σ9 ∧ fm [3, 5, 35] E σ σ9 a ∧ th_H G b0 σ9 H9 ∧ va_S (th_A b0) s.heap H9 l9 ∧ lv_has ls9 9 [(0, .ref a), (1, .int (I i)), (2, .int (I is)), (3, .int (I dp)), (4, .int (I z_3)), (5, .int (I (60 * dp))), (6, .int (I w0q125)), (7, .int (I x9.1))] ∧ rng x9.1 ∧ rng x9.2.1 ∧ (0 ≤ x9.1) ∧ (x9.1 ≤ z_3) ∧ (emv f1 x9.2.2.1 (lis x9.2.2.2 (60 * dp) (x9.1).toNat) (gI σ a 5 - 1) x9.2.1) ∧ (same f3 x9.2.2.1 0 (gI σ a 5) 0) ∧ (prm f1 x9.2.2.2 (60 * dp) (z_3).toNat i) ∧ (ofr f35 x9.2.2.2 (60 * dp)) ∧ (gI σ a 5 ≤ x9.2.1) ∧ (0 ≤ x9.2.1) ∧ (x9.2.1 ≤ 4000) ∧ (gI σ9 a 32 = a320) ∧ (gI σ9 a 33 = a330) ∧ (aF σ9 (ad E a 1) = f1) ∧ (aF σ9 (ad E a 2) = f2) ∧ (aF σ9 (ad E a 3) = x9.2.2.1) ∧ (aF σ9 (ad E a 35) = x9.2.2.2) ∧ (gI σ9 a 5 = x9.2.1)) ?_ (0, a50, f3, F35q116) σ_K_118 _ _ _ ⟨hO, hF, hM, hH, hS, lv_sub hl [2, 3, 4, 5, 6, 7, 1, 0] rfl, (show rng 0 from ⟨by decide, by decide⟩), ra50, by first | (dsimp only; omega) | omega, by first | (dsimp only; omega) | omega, (by have h9 := emv.zero (f1 := f1) (g := f3) (m := gI σ a 5 - 1); rw [show gI σ a 5 - 1 + 1 = a50 by omega] at h9; exact h9), same.rf, K_118_0, K_118_1, by first | (dsimp only; omega) | omega, by first | (dsimp only; omega) | omega, by first | (dsimp only; omega) | omega, K_118_3, K_118_4, K_118_5, K_118_6, K_118_7, K_118_8, K_118_2⟩
        intro x9 σ_J_281 H locs ls hI9 ihJ_281
        obtain ⟨v7q280, G5q279, F3q277, F35q278⟩ := x9
        obtain ⟨hO, hF, hM, hH, hS, hl, rv7q280, rG5q279, J_281_0, J_281_1, J_281_2, J_281_3, J_281_4, J_281_5, J_281_6, J_281_7, J_281_8, J_281_9, J_281_10, J_281_11, J_281_12, J_281_13, J_281_14, J_281_15⟩ := hI9
        have hl : lv_has ls 9 [(0, .ref a), (1, .int (I i)), (2, .int (I is)), (3, .int (I dp)), (4, .int (I z_3)), (5, .int (I (60 * dp))), (6, .int (I w0q125)), (7, .int (I v7q280))] := hl
        have rv7q280 : rng v7q280 := rv7q280
        have rG5q279 : rng G5q279 := rG5q279
        have J_281_0 : 0 ≤ v7q280 := J_281_0
        have J_281_1 : v7q280 ≤ z_3 := J_281_1
        have J_281_2 : emv f1 F3q277 (lis F35q278 (60 * dp) (v7q280).toNat) (gI σ a 5 - 1) G5q279 := J_281_2
        have J_281_3 : same f3 F3q277 0 (gI σ a 5) 0 := J_281_3
        have J_281_4 : prm f1 F35q278 (60 * dp) (z_3).toNat i := J_281_4
        have J_281_5 : ofr f35 F35q278 (60 * dp) := J_281_5
        have J_281_6 : gI σ a 5 ≤ G5q279 := J_281_6
        have J_281_7 : 0 ≤ G5q279 := J_281_7
        have J_281_8 : G5q279 ≤ 4000 := J_281_8
        have J_281_9 : gI σ_J_281 a 32 = a320 := J_281_9
        have J_281_10 : gI σ_J_281 a 33 = a330 := J_281_10
        have J_281_11 : aF σ_J_281 (ad E a 1) = f1 := J_281_11
        have J_281_12 : aF σ_J_281 (ad E a 2) = f2 := J_281_12
        have J_281_13 : aF σ_J_281 (ad E a 3) = F3q277 := J_281_13
        have J_281_14 : aF σ_J_281 (ad E a 35) = F35q278 := J_281_14
        have J_281_15 : gI σ_J_281 a 5 = G5q279 := J_281_15
        refine lv_iload hx hb dX11_emitWithin_140 (lv_at hl 7 rfl) ?_
        refine lv_iload hx hb dX11_emitWithin_142 (lv_at hl 4 rfl) ?_
        refine lv_icmp_ge (tgt := 232) hx hb dX11_emitWithin_144 (by decide) (fun c_282 => ?_) (fun c_282 => ?_)
        · replace c_282 := (I_le (a := z_3) (b := v7q280) rz_3 rv7q280).mp c_282
          have hfu := J_281_2.full J_281_4 (by omega)
          refine lv_iload_n hx hb dX11_emitWithin_232 rfl (lv_at hl 2 rfl) ?_
          refine lv_if_eq (tgt := 266) hx hb dX11_emitWithin_233 (by decide) (fun c_283 => ?_) (fun c_283 => ?_)
          · replace c_283 := (I_eq (a := is) (b := 0) ris (show rng 0 from ⟨by decide, by decide⟩)).mp c_283
            refine lv_iload hx hb dX11_emitWithin_266 (lv_at hl 6 rfl) ?_
            refine lv_if_eq (tgt := 300) hx hb dX11_emitWithin_268 (by decide) (fun c_284 => ?_) (fun c_284 => ?_)
            · replace c_284 := (I_eq (a := w0q125) (b := 0) rw0q125 (show rng 0 from ⟨by decide, by decide⟩)).mp c_284
              exact th_vret hx hb hr hlocks hH hS ⟨hO, hF, hM, by have h7 := (J_281_2.to (k := z_3) (by omega)).fin (n := (z_3).toNat) J_281_4 (hy2.1.2.one (by omega) (by omega)); rw [show aF σ_J_281 (ad E a 3) = F3q277 from J_281_13, show aF σ_J_281 (ad E a 35) = F35q278 from J_281_14, show gI σ_J_281 a 5 = G5q279 by omega]; exact ⟨h7, J_281_3, J_281_5⟩⟩ dX11_emitWithin_300
            · replace c_284 := mt (I_eq (a := w0q125) (b := 0) rw0q125 (show rng 0 from ⟨by decide, by decide⟩)).mpr c_284
              refine lv_aload_n hx hb dX11_emitWithin_271 rfl (lv_at hl 0 rfl) ?_
              refine ok.getR hO h_a (by decide) k13_1 (by decide) (fun _ _ he hv kk => th_get (ci := 11) (C := RX11) (T := TX11) (N := 66) hx hb hts inX11 hown hK hH he rfl 1 (by decide) fl0 hv dX11_emitWithin_272 kk) ?_
              refine lv_iload_n hx hb dX11_emitWithin_275 rfl (lv_at hl 1 rfl) ?_
              refine lv_aload_n hx hb dX11_emitWithin_276 rfl (lv_at hl 0 rfl) ?_
              refine ok.getIc hO h_a (by decide) k13_33 J_281_10 (fun _ _ he hv kk => th_get (ci := 11) (C := RX11) (T := TX11) (N := 66) hx hb hts inX11 hown hK hH he rfl 33 (by decide) fl1 hv dX11_emitWithin_277 kk) ?_
              refine th_calli (va_runS (As := [.ref (ad E a 1), .int (I i), .int (I a330)]) (rest := []) ⟨hx, hb, hml, hown, hts⟩ (w_byKey l G y b0 σ_J_281 E hO (ad E a 1) 240 f1 (hO.roww h_a k13_1 isA1 J_281_11 rfl) i (show rng i from ri) (by omega) (by omega) a330 (show rng a330 from ra330) (by first | exact hy0 | exact (hy0).sub (by omega) (by omega)) (by omega) (by omega) (by omega)) (va_cwS 3 hts gX11_emitWithin_X11_byKey rfl rfl rfl (by decide +kernel) ⟨(by first | (simp only [headSpec]; omega) | omega | (dsimp only; omega)), (by first | (simp only [headSpec]; omega) | omega | (dsimp only; omega))⟩) (th_PS hK hH) rfl rfl hl.1 rfl (lv_room (Nat.le_of_ble_eq_true rfl)) dX11_emitWithin_280 ⟨(by first | (simp only [headSpec]; omega) | omega | (dsimp only; omega)), (by first | (simp only [headSpec]; omega) | omega | (dsimp only; omega))⟩) hS (fun z_287 σ_s_286 H locs rz_287 hw_285 hH hS => ?_)
              obtain ⟨e9, hw_285⟩ := hw_285
              replace e9 := e9.symm
              subst e9
              have hw_285 : (z_287 = -1 ∧ nok f1 (i + 1) (i + mS f1 i) a330) ∨ (kid f1 i z_287 ∧ mY f1 z_287 = a330 ∧ i < z_287 ∧ z_287 < i + mS f1 i) := hw_285
              refine lv_iconst (v := I (-1)) hx hb dX11_emitWithin_283 (by decide) ?_
              refine lv_icmp_ne (tgt := 300) hx hb dX11_emitWithin_284 (by decide) (fun c_288 => ?_) (fun c_288 => ?_)
              · replace c_288 := mt (I_eq (a := z_287) (b := (-1)) rz_287 (show rng (-1) from ⟨by decide, by decide⟩)).mpr c_288
                exact th_vret hx hb hr hlocks hH hS ⟨hO, hF, hM, by have h7 := (J_281_2.to (k := z_3) (by omega)).fin (n := (z_3).toNat) J_281_4 (hy2.1.2.one (by omega) (by omega)); rw [show aF σ_J_281 (ad E a 3) = F3q277 from J_281_13, show aF σ_J_281 (ad E a 35) = F35q278 from J_281_14, show gI σ_J_281 a 5 = G5q279 by omega]; exact ⟨h7, J_281_3, J_281_5⟩⟩ dX11_emitWithin_300
              · replace c_288 := (I_eq (a := z_287) (b := (-1)) rz_287 (show rng (-1) from ⟨by decide, by decide⟩)).mp c_288
                have ht9 := (hy3 (by omega)).2
                refine lv_aload_n hx hb dX11_emitWithin_287 rfl (lv_at hl 0 rfl) ?_
                refine lv_aload_n hx hb dX11_emitWithin_288 rfl (lv_at hl 0 rfl) ?_
                refine ok.getR hO h_a (by decide) k13_2 (by decide) (fun _ _ he hv kk => th_get (ci := 11) (C := RX11) (T := TX11) (N := 66) hx hb hts inX11 hown hK hH he rfl 2 (by decide) fl2 hv dX11_emitWithin_289 kk) ?_
                refine lv_iconst (v := I 0) hx hb dX11_emitWithin_292 (by decide) ?_
                refine lv_aload_n hx hb dX11_emitWithin_293 rfl (lv_at hl 0 rfl) ?_
                refine ok.getIc hO h_a (by decide) k13_33 J_281_10 (fun _ _ he hv kk => th_get (ci := 11) (C := RX11) (T := TX11) (N := 66) hx hb hts inX11 hown hK hH he rfl 33 (by decide) fl1 hv dX11_emitWithin_294 kk) ?_
                obtain ⟨_, hc_289⟩ := hO.cell h_a (by decide) (ci := 11) rfl
                refine th_callv (va_runV (As := [.ref (ad E a 2), .int (I 0), .int (I a330)]) (rest := []) ⟨hx, hb, hml, hown, hts⟩ (m_copyWith2 l G y b0 σ_J_281 E hO a h_a 0 (show rng 0 from (show rng 0 from ⟨by decide, by decide⟩)) (by omega) (by omega) a330 (show rng a330 from ra330) f2 J_281_12 F3q277 J_281_13 ((hy3 (by omega))) (by omega) (by omega)) (cwV 3 hts gX11_emitWithin_X11_copyWith rfl rfl rfl (by decide +kernel) ⟨(by first | (simp only [headSpec]; omega) | omega | (dsimp only; omega)), (by first | (simp only [headSpec]; omega) | omega | (dsimp only; omega))⟩) (th_PV hK hH rfl hc_289) rfl rfl hl.1 rfl (lv_room (Nat.le_of_ble_eq_true rfl)) dX11_emitWithin_297 ⟨(by first | (simp only [headSpec]; omega) | omega | (dsimp only; omega)), (by first | (simp only [headSpec]; omega) | omega | (dsimp only; omega))⟩) hS (fun σ_s_291 H locs hw_290 hH hS => ?_)
                obtain ⟨hO9, hF9, hM9, hw_290⟩ := hw_290
                replace hM := hM.tu hM9 (by decide)
                replace hF := hF.tu hF9 (by decide)
                have e_292 : gI σ_s_291 a 32 = a320 := (hM9.i (by decide)).trans J_281_9
                have e_293 : gI σ_s_291 a 33 = a330 := (hM9.i (by decide)).trans J_281_10
                have e_294 : aF σ_s_291 (ad E a 1) = f1 := (hM9.a (by decide) (by decide)).trans J_281_11
                have e_295 : aF σ_s_291 (ad E a 2) = f2 := (hM9.a (by decide) (by decide)).trans J_281_12
                have e_296 : aF σ_s_291 (ad E a 35) = F35q278 := (hM9.a (by decide) (by decide)).trans J_281_14
                replace hO := hO9
                generalize ef_298 : aF σ_s_291 (ad E a 3) = g_297 at hw_290
                have hw_290 : blk F3q277 g_297 (gI σ_J_281 a 5) (gI σ_J_281 a 5 + mS f2 0) a330 ∧ mS g_297 (gI σ_J_281 a 5) = mS f2 0 ∧ gI σ_s_291 a 5 = gI σ_J_281 a 5 + mS f2 0 := hw_290
                exact th_vret hx hb hr hlocks hH hS ⟨hO, hF, hM, by have h9 := hw_290.1; rw [show gI σ_J_281 a 5 = G5q279 by omega] at h9; have h7 := (J_281_2.to (k := z_3) (by omega)).add (n := (z_3).toNat) J_281_4 (hy2.1.2.one (by omega) (by omega)) h9 (by omega) (fun _ => (hw_285.resolve_right (fun h9 => by have h8 := h9.2.2.1; omega)).2) (by omega); rw [show aF σ_s_291 (ad E a 3) = g_297 from ef_298, show aF σ_s_291 (ad E a 35) = F35q278 from e_296, show gI σ_s_291 a 5 = G5q279 + mS f2 0 by omega]; exact ⟨h7, blk.tr0 J_281_3 h9 (by omega), J_281_5⟩⟩ dX11_emitWithin_300
          · replace c_283 := mt (I_eq (a := is) (b := 0) ris (show rng 0 from ⟨by decide, by decide⟩)).mpr c_283
            refine lv_aload_n hx hb dX11_emitWithin_236 rfl (lv_at hl 0 rfl) ?_
            refine ok.getIc hO h_a (by decide) k13_32 J_281_9 (fun _ _ he hv kk => th_get (ci := 11) (C := RX11) (T := TX11) (N := 66) hx hb hts inX11 hown hK hH he rfl 32 (by decide) fl3 hv dX11_emitWithin_237 kk) ?_
            refine lv_iconst (v := I 1) hx hb dX11_emitWithin_240 (by decide) ?_
            refine lv_icmp_ne (tgt := 266) hx hb dX11_emitWithin_241 (by decide) (fun c_299 => ?_) (fun c_299 => ?_)
            · replace c_299 := mt (I_eq (a := a320) (b := 1) ra320 (show rng 1 from ⟨by decide, by decide⟩)).mpr c_299
              refine lv_iload hx hb dX11_emitWithin_266 (lv_at hl 6 rfl) ?_
              refine lv_if_eq (tgt := 300) hx hb dX11_emitWithin_268 (by decide) (fun c_300 => ?_) (fun c_300 => ?_)
              · replace c_300 := (I_eq (a := w0q125) (b := 0) rw0q125 (show rng 0 from ⟨by decide, by decide⟩)).mp c_300
                exact th_vret hx hb hr hlocks hH hS ⟨hO, hF, hM, by have h7 := (J_281_2.to (k := z_3) (by omega)).fin (n := (z_3).toNat) J_281_4 (hy2.1.2.one (by omega) (by omega)); rw [show aF σ_J_281 (ad E a 3) = F3q277 from J_281_13, show aF σ_J_281 (ad E a 35) = F35q278 from J_281_14, show gI σ_J_281 a 5 = G5q279 by omega]; exact ⟨h7, J_281_3, J_281_5⟩⟩ dX11_emitWithin_300
              · replace c_300 := mt (I_eq (a := w0q125) (b := 0) rw0q125 (show rng 0 from ⟨by decide, by decide⟩)).mpr c_300
                refine lv_aload_n hx hb dX11_emitWithin_271 rfl (lv_at hl 0 rfl) ?_
                refine ok.getR hO h_a (by decide) k13_1 (by decide) (fun _ _ he hv kk => th_get (ci := 11) (C := RX11) (T := TX11) (N := 66) hx hb hts inX11 hown hK hH he rfl 1 (by decide) fl0 hv dX11_emitWithin_272 kk) ?_
                refine lv_iload_n hx hb dX11_emitWithin_275 rfl (lv_at hl 1 rfl) ?_
                refine lv_aload_n hx hb dX11_emitWithin_276 rfl (lv_at hl 0 rfl) ?_
                refine ok.getIc hO h_a (by decide) k13_33 J_281_10 (fun _ _ he hv kk => th_get (ci := 11) (C := RX11) (T := TX11) (N := 66) hx hb hts inX11 hown hK hH he rfl 33 (by decide) fl1 hv dX11_emitWithin_277 kk) ?_
                refine th_calli (va_runS (As := [.ref (ad E a 1), .int (I i), .int (I a330)]) (rest := []) ⟨hx, hb, hml, hown, hts⟩ (w_byKey l G y b0 σ_J_281 E hO (ad E a 1) 240 f1 (hO.roww h_a k13_1 isA1 J_281_11 rfl) i (show rng i from ri) (by omega) (by omega) a330 (show rng a330 from ra330) (by first | exact hy0 | exact (hy0).sub (by omega) (by omega)) (by omega) (by omega) (by omega)) (va_cwS 3 hts gX11_emitWithin_X11_byKey rfl rfl rfl (by decide +kernel) ⟨(by first | (simp only [headSpec]; omega) | omega | (dsimp only; omega)), (by first | (simp only [headSpec]; omega) | omega | (dsimp only; omega))⟩) (th_PS hK hH) rfl rfl hl.1 rfl (lv_room (Nat.le_of_ble_eq_true rfl)) dX11_emitWithin_280 ⟨(by first | (simp only [headSpec]; omega) | omega | (dsimp only; omega)), (by first | (simp only [headSpec]; omega) | omega | (dsimp only; omega))⟩) hS (fun z_303 σ_s_302 H locs rz_303 hw_301 hH hS => ?_)
                obtain ⟨e9, hw_301⟩ := hw_301
                replace e9 := e9.symm
                subst e9
                have hw_301 : (z_303 = -1 ∧ nok f1 (i + 1) (i + mS f1 i) a330) ∨ (kid f1 i z_303 ∧ mY f1 z_303 = a330 ∧ i < z_303 ∧ z_303 < i + mS f1 i) := hw_301
                refine lv_iconst (v := I (-1)) hx hb dX11_emitWithin_283 (by decide) ?_
                refine lv_icmp_ne (tgt := 300) hx hb dX11_emitWithin_284 (by decide) (fun c_304 => ?_) (fun c_304 => ?_)
                · replace c_304 := mt (I_eq (a := z_303) (b := (-1)) rz_303 (show rng (-1) from ⟨by decide, by decide⟩)).mpr c_304
                  exact th_vret hx hb hr hlocks hH hS ⟨hO, hF, hM, by have h7 := (J_281_2.to (k := z_3) (by omega)).fin (n := (z_3).toNat) J_281_4 (hy2.1.2.one (by omega) (by omega)); rw [show aF σ_J_281 (ad E a 3) = F3q277 from J_281_13, show aF σ_J_281 (ad E a 35) = F35q278 from J_281_14, show gI σ_J_281 a 5 = G5q279 by omega]; exact ⟨h7, J_281_3, J_281_5⟩⟩ dX11_emitWithin_300
                · replace c_304 := (I_eq (a := z_303) (b := (-1)) rz_303 (show rng (-1) from ⟨by decide, by decide⟩)).mp c_304
                  have ht9 := (hy3 (by omega)).2
                  refine lv_aload_n hx hb dX11_emitWithin_287 rfl (lv_at hl 0 rfl) ?_
                  refine lv_aload_n hx hb dX11_emitWithin_288 rfl (lv_at hl 0 rfl) ?_
                  refine ok.getR hO h_a (by decide) k13_2 (by decide) (fun _ _ he hv kk => th_get (ci := 11) (C := RX11) (T := TX11) (N := 66) hx hb hts inX11 hown hK hH he rfl 2 (by decide) fl2 hv dX11_emitWithin_289 kk) ?_
                  refine lv_iconst (v := I 0) hx hb dX11_emitWithin_292 (by decide) ?_
                  refine lv_aload_n hx hb dX11_emitWithin_293 rfl (lv_at hl 0 rfl) ?_
                  refine ok.getIc hO h_a (by decide) k13_33 J_281_10 (fun _ _ he hv kk => th_get (ci := 11) (C := RX11) (T := TX11) (N := 66) hx hb hts inX11 hown hK hH he rfl 33 (by decide) fl1 hv dX11_emitWithin_294 kk) ?_
                  obtain ⟨_, hc_305⟩ := hO.cell h_a (by decide) (ci := 11) rfl
                  refine th_callv (va_runV (As := [.ref (ad E a 2), .int (I 0), .int (I a330)]) (rest := []) ⟨hx, hb, hml, hown, hts⟩ (m_copyWith2 l G y b0 σ_J_281 E hO a h_a 0 (show rng 0 from (show rng 0 from ⟨by decide, by decide⟩)) (by omega) (by omega) a330 (show rng a330 from ra330) f2 J_281_12 F3q277 J_281_13 ((hy3 (by omega))) (by omega) (by omega)) (cwV 3 hts gX11_emitWithin_X11_copyWith rfl rfl rfl (by decide +kernel) ⟨(by first | (simp only [headSpec]; omega) | omega | (dsimp only; omega)), (by first | (simp only [headSpec]; omega) | omega | (dsimp only; omega))⟩) (th_PV hK hH rfl hc_305) rfl rfl hl.1 rfl (lv_room (Nat.le_of_ble_eq_true rfl)) dX11_emitWithin_297 ⟨(by first | (simp only [headSpec]; omega) | omega | (dsimp only; omega)), (by first | (simp only [headSpec]; omega) | omega | (dsimp only; omega))⟩) hS (fun σ_s_307 H locs hw_306 hH hS => ?_)
                  obtain ⟨hO9, hF9, hM9, hw_306⟩ := hw_306
                  replace hM := hM.tu hM9 (by decide)
                  replace hF := hF.tu hF9 (by decide)
                  have e_308 : gI σ_s_307 a 32 = a320 := (hM9.i (by decide)).trans J_281_9
                  have e_309 : gI σ_s_307 a 33 = a330 := (hM9.i (by decide)).trans J_281_10
                  have e_310 : aF σ_s_307 (ad E a 1) = f1 := (hM9.a (by decide) (by decide)).trans J_281_11
                  have e_311 : aF σ_s_307 (ad E a 2) = f2 := (hM9.a (by decide) (by decide)).trans J_281_12
                  have e_312 : aF σ_s_307 (ad E a 35) = F35q278 := (hM9.a (by decide) (by decide)).trans J_281_14
                  replace hO := hO9
                  generalize ef_314 : aF σ_s_307 (ad E a 3) = g_313 at hw_306
                  have hw_306 : blk F3q277 g_313 (gI σ_J_281 a 5) (gI σ_J_281 a 5 + mS f2 0) a330 ∧ mS g_313 (gI σ_J_281 a 5) = mS f2 0 ∧ gI σ_s_307 a 5 = gI σ_J_281 a 5 + mS f2 0 := hw_306
                  exact th_vret hx hb hr hlocks hH hS ⟨hO, hF, hM, by have h9 := hw_306.1; rw [show gI σ_J_281 a 5 = G5q279 by omega] at h9; have h7 := (J_281_2.to (k := z_3) (by omega)).add (n := (z_3).toNat) J_281_4 (hy2.1.2.one (by omega) (by omega)) h9 (by omega) (fun _ => (hw_301.resolve_right (fun h9 => by have h8 := h9.2.2.1; omega)).2) (by omega); rw [show aF σ_s_307 (ad E a 3) = g_313 from ef_314, show aF σ_s_307 (ad E a 35) = F35q278 from e_312, show gI σ_s_307 a 5 = G5q279 + mS f2 0 by omega]; exact ⟨h7, blk.tr0 J_281_3 h9 (by omega), J_281_5⟩⟩ dX11_emitWithin_300
            · replace c_299 := (I_eq (a := a320) (b := 1) ra320 (show rng 1 from ⟨by decide, by decide⟩)).mp c_299
              refine lv_aload_n hx hb dX11_emitWithin_244 rfl (lv_at hl 0 rfl) ?_
              refine ok.getR hO h_a (by decide) k13_1 (by decide) (fun _ _ he hv kk => th_get (ci := 11) (C := RX11) (T := TX11) (N := 66) hx hb hts inX11 hown hK hH he rfl 1 (by decide) fl0 hv dX11_emitWithin_245 kk) ?_
              refine lv_iload_n hx hb dX11_emitWithin_248 rfl (lv_at hl 1 rfl) ?_
              refine th_calli (va_runS (As := [.ref (ad E a 1), .int (I i)]) (rest := []) ⟨hx, hb, hml, hown, hts⟩ (w_kind l G y b0 σ_J_281 E hO (ad E a 1) 240 f1 (hO.roww h_a k13_1 isA1 J_281_11 rfl) i (show rng i from ri) (by omega) (by omega) (by omega)) (va_cwS 2 hts gX11_emitWithin_X11_kind rfl rfl rfl (by decide +kernel) ⟨(by first | (simp only [headSpec]; omega) | omega | (dsimp only; omega)), (by first | (simp only [headSpec]; omega) | omega | (dsimp only; omega))⟩) (th_PS hK hH) rfl rfl hl.1 rfl (lv_room (Nat.le_of_ble_eq_true rfl)) dX11_emitWithin_249 ⟨(by first | (simp only [headSpec]; omega) | omega | (dsimp only; omega)), (by first | (simp only [headSpec]; omega) | omega | (dsimp only; omega))⟩) hS (fun z_317 σ_s_316 H locs rz_317 hw_315 hH hS => ?_)
              obtain ⟨e9, hw_315⟩ := hw_315
              replace e9 := e9.symm
              subst e9
              have hw_315 : z_317 = mK f1 i := hw_315
              refine lv_iconst (v := I 2) hx hb dX11_emitWithin_252 (by decide) ?_
              refine lv_icmp_ne (tgt := 266) hx hb dX11_emitWithin_253 (by decide) (fun c_318 => ?_) (fun c_318 => ?_)
              · replace c_318 := mt (I_eq (a := z_317) (b := 2) rz_317 (show rng 2 from ⟨by decide, by decide⟩)).mpr c_318
                refine lv_iload hx hb dX11_emitWithin_266 (lv_at hl 6 rfl) ?_
                refine lv_if_eq (tgt := 300) hx hb dX11_emitWithin_268 (by decide) (fun c_319 => ?_) (fun c_319 => ?_)
                · replace c_319 := (I_eq (a := w0q125) (b := 0) rw0q125 (show rng 0 from ⟨by decide, by decide⟩)).mp c_319
                  exact th_vret hx hb hr hlocks hH hS ⟨hO, hF, hM, by have h7 := (J_281_2.to (k := z_3) (by omega)).fin (n := (z_3).toNat) J_281_4 (hy2.1.2.one (by omega) (by omega)); rw [show aF σ_J_281 (ad E a 3) = F3q277 from J_281_13, show aF σ_J_281 (ad E a 35) = F35q278 from J_281_14, show gI σ_J_281 a 5 = G5q279 by omega]; exact ⟨h7, J_281_3, J_281_5⟩⟩ dX11_emitWithin_300
                · replace c_319 := mt (I_eq (a := w0q125) (b := 0) rw0q125 (show rng 0 from ⟨by decide, by decide⟩)).mpr c_319
                  refine lv_aload_n hx hb dX11_emitWithin_271 rfl (lv_at hl 0 rfl) ?_
                  refine ok.getR hO h_a (by decide) k13_1 (by decide) (fun _ _ he hv kk => th_get (ci := 11) (C := RX11) (T := TX11) (N := 66) hx hb hts inX11 hown hK hH he rfl 1 (by decide) fl0 hv dX11_emitWithin_272 kk) ?_
                  refine lv_iload_n hx hb dX11_emitWithin_275 rfl (lv_at hl 1 rfl) ?_
                  refine lv_aload_n hx hb dX11_emitWithin_276 rfl (lv_at hl 0 rfl) ?_
                  refine ok.getIc hO h_a (by decide) k13_33 J_281_10 (fun _ _ he hv kk => th_get (ci := 11) (C := RX11) (T := TX11) (N := 66) hx hb hts inX11 hown hK hH he rfl 33 (by decide) fl1 hv dX11_emitWithin_277 kk) ?_
                  refine th_calli (va_runS (As := [.ref (ad E a 1), .int (I i), .int (I a330)]) (rest := []) ⟨hx, hb, hml, hown, hts⟩ (w_byKey l G y b0 σ_J_281 E hO (ad E a 1) 240 f1 (hO.roww h_a k13_1 isA1 J_281_11 rfl) i (show rng i from ri) (by omega) (by omega) a330 (show rng a330 from ra330) (by first | exact hy0 | exact (hy0).sub (by omega) (by omega)) (by omega) (by omega) (by omega)) (va_cwS 3 hts gX11_emitWithin_X11_byKey rfl rfl rfl (by decide +kernel) ⟨(by first | (simp only [headSpec]; omega) | omega | (dsimp only; omega)), (by first | (simp only [headSpec]; omega) | omega | (dsimp only; omega))⟩) (th_PS hK hH) rfl rfl hl.1 rfl (lv_room (Nat.le_of_ble_eq_true rfl)) dX11_emitWithin_280 ⟨(by first | (simp only [headSpec]; omega) | omega | (dsimp only; omega)), (by first | (simp only [headSpec]; omega) | omega | (dsimp only; omega))⟩) hS (fun z_322 σ_s_321 H locs rz_322 hw_320 hH hS => ?_)
                  obtain ⟨e9, hw_320⟩ := hw_320
                  replace e9 := e9.symm
                  subst e9
                  have hw_320 : (z_322 = -1 ∧ nok f1 (i + 1) (i + mS f1 i) a330) ∨ (kid f1 i z_322 ∧ mY f1 z_322 = a330 ∧ i < z_322 ∧ z_322 < i + mS f1 i) := hw_320
                  refine lv_iconst (v := I (-1)) hx hb dX11_emitWithin_283 (by decide) ?_
                  refine lv_icmp_ne (tgt := 300) hx hb dX11_emitWithin_284 (by decide) (fun c_323 => ?_) (fun c_323 => ?_)
                  · replace c_323 := mt (I_eq (a := z_322) (b := (-1)) rz_322 (show rng (-1) from ⟨by decide, by decide⟩)).mpr c_323
                    exact th_vret hx hb hr hlocks hH hS ⟨hO, hF, hM, by have h7 := (J_281_2.to (k := z_3) (by omega)).fin (n := (z_3).toNat) J_281_4 (hy2.1.2.one (by omega) (by omega)); rw [show aF σ_J_281 (ad E a 3) = F3q277 from J_281_13, show aF σ_J_281 (ad E a 35) = F35q278 from J_281_14, show gI σ_J_281 a 5 = G5q279 by omega]; exact ⟨h7, J_281_3, J_281_5⟩⟩ dX11_emitWithin_300
                  · replace c_323 := (I_eq (a := z_322) (b := (-1)) rz_322 (show rng (-1) from ⟨by decide, by decide⟩)).mp c_323
                    have ht9 := (hy3 (by omega)).2
                    refine lv_aload_n hx hb dX11_emitWithin_287 rfl (lv_at hl 0 rfl) ?_
                    refine lv_aload_n hx hb dX11_emitWithin_288 rfl (lv_at hl 0 rfl) ?_
                    refine ok.getR hO h_a (by decide) k13_2 (by decide) (fun _ _ he hv kk => th_get (ci := 11) (C := RX11) (T := TX11) (N := 66) hx hb hts inX11 hown hK hH he rfl 2 (by decide) fl2 hv dX11_emitWithin_289 kk) ?_
                    refine lv_iconst (v := I 0) hx hb dX11_emitWithin_292 (by decide) ?_
                    refine lv_aload_n hx hb dX11_emitWithin_293 rfl (lv_at hl 0 rfl) ?_
                    refine ok.getIc hO h_a (by decide) k13_33 J_281_10 (fun _ _ he hv kk => th_get (ci := 11) (C := RX11) (T := TX11) (N := 66) hx hb hts inX11 hown hK hH he rfl 33 (by decide) fl1 hv dX11_emitWithin_294 kk) ?_
                    obtain ⟨_, hc_324⟩ := hO.cell h_a (by decide) (ci := 11) rfl
                    refine th_callv (va_runV (As := [.ref (ad E a 2), .int (I 0), .int (I a330)]) (rest := []) ⟨hx, hb, hml, hown, hts⟩ (m_copyWith2 l G y b0 σ_J_281 E hO a h_a 0 (show rng 0 from (show rng 0 from ⟨by decide, by decide⟩)) (by omega) (by omega) a330 (show rng a330 from ra330) f2 J_281_12 F3q277 J_281_13 ((hy3 (by omega))) (by omega) (by omega)) (cwV 3 hts gX11_emitWithin_X11_copyWith rfl rfl rfl (by decide +kernel) ⟨(by first | (simp only [headSpec]; omega) | omega | (dsimp only; omega)), (by first | (simp only [headSpec]; omega) | omega | (dsimp only; omega))⟩) (th_PV hK hH rfl hc_324) rfl rfl hl.1 rfl (lv_room (Nat.le_of_ble_eq_true rfl)) dX11_emitWithin_297 ⟨(by first | (simp only [headSpec]; omega) | omega | (dsimp only; omega)), (by first | (simp only [headSpec]; omega) | omega | (dsimp only; omega))⟩) hS (fun σ_s_326 H locs hw_325 hH hS => ?_)
                    obtain ⟨hO9, hF9, hM9, hw_325⟩ := hw_325
                    replace hM := hM.tu hM9 (by decide)
                    replace hF := hF.tu hF9 (by decide)
                    have e_327 : gI σ_s_326 a 32 = a320 := (hM9.i (by decide)).trans J_281_9
                    have e_328 : gI σ_s_326 a 33 = a330 := (hM9.i (by decide)).trans J_281_10
                    have e_329 : aF σ_s_326 (ad E a 1) = f1 := (hM9.a (by decide) (by decide)).trans J_281_11
                    have e_330 : aF σ_s_326 (ad E a 2) = f2 := (hM9.a (by decide) (by decide)).trans J_281_12
                    have e_331 : aF σ_s_326 (ad E a 35) = F35q278 := (hM9.a (by decide) (by decide)).trans J_281_14
                    replace hO := hO9
                    generalize ef_333 : aF σ_s_326 (ad E a 3) = g_332 at hw_325
                    have hw_325 : blk F3q277 g_332 (gI σ_J_281 a 5) (gI σ_J_281 a 5 + mS f2 0) a330 ∧ mS g_332 (gI σ_J_281 a 5) = mS f2 0 ∧ gI σ_s_326 a 5 = gI σ_J_281 a 5 + mS f2 0 := hw_325
                    exact th_vret hx hb hr hlocks hH hS ⟨hO, hF, hM, by have h9 := hw_325.1; rw [show gI σ_J_281 a 5 = G5q279 by omega] at h9; have h7 := (J_281_2.to (k := z_3) (by omega)).add (n := (z_3).toNat) J_281_4 (hy2.1.2.one (by omega) (by omega)) h9 (by omega) (fun _ => (hw_320.resolve_right (fun h9 => by have h8 := h9.2.2.1; omega)).2) (by omega); rw [show aF σ_s_326 (ad E a 3) = g_332 from ef_333, show aF σ_s_326 (ad E a 35) = F35q278 from e_331, show gI σ_s_326 a 5 = G5q279 + mS f2 0 by omega]; exact ⟨h7, blk.tr0 J_281_3 h9 (by omega), J_281_5⟩⟩ dX11_emitWithin_300
              · replace c_318 := (I_eq (a := z_317) (b := 2) rz_317 (show rng 2 from ⟨by decide, by decide⟩)).mp c_318
                have ht9 := (hy3 (by omega)).2
                refine lv_aload_n hx hb dX11_emitWithin_256 rfl (lv_at hl 0 rfl) ?_
                refine lv_aload_n hx hb dX11_emitWithin_257 rfl (lv_at hl 0 rfl) ?_
                refine ok.getR hO h_a (by decide) k13_2 (by decide) (fun _ _ he hv kk => th_get (ci := 11) (C := RX11) (T := TX11) (N := 66) hx hb hts inX11 hown hK hH he rfl 2 (by decide) fl2 hv dX11_emitWithin_258 kk) ?_
                refine lv_iconst (v := I 0) hx hb dX11_emitWithin_261 (by decide) ?_
                refine lv_iconst (v := I 0) hx hb dX11_emitWithin_262 (by decide) ?_
                obtain ⟨_, hc_334⟩ := hO.cell h_a (by decide) (ci := 11) rfl
                refine th_callv (va_runV (As := [.ref (ad E a 2), .int (I 0), .int (I 0)]) (rest := []) ⟨hx, hb, hml, hown, hts⟩ (m_copyWith2 l G y b0 σ_J_281 E hO a h_a 0 (show rng 0 from (show rng 0 from ⟨by decide, by decide⟩)) (by omega) (by omega) 0 (show rng 0 from (show rng 0 from ⟨by decide, by decide⟩)) f2 J_281_12 F3q277 J_281_13 ((hy3 (by omega))) (by omega) (by omega)) (cwV 3 hts gX11_emitWithin_X11_copyWith rfl rfl rfl (by decide +kernel) ⟨(by first | (simp only [headSpec]; omega) | omega | (dsimp only; omega)), (by first | (simp only [headSpec]; omega) | omega | (dsimp only; omega))⟩) (th_PV hK hH rfl hc_334) rfl rfl hl.1 rfl (lv_room (Nat.le_of_ble_eq_true rfl)) dX11_emitWithin_263 ⟨(by first | (simp only [headSpec]; omega) | omega | (dsimp only; omega)), (by first | (simp only [headSpec]; omega) | omega | (dsimp only; omega))⟩) hS (fun σ_s_336 H locs hw_335 hH hS => ?_)
                obtain ⟨hO9, hF9, hM9, hw_335⟩ := hw_335
                replace hM := hM.tu hM9 (by decide)
                replace hF := hF.tu hF9 (by decide)
                have e_337 : gI σ_s_336 a 32 = a320 := (hM9.i (by decide)).trans J_281_9
                have e_338 : gI σ_s_336 a 33 = a330 := (hM9.i (by decide)).trans J_281_10
                have e_339 : aF σ_s_336 (ad E a 1) = f1 := (hM9.a (by decide) (by decide)).trans J_281_11
                have e_340 : aF σ_s_336 (ad E a 2) = f2 := (hM9.a (by decide) (by decide)).trans J_281_12
                have e_341 : aF σ_s_336 (ad E a 35) = F35q278 := (hM9.a (by decide) (by decide)).trans J_281_14
                replace hO := hO9
                generalize ef_343 : aF σ_s_336 (ad E a 3) = g_342 at hw_335
                have hw_335 : blk F3q277 g_342 (gI σ_J_281 a 5) (gI σ_J_281 a 5 + mS f2 0) 0 ∧ mS g_342 (gI σ_J_281 a 5) = mS f2 0 ∧ gI σ_s_336 a 5 = gI σ_J_281 a 5 + mS f2 0 := hw_335
                refine lv_iload hx hb dX11_emitWithin_266 (lv_at hl 6 rfl) ?_
                refine lv_if_eq (tgt := 300) hx hb dX11_emitWithin_268 (by decide) (fun c_344 => ?_) (fun c_344 => ?_)
                · replace c_344 := (I_eq (a := w0q125) (b := 0) rw0q125 (show rng 0 from ⟨by decide, by decide⟩)).mp c_344
                  exact th_vret hx hb hr hlocks hH hS ⟨hO, hF, hM, by have h9 := hw_335.1; rw [show gI σ_J_281 a 5 = G5q279 by omega] at h9; have h7 := (J_281_2.to (k := z_3) (by omega)).add (n := (z_3).toNat) J_281_4 (hy2.1.2.one (by omega) (by omega)) h9 (by omega) (fun h9 => absurd h9 (by omega)) (by omega); rw [show aF σ_s_336 (ad E a 3) = g_342 from ef_343, show aF σ_s_336 (ad E a 35) = F35q278 from e_341, show gI σ_s_336 a 5 = G5q279 + mS f2 0 by omega]; exact ⟨h7, blk.tr0 J_281_3 h9 (by omega), J_281_5⟩⟩ dX11_emitWithin_300
                · replace c_344 := mt (I_eq (a := w0q125) (b := 0) rw0q125 (show rng 0 from ⟨by decide, by decide⟩)).mpr c_344
                  exfalso; omega
        · replace c_282 := mt (I_le (a := z_3) (b := v7q280) rz_3 rv7q280).mpr c_282
          refine lv_aload_n hx hb dX11_emitWithin_147 rfl (lv_at hl 0 rfl) ?_
          refine ok.getR hO h_a (by decide) k13_35 (by decide) (fun _ _ he hv kk => th_get (ci := 11) (C := RX11) (T := TX11) (N := 66) hx hb hts inX11 hown hK hH he rfl 35 (by decide) fl4 hv dX11_emitWithin_148 kk) ?_
          refine lv_iload hx hb dX11_emitWithin_151 (lv_at hl 5 rfl) ?_
          refine lv_iload hx hb dX11_emitWithin_153 (lv_at hl 7 rfl) ?_
          refine lv_iadd hx hb dX11_emitWithin_155 ?_
          refine nq_top (I_add _ _) ?_
          refine m_iald hx hb hK hH hO h_a k13_35 isA1 J_281_14 ⟨by omega, by omega⟩ (by omega) (by omega) dX11_emitWithin_156 (fun z_345 ez_345 rz_345 elx9 => ?_)
          have hk8 := J_281_4.at hy0 (by omega) (by omega) (k := (v7q280).toNat) (x := (60 * dp + v7q280).toNat) (z := z_345) (by omega) (by omega) ez_345
          have hk7 := hk8.1
          have hk6 := hk8.2.1
          have hrm := J_281_2.room J_281_4 hy0 (by omega) (by omega) (by omega) (by omega) (by omega) (x := (60 * dp + v7q280).toNat) (by omega) ez_345
          have hk5 := hy0 z_345 (by omega) (by omega)
          have hcn := cn_kid (f := f1) (b := mS f1 0) hy0 (i := i) (j := z_345) (by omega) (by omega) (by omega) (by omega)
          have htr := hy2.at (p := z_345) (by omega) (by omega)
          refine lv_istore (lv' := [(8, .int (I z_345)), (0, .ref a), (1, .int (I i)), (2, .int (I is)), (3, .int (I dp)), (4, .int (I z_3)), (5, .int (I (60 * dp))), (6, .int (I w0q125)), (7, .int (I v7q280))]) hx hb dX11_emitWithin_157 hl (by decide) rfl (fun ls hl => ?_)
          refine lv_iload hx hb dX11_emitWithin_159 (lv_at hl 7 rfl) ?_
          refine lv_if_eq (tgt := 198) hx hb dX11_emitWithin_161 (by decide) (fun c_346 => ?_) (fun c_346 => ?_)
          · replace c_346 := (I_eq (a := w0q125) (b := 0) rw0q125 (show rng 0 from ⟨by decide, by decide⟩)).mp c_346
            refine lv_aload_n hx hb dX11_emitWithin_198 rfl (lv_at hl 1 rfl) ?_
            refine ok.getIc hO h_a (by decide) k13_32 J_281_9 (fun _ _ he hv kk => th_get (ci := 11) (C := RX11) (T := TX11) (N := 66) hx hb hts inX11 hown hK hH he rfl 32 (by decide) fl3 hv dX11_emitWithin_199 kk) ?_
            refine lv_bipush (v := I 6) hx hb dX11_emitWithin_202 (by decide) ?_
            refine lv_icmp_ne (tgt := 217) hx hb dX11_emitWithin_204 (by decide) (fun c_347 => ?_) (fun c_347 => ?_)
            · replace c_347 := mt (I_eq (a := a320) (b := 6) ra320 (show rng 6 from ⟨by decide, by decide⟩)).mpr c_347
              refine lv_aload_n hx hb dX11_emitWithin_217 rfl (lv_at hl 1 rfl) ?_
              refine lv_iload hx hb dX11_emitWithin_218 (lv_at hl 0 rfl) ?_
              refine lv_iload_n hx hb dX11_emitWithin_220 rfl (lv_at hl 4 rfl) ?_
              refine lv_iconst (v := I 1) hx hb dX11_emitWithin_221 (by decide) ?_
              refine lv_iadd hx hb dX11_emitWithin_222 ?_
              refine nq_top (I_add _ _) ?_
              obtain ⟨_, hc_348⟩ := hO.cell h_a (by decide) (ci := 11) rfl
              refine th_callv (va_runV (As := [.int (I z_345), .int (I (dp + 1))]) (rest := []) ⟨hx, hb, hml, hown, hts⟩ (ih l G y b0 σ_J_281 E hO a h_a z_345 (show rng z_345 from rz_345) (by omega) (by omega) (dp + 1) (show rng (dp + 1) from ⟨by omega, by omega⟩) (by omega) (by omega) f1 J_281_11 f2 J_281_12 F3q277 J_281_13 F35q278 J_281_14 (hy0) (by omega) (hy2) ((by rw [show gI σ_J_281 a 32 = gI σ a 32 by omega]; exact hy3)) (by omega) ((by omega)) (by omega) (by omega)) (cwV 2 hts gX11_emitWithin_X11_emit rfl rfl rfl (by decide +kernel) ⟨(by first | (simp only [headSpec]; omega) | omega | (dsimp only; omega)), (by first | (simp only [headSpec]; omega) | omega | (dsimp only; omega))⟩) (th_PV hK hH rfl hc_348) rfl rfl hl.1 rfl (lv_room (Nat.le_of_ble_eq_true rfl)) dX11_emitWithin_223 ⟨(by first | (simp only [headSpec]; omega) | omega | (dsimp only; omega)), (by first | (simp only [headSpec]; omega) | omega | (dsimp only; omega))⟩) hS (fun σ_s_350 H locs hw_349 hH hS => ?_)
              obtain ⟨hO9, hF9, hM9, hw_349⟩ := hw_349
              replace hM := hM.tu hM9 (by decide)
              replace hF := hF.tu hF9 (by decide)
              have e_351 : gI σ_s_350 a 32 = a320 := (hM9.i (by decide)).trans J_281_9
              have e_352 : gI σ_s_350 a 33 = a330 := (hM9.i (by decide)).trans J_281_10
              have e_353 : aF σ_s_350 (ad E a 1) = f1 := (hM9.a (by decide) (by decide)).trans J_281_11
              have e_354 : aF σ_s_350 (ad E a 2) = f2 := (hM9.a (by decide) (by decide)).trans J_281_12
              replace hO := hO9
              generalize ef_356 : aF σ_s_350 (ad E a 3) = g_355 at hw_349
              generalize ef_358 : aF σ_s_350 (ad E a 35) = g_357 at hw_349
              have hw_349 : blk F3q277 g_355 (gI σ_J_281 a 5) (gI σ_s_350 a 5) (mY f1 z_345) ∧ gI σ_s_350 a 5 - gI σ_J_281 a 5 ≤ 61 * mS f1 z_345 ∧ ofr F35q278 g_357 (60 * (dp + 1)) := hw_349
              have hlt9 := hw_349.1.2.2.2.2
              refine lv_iinc (v := I (v7q280 + 1)) (lv' := [(7, .int (I (v7q280 + 1))), (8, .int (I z_345)), (0, .ref a), (1, .int (I i)), (2, .int (I is)), (3, .int (I dp)), (4, .int (I z_3)), (5, .int (I (60 * dp))), (6, .int (I w0q125))]) hx hb dX11_emitWithin_226 hl (k := 8) rfl (I_add _ _) (by decide) rfl (fun ls hl => ?_)
              refine lv_goto (tgt := 140) hx hb dX11_emitWithin_229 (by decide) ?_
              replace hl : lv_has ls 9 [(7, .int (I (v7q280 + 1))), (0, .ref a), (1, .int (I i)), (2, .int (I is)), (3, .int (I dp)), (4, .int (I z_3)), (5, .int (I (60 * dp))), (6, .int (I w0q125))] := lv_sub hl [0, 2, 3, 4, 5, 6, 7, 8] rfl
              obtain ⟨z_359, e_360, rz_359, lz_359, uz_359⟩ := hO.gi h_a (by decide) k13_5
              exact ihJ_281 (v7q280 + 1, z_359, g_355, g_357) σ_s_350 _ _ _ (by first | (dsimp only; omega) | omega) ⟨hO, hF, hM, hH, hS, lv_sub hl [1, 2, 3, 4, 5, 6, 7, 0] rfl, ⟨by first | (dsimp only; omega) | omega, by first | (dsimp only; omega) | omega⟩, rz_359, by first | (dsimp only; omega) | omega, by first | (dsimp only; omega) | omega, (by have h9 := hw_349.1; rw [show gI σ_J_281 a 5 = G5q279 by omega] at h9; exact (J_281_2.next1 ez_345 (by first | (dsimp only; omega) | omega) (by first | (dsimp only; omega) | omega) (by omega) hw_349.2.2 (by first | (dsimp only; omega) | omega) h9 rfl (by omega) (by omega)).cur (by first | (dsimp only; omega) | omega)), (blk.tr0 J_281_3 hw_349.1 (by omega)), (J_281_4.same (fun q9 h8 h9 => hw_349.2.2 q9 (by omega) (by omega))), (J_281_5.tr hw_349.2.2 (by omega)), by first | (dsimp only; omega) | omega, by first | (dsimp only; omega) | omega, by first | (dsimp only; omega) | omega, e_351, e_352, e_353, e_354, ef_356, ef_358, e_360⟩
            · replace c_347 := (I_eq (a := a320) (b := 6) ra320 (show rng 6 from ⟨by decide, by decide⟩)).mp c_347
              refine lv_aload_n hx hb dX11_emitWithin_207 rfl (lv_at hl 1 rfl) ?_
              refine ok.getR hO h_a (by decide) k13_23 (by decide) (fun _ _ he hv kk => th_get (ci := 11) (C := RX11) (T := TX11) (N := 66) hx hb hts inX11 hown hK hH he rfl 23 (by decide) fl5 hv dX11_emitWithin_208 kk) ?_
              refine lv_iload hx hb dX11_emitWithin_211 (lv_at hl 0 rfl) ?_
              refine m_zald hx hb hK hH hO h_a k13_23 rz_345 (by omega) (by omega) dX11_emitWithin_213 (fun z_361 rz_361 uz_361 => ?_)
              refine lv_if_ne (tgt := 226) hx hb dX11_emitWithin_214 (by decide) (fun c_362 => ?_) (fun c_362 => ?_)
              · replace c_362 := mt (I_eq (a := z_361) (b := 0) rz_361 (show rng 0 from ⟨by decide, by decide⟩)).mpr c_362
                refine lv_iinc (v := I (v7q280 + 1)) (lv' := [(7, .int (I (v7q280 + 1))), (8, .int (I z_345)), (0, .ref a), (1, .int (I i)), (2, .int (I is)), (3, .int (I dp)), (4, .int (I z_3)), (5, .int (I (60 * dp))), (6, .int (I w0q125))]) hx hb dX11_emitWithin_226 hl (k := 8) rfl (I_add _ _) (by decide) rfl (fun ls hl => ?_)
                refine lv_goto (tgt := 140) hx hb dX11_emitWithin_229 (by decide) ?_
                replace hl : lv_has ls 9 [(7, .int (I (v7q280 + 1))), (0, .ref a), (1, .int (I i)), (2, .int (I is)), (3, .int (I dp)), (4, .int (I z_3)), (5, .int (I (60 * dp))), (6, .int (I w0q125))] := lv_sub hl [0, 2, 3, 4, 5, 6, 7, 8] rfl
                exact ihJ_281 (v7q280 + 1, G5q279, F3q277, F35q278) σ_J_281 _ _ _ (by first | (dsimp only; omega) | omega) ⟨hO, hF, hM, hH, hS, lv_sub hl [1, 2, 3, 4, 5, 6, 7, 0] rfl, ⟨by first | (dsimp only; omega) | omega, by first | (dsimp only; omega) | omega⟩, rG5q279, by first | (dsimp only; omega) | omega, by first | (dsimp only; omega) | omega, (J_281_2.next0 ez_345 (by first | (dsimp only; omega) | omega) (by first | (dsimp only; omega) | omega) (by omega)), J_281_3, J_281_4, J_281_5, by first | (dsimp only; omega) | omega, by first | (dsimp only; omega) | omega, by first | (dsimp only; omega) | omega, J_281_9, J_281_10, J_281_11, J_281_12, J_281_13, J_281_14, J_281_15⟩
              · replace c_362 := (I_eq (a := z_361) (b := 0) rz_361 (show rng 0 from ⟨by decide, by decide⟩)).mp c_362
                refine lv_aload_n hx hb dX11_emitWithin_217 rfl (lv_at hl 1 rfl) ?_
                refine lv_iload hx hb dX11_emitWithin_218 (lv_at hl 0 rfl) ?_
                refine lv_iload_n hx hb dX11_emitWithin_220 rfl (lv_at hl 4 rfl) ?_
                refine lv_iconst (v := I 1) hx hb dX11_emitWithin_221 (by decide) ?_
                refine lv_iadd hx hb dX11_emitWithin_222 ?_
                refine nq_top (I_add _ _) ?_
                obtain ⟨_, hc_363⟩ := hO.cell h_a (by decide) (ci := 11) rfl
                refine th_callv (va_runV (As := [.int (I z_345), .int (I (dp + 1))]) (rest := []) ⟨hx, hb, hml, hown, hts⟩ (ih l G y b0 σ_J_281 E hO a h_a z_345 (show rng z_345 from rz_345) (by omega) (by omega) (dp + 1) (show rng (dp + 1) from ⟨by omega, by omega⟩) (by omega) (by omega) f1 J_281_11 f2 J_281_12 F3q277 J_281_13 F35q278 J_281_14 (hy0) (by omega) (hy2) ((by rw [show gI σ_J_281 a 32 = gI σ a 32 by omega]; exact hy3)) (by omega) ((by omega)) (by omega) (by omega)) (cwV 2 hts gX11_emitWithin_X11_emit rfl rfl rfl (by decide +kernel) ⟨(by first | (simp only [headSpec]; omega) | omega | (dsimp only; omega)), (by first | (simp only [headSpec]; omega) | omega | (dsimp only; omega))⟩) (th_PV hK hH rfl hc_363) rfl rfl hl.1 rfl (lv_room (Nat.le_of_ble_eq_true rfl)) dX11_emitWithin_223 ⟨(by first | (simp only [headSpec]; omega) | omega | (dsimp only; omega)), (by first | (simp only [headSpec]; omega) | omega | (dsimp only; omega))⟩) hS (fun σ_s_365 H locs hw_364 hH hS => ?_)
                obtain ⟨hO9, hF9, hM9, hw_364⟩ := hw_364
                replace hM := hM.tu hM9 (by decide)
                replace hF := hF.tu hF9 (by decide)
                have e_366 : gI σ_s_365 a 32 = a320 := (hM9.i (by decide)).trans J_281_9
                have e_367 : gI σ_s_365 a 33 = a330 := (hM9.i (by decide)).trans J_281_10
                have e_368 : aF σ_s_365 (ad E a 1) = f1 := (hM9.a (by decide) (by decide)).trans J_281_11
                have e_369 : aF σ_s_365 (ad E a 2) = f2 := (hM9.a (by decide) (by decide)).trans J_281_12
                replace hO := hO9
                generalize ef_371 : aF σ_s_365 (ad E a 3) = g_370 at hw_364
                generalize ef_373 : aF σ_s_365 (ad E a 35) = g_372 at hw_364
                have hw_364 : blk F3q277 g_370 (gI σ_J_281 a 5) (gI σ_s_365 a 5) (mY f1 z_345) ∧ gI σ_s_365 a 5 - gI σ_J_281 a 5 ≤ 61 * mS f1 z_345 ∧ ofr F35q278 g_372 (60 * (dp + 1)) := hw_364
                have hlt9 := hw_364.1.2.2.2.2
                refine lv_iinc (v := I (v7q280 + 1)) (lv' := [(7, .int (I (v7q280 + 1))), (8, .int (I z_345)), (0, .ref a), (1, .int (I i)), (2, .int (I is)), (3, .int (I dp)), (4, .int (I z_3)), (5, .int (I (60 * dp))), (6, .int (I w0q125))]) hx hb dX11_emitWithin_226 hl (k := 8) rfl (I_add _ _) (by decide) rfl (fun ls hl => ?_)
                refine lv_goto (tgt := 140) hx hb dX11_emitWithin_229 (by decide) ?_
                replace hl : lv_has ls 9 [(7, .int (I (v7q280 + 1))), (0, .ref a), (1, .int (I i)), (2, .int (I is)), (3, .int (I dp)), (4, .int (I z_3)), (5, .int (I (60 * dp))), (6, .int (I w0q125))] := lv_sub hl [0, 2, 3, 4, 5, 6, 7, 8] rfl
                obtain ⟨z_374, e_375, rz_374, lz_374, uz_374⟩ := hO.gi h_a (by decide) k13_5
                exact ihJ_281 (v7q280 + 1, z_374, g_370, g_372) σ_s_365 _ _ _ (by first | (dsimp only; omega) | omega) ⟨hO, hF, hM, hH, hS, lv_sub hl [1, 2, 3, 4, 5, 6, 7, 0] rfl, ⟨by first | (dsimp only; omega) | omega, by first | (dsimp only; omega) | omega⟩, rz_374, by first | (dsimp only; omega) | omega, by first | (dsimp only; omega) | omega, (by have h9 := hw_364.1; rw [show gI σ_J_281 a 5 = G5q279 by omega] at h9; exact (J_281_2.next1 ez_345 (by first | (dsimp only; omega) | omega) (by first | (dsimp only; omega) | omega) (by omega) hw_364.2.2 (by first | (dsimp only; omega) | omega) h9 rfl (by omega) (by omega)).cur (by first | (dsimp only; omega) | omega)), (blk.tr0 J_281_3 hw_364.1 (by omega)), (J_281_4.same (fun q9 h8 h9 => hw_364.2.2 q9 (by omega) (by omega))), (J_281_5.tr hw_364.2.2 (by omega)), by first | (dsimp only; omega) | omega, by first | (dsimp only; omega) | omega, by first | (dsimp only; omega) | omega, e_366, e_367, e_368, e_369, ef_371, ef_373, e_375⟩
          · replace c_346 := mt (I_eq (a := w0q125) (b := 0) rw0q125 (show rng 0 from ⟨by decide, by decide⟩)).mpr c_346
            refine lv_aload_n hx hb dX11_emitWithin_164 rfl (lv_at hl 1 rfl) ?_
            refine ok.getR hO h_a (by decide) k13_1 (by decide) (fun _ _ he hv kk => th_get (ci := 11) (C := RX11) (T := TX11) (N := 66) hx hb hts inX11 hown hK hH he rfl 1 (by decide) fl0 hv dX11_emitWithin_165 kk) ?_
            refine lv_iconst (v := I 4) hx hb dX11_emitWithin_168 (by decide) ?_
            refine lv_iload hx hb dX11_emitWithin_169 (lv_at hl 0 rfl) ?_
            refine lv_imul hx hb dX11_emitWithin_171 ?_
            refine nq_top (I_mul _ _) ?_
            refine lv_iconst (v := I 2) hx hb dX11_emitWithin_172 (by decide) ?_
            refine lv_iadd hx hb dX11_emitWithin_173 ?_
            refine nq_top (I_add _ _) ?_
            refine m_iald hx hb hK hH hO h_a k13_1 isA1 J_281_11 ⟨by omega, by omega⟩ (by omega) (by omega) dX11_emitWithin_174 (fun z_376 ez_376 rz_376 elx9 => ?_)
            refine lv_aload_n hx hb dX11_emitWithin_175 rfl (lv_at hl 1 rfl) ?_
            refine ok.getIc hO h_a (by decide) k13_33 J_281_10 (fun _ _ he hv kk => th_get (ci := 11) (C := RX11) (T := TX11) (N := 66) hx hb hts inX11 hown hK hH he rfl 33 (by decide) fl1 hv dX11_emitWithin_176 kk) ?_
            refine lv_icmp_ne (tgt := 198) hx hb dX11_emitWithin_179 (by decide) (fun c_377 => ?_) (fun c_377 => ?_)
            · replace c_377 := mt (I_eq (a := z_376) (b := a330) rz_376 ra330).mpr c_377
              refine lv_aload_n hx hb dX11_emitWithin_198 rfl (lv_at hl 1 rfl) ?_
              refine ok.getIc hO h_a (by decide) k13_32 J_281_9 (fun _ _ he hv kk => th_get (ci := 11) (C := RX11) (T := TX11) (N := 66) hx hb hts inX11 hown hK hH he rfl 32 (by decide) fl3 hv dX11_emitWithin_199 kk) ?_
              refine lv_bipush (v := I 6) hx hb dX11_emitWithin_202 (by decide) ?_
              refine lv_icmp_ne (tgt := 217) hx hb dX11_emitWithin_204 (by decide) (fun c_378 => ?_) (fun c_378 => ?_)
              · replace c_378 := mt (I_eq (a := a320) (b := 6) ra320 (show rng 6 from ⟨by decide, by decide⟩)).mpr c_378
                refine lv_aload_n hx hb dX11_emitWithin_217 rfl (lv_at hl 1 rfl) ?_
                refine lv_iload hx hb dX11_emitWithin_218 (lv_at hl 0 rfl) ?_
                refine lv_iload_n hx hb dX11_emitWithin_220 rfl (lv_at hl 4 rfl) ?_
                refine lv_iconst (v := I 1) hx hb dX11_emitWithin_221 (by decide) ?_
                refine lv_iadd hx hb dX11_emitWithin_222 ?_
                refine nq_top (I_add _ _) ?_
                obtain ⟨_, hc_379⟩ := hO.cell h_a (by decide) (ci := 11) rfl
                refine th_callv (va_runV (As := [.int (I z_345), .int (I (dp + 1))]) (rest := []) ⟨hx, hb, hml, hown, hts⟩ (ih l G y b0 σ_J_281 E hO a h_a z_345 (show rng z_345 from rz_345) (by omega) (by omega) (dp + 1) (show rng (dp + 1) from ⟨by omega, by omega⟩) (by omega) (by omega) f1 J_281_11 f2 J_281_12 F3q277 J_281_13 F35q278 J_281_14 (hy0) (by omega) (hy2) ((by rw [show gI σ_J_281 a 32 = gI σ a 32 by omega]; exact hy3)) (by omega) ((by omega)) (by omega) (by omega)) (cwV 2 hts gX11_emitWithin_X11_emit rfl rfl rfl (by decide +kernel) ⟨(by first | (simp only [headSpec]; omega) | omega | (dsimp only; omega)), (by first | (simp only [headSpec]; omega) | omega | (dsimp only; omega))⟩) (th_PV hK hH rfl hc_379) rfl rfl hl.1 rfl (lv_room (Nat.le_of_ble_eq_true rfl)) dX11_emitWithin_223 ⟨(by first | (simp only [headSpec]; omega) | omega | (dsimp only; omega)), (by first | (simp only [headSpec]; omega) | omega | (dsimp only; omega))⟩) hS (fun σ_s_381 H locs hw_380 hH hS => ?_)
                obtain ⟨hO9, hF9, hM9, hw_380⟩ := hw_380
                replace hM := hM.tu hM9 (by decide)
                replace hF := hF.tu hF9 (by decide)
                have e_382 : gI σ_s_381 a 32 = a320 := (hM9.i (by decide)).trans J_281_9
                have e_383 : gI σ_s_381 a 33 = a330 := (hM9.i (by decide)).trans J_281_10
                have e_384 : aF σ_s_381 (ad E a 1) = f1 := (hM9.a (by decide) (by decide)).trans J_281_11
                have e_385 : aF σ_s_381 (ad E a 2) = f2 := (hM9.a (by decide) (by decide)).trans J_281_12
                replace hO := hO9
                generalize ef_387 : aF σ_s_381 (ad E a 3) = g_386 at hw_380
                generalize ef_389 : aF σ_s_381 (ad E a 35) = g_388 at hw_380
                have hw_380 : blk F3q277 g_386 (gI σ_J_281 a 5) (gI σ_s_381 a 5) (mY f1 z_345) ∧ gI σ_s_381 a 5 - gI σ_J_281 a 5 ≤ 61 * mS f1 z_345 ∧ ofr F35q278 g_388 (60 * (dp + 1)) := hw_380
                have hlt9 := hw_380.1.2.2.2.2
                refine lv_iinc (v := I (v7q280 + 1)) (lv' := [(7, .int (I (v7q280 + 1))), (8, .int (I z_345)), (0, .ref a), (1, .int (I i)), (2, .int (I is)), (3, .int (I dp)), (4, .int (I z_3)), (5, .int (I (60 * dp))), (6, .int (I w0q125))]) hx hb dX11_emitWithin_226 hl (k := 8) rfl (I_add _ _) (by decide) rfl (fun ls hl => ?_)
                refine lv_goto (tgt := 140) hx hb dX11_emitWithin_229 (by decide) ?_
                replace hl : lv_has ls 9 [(7, .int (I (v7q280 + 1))), (0, .ref a), (1, .int (I i)), (2, .int (I is)), (3, .int (I dp)), (4, .int (I z_3)), (5, .int (I (60 * dp))), (6, .int (I w0q125))] := lv_sub hl [0, 2, 3, 4, 5, 6, 7, 8] rfl
                obtain ⟨z_390, e_391, rz_390, lz_390, uz_390⟩ := hO.gi h_a (by decide) k13_5
                exact ihJ_281 (v7q280 + 1, z_390, g_386, g_388) σ_s_381 _ _ _ (by first | (dsimp only; omega) | omega) ⟨hO, hF, hM, hH, hS, lv_sub hl [1, 2, 3, 4, 5, 6, 7, 0] rfl, ⟨by first | (dsimp only; omega) | omega, by first | (dsimp only; omega) | omega⟩, rz_390, by first | (dsimp only; omega) | omega, by first | (dsimp only; omega) | omega, (by have h9 := hw_380.1; rw [show gI σ_J_281 a 5 = G5q279 by omega] at h9; exact (J_281_2.next1 ez_345 (by first | (dsimp only; omega) | omega) (by first | (dsimp only; omega) | omega) (by omega) hw_380.2.2 (by first | (dsimp only; omega) | omega) h9 rfl (by omega) (by omega)).cur (by first | (dsimp only; omega) | omega)), (blk.tr0 J_281_3 hw_380.1 (by omega)), (J_281_4.same (fun q9 h8 h9 => hw_380.2.2 q9 (by omega) (by omega))), (J_281_5.tr hw_380.2.2 (by omega)), by first | (dsimp only; omega) | omega, by first | (dsimp only; omega) | omega, by first | (dsimp only; omega) | omega, e_382, e_383, e_384, e_385, ef_387, ef_389, e_391⟩
              · replace c_378 := (I_eq (a := a320) (b := 6) ra320 (show rng 6 from ⟨by decide, by decide⟩)).mp c_378
                refine lv_aload_n hx hb dX11_emitWithin_207 rfl (lv_at hl 1 rfl) ?_
                refine ok.getR hO h_a (by decide) k13_23 (by decide) (fun _ _ he hv kk => th_get (ci := 11) (C := RX11) (T := TX11) (N := 66) hx hb hts inX11 hown hK hH he rfl 23 (by decide) fl5 hv dX11_emitWithin_208 kk) ?_
                refine lv_iload hx hb dX11_emitWithin_211 (lv_at hl 0 rfl) ?_
                refine m_zald hx hb hK hH hO h_a k13_23 rz_345 (by omega) (by omega) dX11_emitWithin_213 (fun z_392 rz_392 uz_392 => ?_)
                refine lv_if_ne (tgt := 226) hx hb dX11_emitWithin_214 (by decide) (fun c_393 => ?_) (fun c_393 => ?_)
                · replace c_393 := mt (I_eq (a := z_392) (b := 0) rz_392 (show rng 0 from ⟨by decide, by decide⟩)).mpr c_393
                  refine lv_iinc (v := I (v7q280 + 1)) (lv' := [(7, .int (I (v7q280 + 1))), (8, .int (I z_345)), (0, .ref a), (1, .int (I i)), (2, .int (I is)), (3, .int (I dp)), (4, .int (I z_3)), (5, .int (I (60 * dp))), (6, .int (I w0q125))]) hx hb dX11_emitWithin_226 hl (k := 8) rfl (I_add _ _) (by decide) rfl (fun ls hl => ?_)
                  refine lv_goto (tgt := 140) hx hb dX11_emitWithin_229 (by decide) ?_
                  replace hl : lv_has ls 9 [(7, .int (I (v7q280 + 1))), (0, .ref a), (1, .int (I i)), (2, .int (I is)), (3, .int (I dp)), (4, .int (I z_3)), (5, .int (I (60 * dp))), (6, .int (I w0q125))] := lv_sub hl [0, 2, 3, 4, 5, 6, 7, 8] rfl
                  exact ihJ_281 (v7q280 + 1, G5q279, F3q277, F35q278) σ_J_281 _ _ _ (by first | (dsimp only; omega) | omega) ⟨hO, hF, hM, hH, hS, lv_sub hl [1, 2, 3, 4, 5, 6, 7, 0] rfl, ⟨by first | (dsimp only; omega) | omega, by first | (dsimp only; omega) | omega⟩, rG5q279, by first | (dsimp only; omega) | omega, by first | (dsimp only; omega) | omega, (J_281_2.next0 ez_345 (by first | (dsimp only; omega) | omega) (by first | (dsimp only; omega) | omega) (by omega)), J_281_3, J_281_4, J_281_5, by first | (dsimp only; omega) | omega, by first | (dsimp only; omega) | omega, by first | (dsimp only; omega) | omega, J_281_9, J_281_10, J_281_11, J_281_12, J_281_13, J_281_14, J_281_15⟩
                · replace c_393 := (I_eq (a := z_392) (b := 0) rz_392 (show rng 0 from ⟨by decide, by decide⟩)).mp c_393
                  refine lv_aload_n hx hb dX11_emitWithin_217 rfl (lv_at hl 1 rfl) ?_
                  refine lv_iload hx hb dX11_emitWithin_218 (lv_at hl 0 rfl) ?_
                  refine lv_iload_n hx hb dX11_emitWithin_220 rfl (lv_at hl 4 rfl) ?_
                  refine lv_iconst (v := I 1) hx hb dX11_emitWithin_221 (by decide) ?_
                  refine lv_iadd hx hb dX11_emitWithin_222 ?_
                  refine nq_top (I_add _ _) ?_
                  obtain ⟨_, hc_394⟩ := hO.cell h_a (by decide) (ci := 11) rfl
                  refine th_callv (va_runV (As := [.int (I z_345), .int (I (dp + 1))]) (rest := []) ⟨hx, hb, hml, hown, hts⟩ (ih l G y b0 σ_J_281 E hO a h_a z_345 (show rng z_345 from rz_345) (by omega) (by omega) (dp + 1) (show rng (dp + 1) from ⟨by omega, by omega⟩) (by omega) (by omega) f1 J_281_11 f2 J_281_12 F3q277 J_281_13 F35q278 J_281_14 (hy0) (by omega) (hy2) ((by rw [show gI σ_J_281 a 32 = gI σ a 32 by omega]; exact hy3)) (by omega) ((by omega)) (by omega) (by omega)) (cwV 2 hts gX11_emitWithin_X11_emit rfl rfl rfl (by decide +kernel) ⟨(by first | (simp only [headSpec]; omega) | omega | (dsimp only; omega)), (by first | (simp only [headSpec]; omega) | omega | (dsimp only; omega))⟩) (th_PV hK hH rfl hc_394) rfl rfl hl.1 rfl (lv_room (Nat.le_of_ble_eq_true rfl)) dX11_emitWithin_223 ⟨(by first | (simp only [headSpec]; omega) | omega | (dsimp only; omega)), (by first | (simp only [headSpec]; omega) | omega | (dsimp only; omega))⟩) hS (fun σ_s_396 H locs hw_395 hH hS => ?_)
                  obtain ⟨hO9, hF9, hM9, hw_395⟩ := hw_395
                  replace hM := hM.tu hM9 (by decide)
                  replace hF := hF.tu hF9 (by decide)
                  have e_397 : gI σ_s_396 a 32 = a320 := (hM9.i (by decide)).trans J_281_9
                  have e_398 : gI σ_s_396 a 33 = a330 := (hM9.i (by decide)).trans J_281_10
                  have e_399 : aF σ_s_396 (ad E a 1) = f1 := (hM9.a (by decide) (by decide)).trans J_281_11
                  have e_400 : aF σ_s_396 (ad E a 2) = f2 := (hM9.a (by decide) (by decide)).trans J_281_12
                  replace hO := hO9
                  generalize ef_402 : aF σ_s_396 (ad E a 3) = g_401 at hw_395
                  generalize ef_404 : aF σ_s_396 (ad E a 35) = g_403 at hw_395
                  have hw_395 : blk F3q277 g_401 (gI σ_J_281 a 5) (gI σ_s_396 a 5) (mY f1 z_345) ∧ gI σ_s_396 a 5 - gI σ_J_281 a 5 ≤ 61 * mS f1 z_345 ∧ ofr F35q278 g_403 (60 * (dp + 1)) := hw_395
                  have hlt9 := hw_395.1.2.2.2.2
                  refine lv_iinc (v := I (v7q280 + 1)) (lv' := [(7, .int (I (v7q280 + 1))), (8, .int (I z_345)), (0, .ref a), (1, .int (I i)), (2, .int (I is)), (3, .int (I dp)), (4, .int (I z_3)), (5, .int (I (60 * dp))), (6, .int (I w0q125))]) hx hb dX11_emitWithin_226 hl (k := 8) rfl (I_add _ _) (by decide) rfl (fun ls hl => ?_)
                  refine lv_goto (tgt := 140) hx hb dX11_emitWithin_229 (by decide) ?_
                  replace hl : lv_has ls 9 [(7, .int (I (v7q280 + 1))), (0, .ref a), (1, .int (I i)), (2, .int (I is)), (3, .int (I dp)), (4, .int (I z_3)), (5, .int (I (60 * dp))), (6, .int (I w0q125))] := lv_sub hl [0, 2, 3, 4, 5, 6, 7, 8] rfl
                  obtain ⟨z_405, e_406, rz_405, lz_405, uz_405⟩ := hO.gi h_a (by decide) k13_5
                  exact ihJ_281 (v7q280 + 1, z_405, g_401, g_403) σ_s_396 _ _ _ (by first | (dsimp only; omega) | omega) ⟨hO, hF, hM, hH, hS, lv_sub hl [1, 2, 3, 4, 5, 6, 7, 0] rfl, ⟨by first | (dsimp only; omega) | omega, by first | (dsimp only; omega) | omega⟩, rz_405, by first | (dsimp only; omega) | omega, by first | (dsimp only; omega) | omega, (by have h9 := hw_395.1; rw [show gI σ_J_281 a 5 = G5q279 by omega] at h9; exact (J_281_2.next1 ez_345 (by first | (dsimp only; omega) | omega) (by first | (dsimp only; omega) | omega) (by omega) hw_395.2.2 (by first | (dsimp only; omega) | omega) h9 rfl (by omega) (by omega)).cur (by first | (dsimp only; omega) | omega)), (blk.tr0 J_281_3 hw_395.1 (by omega)), (J_281_4.same (fun q9 h8 h9 => hw_395.2.2 q9 (by omega) (by omega))), (J_281_5.tr hw_395.2.2 (by omega)), by first | (dsimp only; omega) | omega, by first | (dsimp only; omega) | omega, by first | (dsimp only; omega) | omega, e_397, e_398, e_399, e_400, ef_402, ef_404, e_406⟩
            · replace c_377 := (I_eq (a := z_376) (b := a330) rz_376 ra330).mp c_377
              have ht9 := (hy3 (by omega)).2
              refine lv_aload_n hx hb dX11_emitWithin_182 rfl (lv_at hl 1 rfl) ?_
              refine lv_aload_n hx hb dX11_emitWithin_183 rfl (lv_at hl 1 rfl) ?_
              refine ok.getR hO h_a (by decide) k13_2 (by decide) (fun _ _ he hv kk => th_get (ci := 11) (C := RX11) (T := TX11) (N := 66) hx hb hts inX11 hown hK hH he rfl 2 (by decide) fl2 hv dX11_emitWithin_184 kk) ?_
              refine lv_iconst (v := I 0) hx hb dX11_emitWithin_187 (by decide) ?_
              refine lv_aload_n hx hb dX11_emitWithin_188 rfl (lv_at hl 1 rfl) ?_
              refine ok.getIc hO h_a (by decide) k13_33 J_281_10 (fun _ _ he hv kk => th_get (ci := 11) (C := RX11) (T := TX11) (N := 66) hx hb hts inX11 hown hK hH he rfl 33 (by decide) fl1 hv dX11_emitWithin_189 kk) ?_
              obtain ⟨_, hc_407⟩ := hO.cell h_a (by decide) (ci := 11) rfl
              refine th_callv (va_runV (As := [.ref (ad E a 2), .int (I 0), .int (I a330)]) (rest := []) ⟨hx, hb, hml, hown, hts⟩ (m_copyWith2 l G y b0 σ_J_281 E hO a h_a 0 (show rng 0 from (show rng 0 from ⟨by decide, by decide⟩)) (by omega) (by omega) a330 (show rng a330 from ra330) f2 J_281_12 F3q277 J_281_13 ((hy3 (by omega))) (by omega) (by omega)) (cwV 3 hts gX11_emitWithin_X11_copyWith rfl rfl rfl (by decide +kernel) ⟨(by first | (simp only [headSpec]; omega) | omega | (dsimp only; omega)), (by first | (simp only [headSpec]; omega) | omega | (dsimp only; omega))⟩) (th_PV hK hH rfl hc_407) rfl rfl hl.1 rfl (lv_room (Nat.le_of_ble_eq_true rfl)) dX11_emitWithin_192 ⟨(by first | (simp only [headSpec]; omega) | omega | (dsimp only; omega)), (by first | (simp only [headSpec]; omega) | omega | (dsimp only; omega))⟩) hS (fun σ_s_409 H locs hw_408 hH hS => ?_)
              obtain ⟨hO9, hF9, hM9, hw_408⟩ := hw_408
              replace hM := hM.tu hM9 (by decide)
              replace hF := hF.tu hF9 (by decide)
              have e_410 : gI σ_s_409 a 32 = a320 := (hM9.i (by decide)).trans J_281_9
              have e_411 : gI σ_s_409 a 33 = a330 := (hM9.i (by decide)).trans J_281_10
              have e_412 : aF σ_s_409 (ad E a 1) = f1 := (hM9.a (by decide) (by decide)).trans J_281_11
              have e_413 : aF σ_s_409 (ad E a 2) = f2 := (hM9.a (by decide) (by decide)).trans J_281_12
              have e_414 : aF σ_s_409 (ad E a 35) = F35q278 := (hM9.a (by decide) (by decide)).trans J_281_14
              replace hO := hO9
              generalize ef_416 : aF σ_s_409 (ad E a 3) = g_415 at hw_408
              have hw_408 : blk F3q277 g_415 (gI σ_J_281 a 5) (gI σ_J_281 a 5 + mS f2 0) a330 ∧ mS g_415 (gI σ_J_281 a 5) = mS f2 0 ∧ gI σ_s_409 a 5 = gI σ_J_281 a 5 + mS f2 0 := hw_408
              refine lv_goto (tgt := 226) hx hb dX11_emitWithin_195 (by decide) ?_
              refine lv_iinc (v := I (v7q280 + 1)) (lv' := [(7, .int (I (v7q280 + 1))), (8, .int (I z_345)), (0, .ref a), (1, .int (I i)), (2, .int (I is)), (3, .int (I dp)), (4, .int (I z_3)), (5, .int (I (60 * dp))), (6, .int (I w0q125))]) hx hb dX11_emitWithin_226 hl (k := 8) rfl (I_add _ _) (by decide) rfl (fun ls hl => ?_)
              refine lv_goto (tgt := 140) hx hb dX11_emitWithin_229 (by decide) ?_
              replace hl : lv_has ls 9 [(7, .int (I (v7q280 + 1))), (0, .ref a), (1, .int (I i)), (2, .int (I is)), (3, .int (I dp)), (4, .int (I z_3)), (5, .int (I (60 * dp))), (6, .int (I w0q125))] := lv_sub hl [0, 2, 3, 4, 5, 6, 7, 8] rfl
              obtain ⟨z_417, e_418, rz_417, lz_417, uz_417⟩ := hO.gi h_a (by decide) k13_5
              exact ihJ_281 (v7q280 + 1, z_417, g_415, F35q278) σ_s_409 _ _ _ (by first | (dsimp only; omega) | omega) ⟨hO, hF, hM, hH, hS, lv_sub hl [1, 2, 3, 4, 5, 6, 7, 0] rfl, ⟨by first | (dsimp only; omega) | omega, by first | (dsimp only; omega) | omega⟩, rz_417, by first | (dsimp only; omega) | omega, by first | (dsimp only; omega) | omega, (by have h9 := hw_408.1; rw [show gI σ_J_281 a 5 = G5q279 by omega] at h9; exact (J_281_2.next1 ez_345 (by first | (dsimp only; omega) | omega) (by first | (dsimp only; omega) | omega) (by omega) ofr.rf (c := 60 * dp + 60) (by first | (dsimp only; omega) | omega) h9 (show a330 = mY f1 z_345 by have h8 : mY f1 z_345 = z_376 := ez_376; omega) (by omega) (by omega)).cur (by first | (dsimp only; omega) | omega)), (blk.tr0 J_281_3 hw_408.1 (by omega)), J_281_4, J_281_5, by first | (dsimp only; omega) | omega, by first | (dsimp only; omega) | omega, by first | (dsimp only; omega) | omega, e_410, e_411, e_412, e_413, ef_416, e_414, e_418⟩
      · refine lv_if_eq (tgt := 134) hx hb dX11_emitWithin_107 (by decide) (fun c_419 => ?_) (fun c_419 => ?_)
        · replace c_419 := (I_eq (a := is) (b := 0) ris (show rng 0 from ⟨by decide, by decide⟩)).mp c_419
          refine lv_iconst (v := I 0) hx hb dX11_emitWithin_134 (by decide) ?_
          exact jK_126 (0) σ_K_118 _ _ _ ⟨rfl, hH, hS, lv_sub hl [0, 1, 2, 3, 4, 5] rfl, (show rng 0 from ⟨by decide, by decide⟩), by first | (dsimp only; omega) | omega, by first | (dsimp only; omega) | omega⟩
        · replace c_419 := mt (I_eq (a := is) (b := 0) ris (show rng 0 from ⟨by decide, by decide⟩)).mpr c_419
          refine lv_aload_n hx hb dX11_emitWithin_110 rfl (lv_at hl 0 rfl) ?_
          refine ok.getIc hO h_a (by decide) k13_32 K_118_3 (fun _ _ he hv kk => th_get (ci := 11) (C := RX11) (T := TX11) (N := 66) hx hb hts inX11 hown hK hH he rfl 32 (by decide) fl3 hv dX11_emitWithin_111 kk) ?_
          refine lv_iconst (v := I 2) hx hb dX11_emitWithin_114 (by decide) ?_
          refine lv_icmp_ne (tgt := 134) hx hb dX11_emitWithin_115 (by decide) (fun c_420 => ?_) (fun c_420 => ?_)
          · replace c_420 := mt (I_eq (a := a320) (b := 2) ra320 (show rng 2 from ⟨by decide, by decide⟩)).mpr c_420
            refine lv_iconst (v := I 0) hx hb dX11_emitWithin_134 (by decide) ?_
            exact jK_126 (0) σ_K_118 _ _ _ ⟨rfl, hH, hS, lv_sub hl [0, 1, 2, 3, 4, 5] rfl, (show rng 0 from ⟨by decide, by decide⟩), by first | (dsimp only; omega) | omega, by first | (dsimp only; omega) | omega⟩
          · replace c_420 := (I_eq (a := a320) (b := 2) ra320 (show rng 2 from ⟨by decide, by decide⟩)).mp c_420
            refine lv_aload_n hx hb dX11_emitWithin_118 rfl (lv_at hl 0 rfl) ?_
            refine ok.getR hO h_a (by decide) k13_1 (by decide) (fun _ _ he hv kk => th_get (ci := 11) (C := RX11) (T := TX11) (N := 66) hx hb hts inX11 hown hK hH he rfl 1 (by decide) fl0 hv dX11_emitWithin_119 kk) ?_
            refine lv_iload_n hx hb dX11_emitWithin_122 rfl (lv_at hl 1 rfl) ?_
            refine th_calli (va_runS (As := [.ref (ad E a 1), .int (I i)]) (rest := []) ⟨hx, hb, hml, hown, hts⟩ (w_kind l G y b0 σ_K_118 E hO (ad E a 1) 240 f1 (hO.roww h_a k13_1 isA1 K_118_5 rfl) i (show rng i from ri) (by omega) (by omega) (by omega)) (va_cwS 2 hts gX11_emitWithin_X11_kind rfl rfl rfl (by decide +kernel) ⟨(by first | (simp only [headSpec]; omega) | omega | (dsimp only; omega)), (by first | (simp only [headSpec]; omega) | omega | (dsimp only; omega))⟩) (th_PS hK hH) rfl rfl hl.1 rfl (lv_room (Nat.le_of_ble_eq_true rfl)) dX11_emitWithin_123 ⟨(by first | (simp only [headSpec]; omega) | omega | (dsimp only; omega)), (by first | (simp only [headSpec]; omega) | omega | (dsimp only; omega))⟩) hS (fun z_423 σ_s_422 H locs rz_423 hw_421 hH hS => ?_)
            obtain ⟨e9, hw_421⟩ := hw_421
            replace e9 := e9.symm
            subst e9
            have hw_421 : z_423 = mK f1 i := hw_421
            refine lv_iconst (v := I 3) hx hb dX11_emitWithin_126 (by decide) ?_
            refine lv_icmp_ne (tgt := 134) hx hb dX11_emitWithin_127 (by decide) (fun c_424 => ?_) (fun c_424 => ?_)
            · replace c_424 := mt (I_eq (a := z_423) (b := 3) rz_423 (show rng 3 from ⟨by decide, by decide⟩)).mpr c_424
              refine lv_iconst (v := I 0) hx hb dX11_emitWithin_134 (by decide) ?_
              exact jK_126 (0) σ_K_118 _ _ _ ⟨rfl, hH, hS, lv_sub hl [0, 1, 2, 3, 4, 5] rfl, (show rng 0 from ⟨by decide, by decide⟩), by first | (dsimp only; omega) | omega, by first | (dsimp only; omega) | omega⟩
            · replace c_424 := (I_eq (a := z_423) (b := 3) rz_423 (show rng 3 from ⟨by decide, by decide⟩)).mp c_424
              refine lv_iconst (v := I 1) hx hb dX11_emitWithin_130 (by decide) ?_
              refine lv_goto (tgt := 135) hx hb dX11_emitWithin_131 (by decide) ?_
              exact jK_126 (1) σ_K_118 _ _ _ ⟨rfl, hH, hS, lv_sub hl [0, 1, 2, 3, 4, 5] rfl, (show rng 1 from ⟨by decide, by decide⟩), by first | (dsimp only; omega) | omega, by first | (dsimp only; omega) | omega⟩
    · refine lv_if_eq (tgt := 106) hx hb dX11_emitWithin_75 (by decide) (fun c_425 => ?_) (fun c_425 => ?_)
      · replace c_425 := (I_eq (a := is) (b := 0) ris (show rng 0 from ⟨by decide, by decide⟩)).mp c_425
        replace hl : lv_has ls 9 [(0, .ref a), (1, .int (I i)), (2, .int (I is)), (3, .int (I dp)), (4, .int (I z_3)), (5, .int (I (60 * dp)))] := lv_sub hl [0, 1, 2, 3, 4, 5] rfl
        exact jK_118 (F35q92) σ_J_94 _ _ _ ⟨hO, hF, hM, hH, hS, lv_sub hl [0, 1, 2, 3, 4, 5] rfl, hpm_96, J_94_3, J_94_4, J_94_5, J_94_6, J_94_7, J_94_8, J_94_9, J_94_10⟩
      · replace c_425 := mt (I_eq (a := is) (b := 0) ris (show rng 0 from ⟨by decide, by decide⟩)).mpr c_425
        refine lv_aload_n hx hb dX11_emitWithin_78 rfl (lv_at hl 0 rfl) ?_
        refine ok.getIc hO h_a (by decide) k13_32 J_94_5 (fun _ _ he hv kk => th_get (ci := 11) (C := RX11) (T := TX11) (N := 66) hx hb hts inX11 hown hK hH he rfl 32 (by decide) fl3 hv dX11_emitWithin_79 kk) ?_
        refine lv_iconst (v := I 5) hx hb dX11_emitWithin_82 (by decide) ?_
        refine lv_icmp_ne (tgt := 106) hx hb dX11_emitWithin_83 (by decide) (fun c_426 => ?_) (fun c_426 => ?_)
        · replace c_426 := mt (I_eq (a := a320) (b := 5) ra320 (show rng 5 from ⟨by decide, by decide⟩)).mpr c_426
          replace hl : lv_has ls 9 [(0, .ref a), (1, .int (I i)), (2, .int (I is)), (3, .int (I dp)), (4, .int (I z_3)), (5, .int (I (60 * dp)))] := lv_sub hl [0, 1, 2, 3, 4, 5] rfl
          exact jK_118 (F35q92) σ_J_94 _ _ _ ⟨hO, hF, hM, hH, hS, lv_sub hl [0, 1, 2, 3, 4, 5] rfl, hpm_96, J_94_3, J_94_4, J_94_5, J_94_6, J_94_7, J_94_8, J_94_9, J_94_10⟩
        · replace c_426 := (I_eq (a := a320) (b := 5) ra320 (show rng 5 from ⟨by decide, by decide⟩)).mp c_426
          refine lv_aload_n hx hb dX11_emitWithin_86 rfl (lv_at hl 0 rfl) ?_
          refine ok.getR hO h_a (by decide) k13_1 (by decide) (fun _ _ he hv kk => th_get (ci := 11) (C := RX11) (T := TX11) (N := 66) hx hb hts inX11 hown hK hH he rfl 1 (by decide) fl0 hv dX11_emitWithin_87 kk) ?_
          refine lv_iload_n hx hb dX11_emitWithin_90 rfl (lv_at hl 1 rfl) ?_
          refine th_calli (va_runS (As := [.ref (ad E a 1), .int (I i)]) (rest := []) ⟨hx, hb, hml, hown, hts⟩ (w_kind l G y b0 σ_J_94 E hO (ad E a 1) 240 f1 (hO.roww h_a k13_1 isA1 J_94_7 rfl) i (show rng i from ri) (by omega) (by omega) (by omega)) (va_cwS 2 hts gX11_emitWithin_X11_kind rfl rfl rfl (by decide +kernel) ⟨(by first | (simp only [headSpec]; omega) | omega | (dsimp only; omega)), (by first | (simp only [headSpec]; omega) | omega | (dsimp only; omega))⟩) (th_PS hK hH) rfl rfl hl.1 rfl (lv_room (Nat.le_of_ble_eq_true rfl)) dX11_emitWithin_91 ⟨(by first | (simp only [headSpec]; omega) | omega | (dsimp only; omega)), (by first | (simp only [headSpec]; omega) | omega | (dsimp only; omega))⟩) hS (fun z_429 σ_s_428 H locs rz_429 hw_427 hH hS => ?_)
          obtain ⟨e9, hw_427⟩ := hw_427
          replace e9 := e9.symm
          subst e9
          have hw_427 : z_429 = mK f1 i := hw_427
          refine lv_iconst (v := I 2) hx hb dX11_emitWithin_94 (by decide) ?_
          refine lv_icmp_ne (tgt := 106) hx hb dX11_emitWithin_95 (by decide) (fun c_430 => ?_) (fun c_430 => ?_)
          · replace c_430 := mt (I_eq (a := z_429) (b := 2) rz_429 (show rng 2 from ⟨by decide, by decide⟩)).mpr c_430
            replace hl : lv_has ls 9 [(0, .ref a), (1, .int (I i)), (2, .int (I is)), (3, .int (I dp)), (4, .int (I z_3)), (5, .int (I (60 * dp)))] := lv_sub hl [0, 1, 2, 3, 4, 5] rfl
            exact jK_118 (F35q92) σ_J_94 _ _ _ ⟨hO, hF, hM, hH, hS, lv_sub hl [0, 1, 2, 3, 4, 5] rfl, hpm_96, J_94_3, J_94_4, J_94_5, J_94_6, J_94_7, J_94_8, J_94_9, J_94_10⟩
          · replace c_430 := (I_eq (a := z_429) (b := 2) rz_429 (show rng 2 from ⟨by decide, by decide⟩)).mp c_430
            refine lv_aload_n hx hb dX11_emitWithin_98 rfl (lv_at hl 0 rfl) ?_
            refine lv_iload hx hb dX11_emitWithin_99 (lv_at hl 5 rfl) ?_
            refine lv_iload hx hb dX11_emitWithin_101 (lv_at hl 4 rfl) ?_
            obtain ⟨_, hc_431⟩ := hO.cell h_a (by decide) (ci := 11) rfl
            refine th_callv (va_runV (As := [.int (I (60 * dp)), .int (I z_3)]) (rest := []) ⟨hx, hb, hml, hown, hts⟩ (m_sort l G y b0 σ_J_94 E hO a h_a (60 * dp) (show rng (60 * dp) from ⟨by omega, by omega⟩) (by omega) (by omega) z_3 (show rng z_3 from rz_3) (by omega) (by omega) i f1 J_94_7 F35q92 J_94_10 (hy0) (by omega) (hpm_96) (by omega)) (cwV 2 hts gX11_emitWithin_X11_sort rfl rfl rfl (by decide +kernel) ⟨(by first | (simp only [headSpec]; omega) | omega | (dsimp only; omega)), (by first | (simp only [headSpec]; omega) | omega | (dsimp only; omega))⟩) (th_PV hK hH rfl hc_431) rfl rfl hl.1 rfl (lv_room (Nat.le_of_ble_eq_true rfl)) dX11_emitWithin_103 ⟨(by first | (simp only [headSpec]; omega) | omega | (dsimp only; omega)), (by first | (simp only [headSpec]; omega) | omega | (dsimp only; omega))⟩) hS (fun σ_s_433 H locs hw_432 hH hS => ?_)
            obtain ⟨hO9, hF9, hM9, hw_432⟩ := hw_432
            replace hM := hM.tu hM9 (by decide)
            replace hF := hF.tu hF9 (by decide)
            have e_434 : gI σ_s_433 a 5 = a50 := (hM9.i (by decide)).trans J_94_4
            have e_435 : gI σ_s_433 a 32 = a320 := (hM9.i (by decide)).trans J_94_5
            have e_436 : gI σ_s_433 a 33 = a330 := (hM9.i (by decide)).trans J_94_6
            have e_437 : aF σ_s_433 (ad E a 1) = f1 := (hM9.a (by decide) (by decide)).trans J_94_7
            have e_438 : aF σ_s_433 (ad E a 2) = f2 := (hM9.a (by decide) (by decide)).trans J_94_8
            have e_439 : aF σ_s_433 (ad E a 3) = f3 := (hM9.a (by decide) (by decide)).trans J_94_9
            replace hO := hO9
            generalize ef_441 : aF σ_s_433 (ad E a 35) = g_440 at hw_432
            have hw_432 : prm f1 g_440 (60 * dp) z_3.toNat i ∧ ofr F35q92 g_440 (60 * dp) := hw_432
            replace hl : lv_has ls 9 [(0, .ref a), (1, .int (I i)), (2, .int (I is)), (3, .int (I dp)), (4, .int (I z_3)), (5, .int (I (60 * dp)))] := lv_sub hl [0, 1, 2, 3, 4, 5] rfl
            exact jK_118 (g_440) σ_s_433 _ _ _ ⟨hO, hF, hM, hH, hS, lv_sub hl [0, 1, 2, 3, 4, 5] rfl, hw_432.1, (J_94_3.tr hw_432.2 (by omega)), e_434, e_435, e_436, e_437, e_438, e_439, ef_441⟩
  · replace c_95 := mt (I_le (a := z_3) (b := v6q93) rz_3 rv6q93).mpr c_95
    refine lv_aload_n hx hb dX11_emitWithin_26 rfl (lv_at hl 0 rfl) ?_
    refine ok.getR hO h_a (by decide) k13_35 (by decide) (fun _ _ he hv kk => th_get (ci := 11) (C := RX11) (T := TX11) (N := 66) hx hb hts inX11 hown hK hH he rfl 35 (by decide) fl4 hv dX11_emitWithin_27 kk) ?_
    refine lv_iload hx hb dX11_emitWithin_30 (lv_at hl 5 rfl) ?_
    refine lv_iload hx hb dX11_emitWithin_32 (lv_at hl 6 rfl) ?_
    refine lv_iadd hx hb dX11_emitWithin_34 ?_
    refine nq_top (I_add _ _) ?_
    refine lv_aload_n hx hb dX11_emitWithin_35 rfl (lv_at hl 0 rfl) ?_
    refine ok.getR hO h_a (by decide) k13_1 (by decide) (fun _ _ he hv kk => th_get (ci := 11) (C := RX11) (T := TX11) (N := 66) hx hb hts inX11 hown hK hH he rfl 1 (by decide) fl0 hv dX11_emitWithin_36 kk) ?_
    refine lv_iload_n hx hb dX11_emitWithin_39 rfl (lv_at hl 1 rfl) ?_
    refine lv_iload_n hx hb dX11_emitWithin_40 rfl (lv_at hl 2 rfl) ?_
    refine lv_if_eq (tgt := 62) hx hb dX11_emitWithin_41 (by decide) (fun c_442 => ?_) (fun c_442 => ?_)
    · replace c_442 := (I_eq (a := is) (b := 0) ris (show rng 0 from ⟨by decide, by decide⟩)).mp c_442
      refine lv_iload hx hb dX11_emitWithin_62 (lv_at hl 6 rfl) ?_
      refine th_calli (va_runS (As := [.ref (ad E a 1), .int (I i), .int (I v6q93)]) (rest := [.int (I (60 * dp + v6q93)), .ref (ad E a 35)]) ⟨hx, hb, hml, hown, hts⟩ (w_nth l G y b0 σ_J_94 E hO (ad E a 1) 240 f1 (hO.roww h_a k13_1 isA1 J_94_7 rfl) i (show rng i from ri) (by omega) (by omega) v6q93 (show rng v6q93 from rv6q93) (by first | exact hy0 | exact (hy0).sub (by omega) (by omega)) (by omega) (by omega) (by omega) (jin.mk1 (by omega) hw_1.1 (by omega))) (va_cwS 3 hts gX11_emitWithin_X11_nth rfl rfl rfl (by decide +kernel) ⟨(by first | (simp only [headSpec]; omega) | omega | (dsimp only; omega)), (by first | (simp only [headSpec]; omega) | omega | (dsimp only; omega))⟩) (th_PS hK hH) rfl rfl hl.1 rfl (lv_room (Nat.le_of_ble_eq_true rfl)) dX11_emitWithin_64 ⟨(by first | (simp only [headSpec]; omega) | omega | (dsimp only; omega)), (by first | (simp only [headSpec]; omega) | omega | (dsimp only; omega))⟩) hS (fun z_445 σ_s_444 H locs rz_445 hw_443 hH hS => ?_)
      obtain ⟨e9, hw_443⟩ := hw_443
      replace e9 := e9.symm
      subst e9
      have hw_443 : chn f1 (i + 1) v6q93 z_445 ∧ kid f1 i z_445 := hw_443
      refine m_iast hx hb hK hH hS h00 hO h_a k13_35 isA1 (by decide) J_94_10 ⟨by omega, by omega⟩ (by omega) (by omega) rz_445 el1 dX11_emitWithin_67 (fun σ_s_446 H locs hO hF9 hM9 ha9 hH hS => ?_)
      replace hM := hM.tu hM9 (by decide)
      replace hF := hF.tu hF9 (by decide)
      have e_447 : gI σ_s_446 a 5 = a50 := (hM9.i (by decide)).trans J_94_4
      have e_448 : gI σ_s_446 a 32 = a320 := (hM9.i (by decide)).trans J_94_5
      have e_449 : gI σ_s_446 a 33 = a330 := (hM9.i (by decide)).trans J_94_6
      have e_450 : aF σ_s_446 (ad E a 1) = f1 := (hM9.a (by decide) (by decide)).trans J_94_7
      have e_451 : aF σ_s_446 (ad E a 2) = f2 := (hM9.a (by decide) (by decide)).trans J_94_8
      have e_452 : aF σ_s_446 (ad E a 3) = f3 := (hM9.a (by decide) (by decide)).trans J_94_9
      obtain ⟨g_453, dg_453⟩ : ∃ g9, g9 = upd F35q92 (60 * dp + v6q93).toNat (I z_445) := ⟨_, rfl⟩
      rw [← dg_453] at ha9
      have ef_454 := ha9
      refine lv_iinc (v := I (v6q93 + 1)) (lv' := [(6, .int (I (v6q93 + 1))), (0, .ref a), (1, .int (I i)), (2, .int (I is)), (3, .int (I dp)), (4, .int (I z_3)), (5, .int (I (60 * dp)))]) hx hb dX11_emitWithin_68 hl (k := 6) rfl (I_add _ _) (by decide) rfl (fun ls hl => ?_)
      refine lv_goto (tgt := 19) hx hb dX11_emitWithin_71 (by decide) ?_
      exact ihJ_94 (v6q93 + 1, g_453) σ_s_446 _ _ _ (by first | (dsimp only; omega) | omega) ⟨hO, hF, hM, hH, hS, lv_sub hl [1, 2, 3, 4, 5, 6, 0] rfl, ⟨by first | (dsimp only; omega) | omega, by first | (dsimp only; omega) | omega⟩, by first | (dsimp only; omega) | omega, by first | (dsimp only; omega) | omega, (J_94_2.st0 (fun h9 => by omega) hw_443.1 dg_453 (by first | (dsimp only; omega) | omega) rz_445 (by first | (dsimp only; omega) | omega) (by omega)), (J_94_3.up dg_453 (by first | (dsimp only; omega) | omega)), e_447, e_448, e_449, e_450, e_451, e_452, ef_454⟩
    · replace c_442 := mt (I_eq (a := is) (b := 0) ris (show rng 0 from ⟨by decide, by decide⟩)).mpr c_442
      refine lv_aload_n hx hb dX11_emitWithin_44 rfl (lv_at hl 0 rfl) ?_
      refine ok.getIc hO h_a (by decide) k13_32 J_94_5 (fun _ _ he hv kk => th_get (ci := 11) (C := RX11) (T := TX11) (N := 66) hx hb hts inX11 hown hK hH he rfl 32 (by decide) fl3 hv dX11_emitWithin_45 kk) ?_
      refine lv_iconst (v := I 4) hx hb dX11_emitWithin_48 (by decide) ?_
      refine lv_icmp_ne (tgt := 62) hx hb dX11_emitWithin_49 (by decide) (fun c_455 => ?_) (fun c_455 => ?_)
      · replace c_455 := mt (I_eq (a := a320) (b := 4) ra320 (show rng 4 from ⟨by decide, by decide⟩)).mpr c_455
        refine lv_iload hx hb dX11_emitWithin_62 (lv_at hl 6 rfl) ?_
        refine th_calli (va_runS (As := [.ref (ad E a 1), .int (I i), .int (I v6q93)]) (rest := [.int (I (60 * dp + v6q93)), .ref (ad E a 35)]) ⟨hx, hb, hml, hown, hts⟩ (w_nth l G y b0 σ_J_94 E hO (ad E a 1) 240 f1 (hO.roww h_a k13_1 isA1 J_94_7 rfl) i (show rng i from ri) (by omega) (by omega) v6q93 (show rng v6q93 from rv6q93) (by first | exact hy0 | exact (hy0).sub (by omega) (by omega)) (by omega) (by omega) (by omega) (jin.mk1 (by omega) hw_1.1 (by omega))) (va_cwS 3 hts gX11_emitWithin_X11_nth rfl rfl rfl (by decide +kernel) ⟨(by first | (simp only [headSpec]; omega) | omega | (dsimp only; omega)), (by first | (simp only [headSpec]; omega) | omega | (dsimp only; omega))⟩) (th_PS hK hH) rfl rfl hl.1 rfl (lv_room (Nat.le_of_ble_eq_true rfl)) dX11_emitWithin_64 ⟨(by first | (simp only [headSpec]; omega) | omega | (dsimp only; omega)), (by first | (simp only [headSpec]; omega) | omega | (dsimp only; omega))⟩) hS (fun z_458 σ_s_457 H locs rz_458 hw_456 hH hS => ?_)
        obtain ⟨e9, hw_456⟩ := hw_456
        replace e9 := e9.symm
        subst e9
        have hw_456 : chn f1 (i + 1) v6q93 z_458 ∧ kid f1 i z_458 := hw_456
        refine m_iast hx hb hK hH hS h00 hO h_a k13_35 isA1 (by decide) J_94_10 ⟨by omega, by omega⟩ (by omega) (by omega) rz_458 el1 dX11_emitWithin_67 (fun σ_s_459 H locs hO hF9 hM9 ha9 hH hS => ?_)
        replace hM := hM.tu hM9 (by decide)
        replace hF := hF.tu hF9 (by decide)
        have e_460 : gI σ_s_459 a 5 = a50 := (hM9.i (by decide)).trans J_94_4
        have e_461 : gI σ_s_459 a 32 = a320 := (hM9.i (by decide)).trans J_94_5
        have e_462 : gI σ_s_459 a 33 = a330 := (hM9.i (by decide)).trans J_94_6
        have e_463 : aF σ_s_459 (ad E a 1) = f1 := (hM9.a (by decide) (by decide)).trans J_94_7
        have e_464 : aF σ_s_459 (ad E a 2) = f2 := (hM9.a (by decide) (by decide)).trans J_94_8
        have e_465 : aF σ_s_459 (ad E a 3) = f3 := (hM9.a (by decide) (by decide)).trans J_94_9
        obtain ⟨g_466, dg_466⟩ : ∃ g9, g9 = upd F35q92 (60 * dp + v6q93).toNat (I z_458) := ⟨_, rfl⟩
        rw [← dg_466] at ha9
        have ef_467 := ha9
        refine lv_iinc (v := I (v6q93 + 1)) (lv' := [(6, .int (I (v6q93 + 1))), (0, .ref a), (1, .int (I i)), (2, .int (I is)), (3, .int (I dp)), (4, .int (I z_3)), (5, .int (I (60 * dp)))]) hx hb dX11_emitWithin_68 hl (k := 6) rfl (I_add _ _) (by decide) rfl (fun ls hl => ?_)
        refine lv_goto (tgt := 19) hx hb dX11_emitWithin_71 (by decide) ?_
        exact ihJ_94 (v6q93 + 1, g_466) σ_s_459 _ _ _ (by first | (dsimp only; omega) | omega) ⟨hO, hF, hM, hH, hS, lv_sub hl [1, 2, 3, 4, 5, 6, 0] rfl, ⟨by first | (dsimp only; omega) | omega, by first | (dsimp only; omega) | omega⟩, by first | (dsimp only; omega) | omega, by first | (dsimp only; omega) | omega, (J_94_2.st0 (fun h9 => by omega) hw_456.1 dg_466 (by first | (dsimp only; omega) | omega) rz_458 (by first | (dsimp only; omega) | omega) (by omega)), (J_94_3.up dg_466 (by first | (dsimp only; omega) | omega)), e_460, e_461, e_462, e_463, e_464, e_465, ef_467⟩
      · replace c_455 := (I_eq (a := a320) (b := 4) ra320 (show rng 4 from ⟨by decide, by decide⟩)).mp c_455
        refine lv_iload hx hb dX11_emitWithin_52 (lv_at hl 4 rfl) ?_
        refine lv_iconst (v := I 1) hx hb dX11_emitWithin_54 (by decide) ?_
        refine lv_isub hx hb dX11_emitWithin_55 ?_
        refine nq_top (I_sub _ _) ?_
        refine lv_iload hx hb dX11_emitWithin_56 (lv_at hl 6 rfl) ?_
        refine lv_isub hx hb dX11_emitWithin_58 ?_
        refine nq_top (I_sub _ _) ?_
        refine lv_goto (tgt := 64) hx hb dX11_emitWithin_59 (by decide) ?_
        refine th_calli (va_runS (As := [.ref (ad E a 1), .int (I i), .int (I (z_3 - 1 - v6q93))]) (rest := [.int (I (60 * dp + v6q93)), .ref (ad E a 35)]) ⟨hx, hb, hml, hown, hts⟩ (w_nth l G y b0 σ_J_94 E hO (ad E a 1) 240 f1 (hO.roww h_a k13_1 isA1 J_94_7 rfl) i (show rng i from ri) (by omega) (by omega) (z_3 - 1 - v6q93) (show rng (z_3 - 1 - v6q93) from ⟨by omega, by omega⟩) (by first | exact hy0 | exact (hy0).sub (by omega) (by omega)) (by omega) (by omega) (by omega) (jin.mk1 (by omega) hw_1.1 (by omega))) (va_cwS 3 hts gX11_emitWithin_X11_nth rfl rfl rfl (by decide +kernel) ⟨(by first | (simp only [headSpec]; omega) | omega | (dsimp only; omega)), (by first | (simp only [headSpec]; omega) | omega | (dsimp only; omega))⟩) (th_PS hK hH) rfl rfl hl.1 rfl (lv_room (Nat.le_of_ble_eq_true rfl)) dX11_emitWithin_64 ⟨(by first | (simp only [headSpec]; omega) | omega | (dsimp only; omega)), (by first | (simp only [headSpec]; omega) | omega | (dsimp only; omega))⟩) hS (fun z_470 σ_s_469 H locs rz_470 hw_468 hH hS => ?_)
        obtain ⟨e9, hw_468⟩ := hw_468
        replace e9 := e9.symm
        subst e9
        have hw_468 : chn f1 (i + 1) (z_3 - 1 - v6q93) z_470 ∧ kid f1 i z_470 := hw_468
        refine m_iast hx hb hK hH hS h00 hO h_a k13_35 isA1 (by decide) J_94_10 ⟨by omega, by omega⟩ (by omega) (by omega) rz_470 el1 dX11_emitWithin_67 (fun σ_s_471 H locs hO hF9 hM9 ha9 hH hS => ?_)
        replace hM := hM.tu hM9 (by decide)
        replace hF := hF.tu hF9 (by decide)
        have e_472 : gI σ_s_471 a 5 = a50 := (hM9.i (by decide)).trans J_94_4
        have e_473 : gI σ_s_471 a 32 = a320 := (hM9.i (by decide)).trans J_94_5
        have e_474 : gI σ_s_471 a 33 = a330 := (hM9.i (by decide)).trans J_94_6
        have e_475 : aF σ_s_471 (ad E a 1) = f1 := (hM9.a (by decide) (by decide)).trans J_94_7
        have e_476 : aF σ_s_471 (ad E a 2) = f2 := (hM9.a (by decide) (by decide)).trans J_94_8
        have e_477 : aF σ_s_471 (ad E a 3) = f3 := (hM9.a (by decide) (by decide)).trans J_94_9
        obtain ⟨g_478, dg_478⟩ : ∃ g9, g9 = upd F35q92 (60 * dp + v6q93).toNat (I z_470) := ⟨_, rfl⟩
        rw [← dg_478] at ha9
        have ef_479 := ha9
        refine lv_iinc (v := I (v6q93 + 1)) (lv' := [(6, .int (I (v6q93 + 1))), (0, .ref a), (1, .int (I i)), (2, .int (I is)), (3, .int (I dp)), (4, .int (I z_3)), (5, .int (I (60 * dp)))]) hx hb dX11_emitWithin_68 hl (k := 6) rfl (I_add _ _) (by decide) rfl (fun ls hl => ?_)
        refine lv_goto (tgt := 19) hx hb dX11_emitWithin_71 (by decide) ?_
        exact ihJ_94 (v6q93 + 1, g_478) σ_s_471 _ _ _ (by first | (dsimp only; omega) | omega) ⟨hO, hF, hM, hH, hS, lv_sub hl [1, 2, 3, 4, 5, 6, 0] rfl, ⟨by first | (dsimp only; omega) | omega, by first | (dsimp only; omega) | omega⟩, by first | (dsimp only; omega) | omega, by first | (dsimp only; omega) | omega, (J_94_2.st1 ⟨by omega, by omega⟩ hw_468.1 dg_478 (by first | (dsimp only; omega) | omega) rz_470 (by first | (dsimp only; omega) | omega) (by omega)), (J_94_3.up dg_478 (by first | (dsimp only; omega) | omega)), e_472, e_473, e_474, e_475, e_476, e_477, ef_479⟩
