set_option maxHeartbeats 4000000 in
set_option maxRecDepth 100000 in
theorem m_emitWithin (n : Nat) (ih : ∀ (l : Launch) (G : va_G) (y : Nat → ClassId) (b0 : Nat) (σ : th_M) (E : th_E) (hO : ok y E σ) (a : Nat) (h_a : kd E a = 13) (i : Int) (ri : rng i) (l_i : 0 ≤ i) (u_i : i ≤ 59) (dp : Int) (rdp : rng dp) (l_dp : 0 ≤ dp) (u_dp : dp ≤ 7) (f1 : Nat → Int32) (ef1 : aF σ (ad E a 1) = f1) (f2 : Nat → Int32) (ef2 : aF σ (ad E a 2) = f2) (f3 : Nat → Int32) (ef3 : aF σ (ad E a 3) = f3) (f35 : Nat → Int32) (ef35 : aF σ (ad E a 35) = f35) (hy0 : wf f1 0 (mS f1 0)) (hy1 : 1 ≤ mS f1 0 ∧ mS f1 0 ≤ 60) (hy2 : tr f1) (hy3 : tdc (gI σ a 32) f2) (hy4 : i < mS f1 0) (hy5 : dp ≤ cn f1 i i.toNat) (hy6 : gI σ a 5 + 61 * mS f1 i ≤ 4000) (hn : (8 - dp).toNat < n), Met l yX11_emit wsX11_emit ({ frames := 4*n+12, cells := 0, slots := 0, locals := (120*n+600) }) (th_P G y b0 σ [.ref a, .int (I i), .int (I dp)]) (th_Qv G b0 (fun σ1 => ok y E σ1 ∧ fr [13] E σ σ1 ∧ fm [3, 5, 35] E σ σ1 a ∧ (blk f3 (aF σ1 (ad E a 3)) (gI σ a 5) (gI σ1 a 5) (mY f1 i) ∧ gI σ1 a 5 - gI σ a 5 ≤ 61 * mS f1 i ∧ ofr f35 (aF σ1 (ad E a 35)) (60 * dp)))) 0 0 (th_A b0)) (l : Launch) (G : va_G) (y : Nat → ClassId) (b0 : Nat) (σ : th_M) (E : th_E) (hO : ok y E σ) (a : Nat) (h_a : kd E a = 13) (i : Int) (ri : rng i) (l_i : 0 ≤ i) (u_i : i ≤ 59) (is : Int) (ris : rng is) (l_is : 0 ≤ is) (u_is : is ≤ 1) (dp : Int) (rdp : rng dp) (l_dp : 0 ≤ dp) (u_dp : dp ≤ 7) (f1 : Nat → Int32) (ef1 : aF σ (ad E a 1) = f1) (f2 : Nat → Int32) (ef2 : aF σ (ad E a 2) = f2) (f3 : Nat → Int32) (ef3 : aF σ (ad E a 3) = f3) (f35 : Nat → Int32) (ef35 : aF σ (ad E a 35) = f35) (hy0 : wf f1 0 (mS f1 0)) (hy1 : 1 ≤ mS f1 0 ∧ mS f1 0 ≤ 60) (hy2 : tr f1) (hy3 : tdc (gI σ a 32) f2) (hy4 : i < mS f1 0) (hy5 : dp ≤ cn f1 i i.toNat) (hy6 : gI σ a 5 + 61 * mS f1 i ≤ 4001) (hy7 : 1 ≤ gI σ a 5) (hy8 : (8 - dp).toNat < n + 1) : Met l yX11_emitWithin wsX11_emitWithin ({ frames := 4*n+14, cells := 0, slots := 0, locals := (120*n+660) }) (th_P G y b0 σ [.ref a, .int (I i), .int (I is), .int (I dp)]) (th_Qv G b0 (fun σ1 => ok y E σ1 ∧ fr [13] E σ σ1 ∧ fm [3, 5, 35] E σ σ1 a ∧ (emf f1 (aF σ1 (ad E a 3)) i (gI σ a 5 - 1) (gI σ1 a 5) ∧ same f3 (aF σ1 (ad E a 3)) 0 (gI σ a 5) 0 ∧ ofr f35 (aF σ1 (ad E a 35)) (60 * dp)))) 0 0 (th_A b0) := by
  refine Met.ofW (cc := cX11_emitWithin) (maxL := 9) (ret := none) (by decide) rfl ?_
  intro p e s m args below meth c s₁ B hml hv
  obtain ⟨rfl, hH, hK⟩ := hv
  have hx := B.exec
  have hb := B.bytes
  have hr := B.returns
  have hts := atoms_spec (ws := wsX11_emitWithin) B.pre
  have hown : s.vm.findClass RX11 = some m.cls := findClass_of_methodNamed B.named
  have hlocks := B.notSynchronized
  have h00 : b0 ≤ s.heap.size := hH.1
  have hS : va_S (th_A b0) s.heap s.heap [] := va_S.rf
  have hF : fr [13] E σ σ := fr.rf
  have hM : fm [3, 5, 35] E σ σ a := fm.rf
  have hk0 := hy0 i (by omega) (by omega)
  have inX11 : ∀ w ∈ wsX110, w ∈ wsX11_emitWithin := by decide +kernel
  have fl0 := hts (.fieldLink RX11 9 "NestQueryModel" "tree" "[I") (by decide +kernel)
  have fl1 := hts (.fieldLink RX11 385 "NestQueryModel" "changeKey" "I") (by decide +kernel)
  have fl2 := hts (.fieldLink RX11 13 "NestQueryModel" "data" "[I") (by decide +kernel)
  have fl3 := hts (.fieldLink RX11 369 "NestQueryModel" "change" "I") (by decide +kernel)
  have fl4 := hts (.fieldLink RX11 45 "NestQueryModel" "order" "[I") (by decide +kernel)
  have fl5 := hts (.fieldLink RX11 35 "NestQueryModel" "set" "[Z") (by decide +kernel)
  have hl := lv_entry ([.ref a, .int (I i), .int (I is), .int (I dp)]) (n := 9) (Nat.le_of_ble_eq_true rfl)
  rw [lg_entry_eq]
  generalize (lg_sl ([.ref a, .int (I i), .int (I is), .int (I dp)]) ++ List.replicate (9 - (lg_sl ([.ref a, .int (I i), .int (I is), .int (I dp)])).length) Slot.unset).toArray = ls at hl ⊢
  have hl : lv_has ls 9 [(0, .ref a), (1, .int (I i)), (2, .int (I is)), (3, .int (I dp))] := hl
  obtain ⟨a50, ea50, ra50, la50, ua50⟩ := hO.gi h_a (by decide) k13_5
  obtain ⟨a320, ea320, ra320, la320, ua320⟩ := hO.gi h_a (by decide) k13_32
  obtain ⟨a330, ea330, ra330, la330, ua330⟩ := hO.gi h_a (by decide) k13_33
  refine lv_aload_n hx hb dX11_emitWithin_0 rfl (lv_at hl 0 rfl) ?_
  refine ok.getR hO h_a (by decide) k13_1 (by decide) (fun _ _ he hv kk => th_get (ci := 11) (C := RX11) (T := TX11) (N := 66) hx hb hts inX11 hown hK hH he rfl 1 (by decide) fl0 hv dX11_emitWithin_1 kk) ?_
  refine lv_iload_n hx hb dX11_emitWithin_4 rfl (lv_at hl 1 rfl) ?_
  refine th_calli (va_runS (As := [.ref (ad E a 1), .int (I i)]) (rest := []) ⟨hx, hb, hml, hown, hts⟩ (w_many l G y b0 σ E hO (ad E a 1) 240 f1 (hO.roww h_a k13_1 isA1 ef1 rfl) i (show rng i from ri) (by omega) (by omega) (by first | exact hy0 | exact (hy0).sub (by omega) (by omega)) (by omega) (by omega) (by omega)) (va_cwS 2 hts gX11_emitWithin_X11_many rfl rfl rfl (by decide +kernel) ⟨(by first | (simp only [headSpec]; omega) | omega | (dsimp only; omega)), (by first | (simp only [headSpec]; omega) | omega | (dsimp only; omega))⟩) (th_PS hK hH) rfl rfl hl.1 rfl (lv_room (Nat.le_of_ble_eq_true rfl)) dX11_emitWithin_5 ⟨(by first | (simp only [headSpec]; omega) | omega | (dsimp only; omega)), (by first | (simp only [headSpec]; omega) | omega | (dsimp only; omega))⟩) hS (fun z_3 σ_s_2 H locs rz_3 hw_1 hH hS => ?_)
  obtain ⟨e9, hw_1⟩ := hw_1
  replace e9 := e9.symm
  subst e9
  have hw_1 : chn f1 (i + 1) z_3 (i + mS f1 i) ∧ 0 ≤ z_3 ∧ z_3 < mS f1 i := hw_1
  refine lv_istore (lv' := [(4, .int (I z_3)), (0, .ref a), (1, .int (I i)), (2, .int (I is)), (3, .int (I dp))]) hx hb dX11_emitWithin_8 hl (by decide) rfl (fun ls hl => ?_)
  refine lv_bipush (v := I 60) hx hb dX11_emitWithin_10 (by decide) ?_
  refine lv_iload_n hx hb dX11_emitWithin_12 rfl (lv_at hl 4 rfl) ?_
  refine lv_imul hx hb dX11_emitWithin_13 ?_
  refine nq_top (I_mul _ _) ?_
  refine lv_istore (lv' := [(5, .int (I (60 * dp))), (4, .int (I z_3)), (0, .ref a), (1, .int (I i)), (2, .int (I is)), (3, .int (I dp))]) hx hb dX11_emitWithin_14 hl (by decide) rfl (fun ls hl => ?_)
  refine lv_iconst (v := I 0) hx hb dX11_emitWithin_16 (by decide) ?_
  refine lv_istore (lv' := [(6, .int (I 0)), (5, .int (I (60 * dp))), (4, .int (I z_3)), (0, .ref a), (1, .int (I i)), (2, .int (I is)), (3, .int (I dp))]) hx hb dX11_emitWithin_17 hl (by decide) rfl (fun ls hl => ?_)
  refine th_loop (α := Int × (Nat → Int32)) (pc := 19) (fun x9 => (z_3 - x9.1).toNat) (fun x9 σ9 H9 l9 ls9 => ok y E σ9 ∧ fr [13] E σ σ9 ∧ fm [3, 5, 35] E σ σ9 a ∧ th_H G b0 σ9 H9 ∧ va_S (th_A b0) s.heap H9 l9 ∧ lv_has ls9 9 [(0, .ref a), (1, .int (I i)), (2, .int (I is)), (3, .int (I dp)), (4, .int (I z_3)), (5, .int (I (60 * dp))), (6, .int (I x9.1))] ∧ rng x9.1 ∧ (0 ≤ x9.1) ∧ (x9.1 ≤ z_3) ∧ (ofl (is = 1 ∧ gI σ a 32 = 4) f1 x9.2 (60 * dp) z_3 i x9.1) ∧ (ofr f35 x9.2 (60 * dp)) ∧ (gI σ9 a 5 = a50) ∧ (gI σ9 a 32 = a320) ∧ (gI σ9 a 33 = a330) ∧ (aF σ9 (ad E a 1) = f1) ∧ (aF σ9 (ad E a 2) = f2) ∧ (aF σ9 (ad E a 3) = f3) ∧ (aF σ9 (ad E a 35) = x9.2)) ?_ (0, f35) σ _ _ _ ⟨hO, hF, hM, hH, hS, lv_sub hl [3, 4, 5, 6, 2, 1, 0] rfl, (show rng 0 from ⟨by decide, by decide⟩), by first | (dsimp only; omega) | omega, by first | (dsimp only; omega) | omega, ofl.zero, ofr.rf, ea50, ea320, ea330, ef1, ef2, ef3, ef35⟩
  intro x9 σ_J_100 H locs ls hI9 ihJ_100
  obtain ⟨v6q99, F35q98⟩ := x9
  obtain ⟨hO, hF, hM, hH, hS, hl, rv6q99, J_100_0, J_100_1, J_100_2, J_100_3, J_100_4, J_100_5, J_100_6, J_100_7, J_100_8, J_100_9, J_100_10⟩ := hI9
  have hl : lv_has ls 9 [(0, .ref a), (1, .int (I i)), (2, .int (I is)), (3, .int (I dp)), (4, .int (I z_3)), (5, .int (I (60 * dp))), (6, .int (I v6q99))] := hl
  have rv6q99 : rng v6q99 := rv6q99
  have J_100_0 : 0 ≤ v6q99 := J_100_0
  have J_100_1 : v6q99 ≤ z_3 := J_100_1
  have J_100_2 : ofl (is = 1 ∧ gI σ a 32 = 4) f1 F35q98 (60 * dp) z_3 i v6q99 := J_100_2
  have J_100_3 : ofr f35 F35q98 (60 * dp) := J_100_3
  have J_100_4 : gI σ_J_100 a 5 = a50 := J_100_4
  have J_100_5 : gI σ_J_100 a 32 = a320 := J_100_5
  have J_100_6 : gI σ_J_100 a 33 = a330 := J_100_6
  have J_100_7 : aF σ_J_100 (ad E a 1) = f1 := J_100_7
  have J_100_8 : aF σ_J_100 (ad E a 2) = f2 := J_100_8
  have J_100_9 : aF σ_J_100 (ad E a 3) = f3 := J_100_9
  have J_100_10 : aF σ_J_100 (ad E a 35) = F35q98 := J_100_10
  refine lv_iload hx hb dX11_emitWithin_19 (lv_at hl 6 rfl) ?_
  refine lv_iload hx hb dX11_emitWithin_21 (lv_at hl 4 rfl) ?_
  refine lv_icmp_ge (tgt := 74) hx hb dX11_emitWithin_23 (by decide) (fun c_101 => ?_) (fun c_101 => ?_)
  · replace c_101 := (I_le (a := z_3) (b := v6q99) rz_3 rv6q99).mp c_101
    have hpm_102 : prm f1 F35q98 (60 * dp) (z_3).toNat i := (J_100_2.to (by omega)).prm hw_1.1 (by omega)
    refine lv_iload_n hx hb dX11_emitWithin_74 rfl (lv_at hl 2 rfl) ?_
    obtain ⟨f_120, ef_121⟩ : ∃ f9, aF σ_J_100 (ad E a 35) = f9 := ⟨_, rfl⟩
    refine th_join (α := (Nat → Int32)) (J := 106) (stk := fun x9 => []) (fun x9 σ9 H9 l9 ls9 => ok y E σ9 ∧ fr [13] E σ σ9 ∧ fm [3, 5, 35] E σ σ9 a ∧ th_H G b0 σ9 H9 ∧ va_S (th_A b0) s.heap H9 l9 ∧ lv_has ls9 9 [(0, .ref a), (1, .int (I i)), (2, .int (I is)), (3, .int (I dp)), (4, .int (I z_3)), (5, .int (I (60 * dp)))] ∧ (prm f1 x9 (60 * dp) (z_3).toNat i) ∧ (ofr f35 x9 (60 * dp)) ∧ (gI σ9 a 5 = a50) ∧ (gI σ9 a 32 = a320) ∧ (gI σ9 a 33 = a330) ∧ (aF σ9 (ad E a 1) = f1) ∧ (aF σ9 (ad E a 2) = f2) ∧ (aF σ9 (ad E a 3) = f3) ∧ (aF σ9 (ad E a 35) = x9)) ?_ (fun jK_124 => ?_)
    · intro x9 σ_K_124 H locs ls hI9
      obtain ⟨F35q122, ex9⟩ : ∃ z, z = x9 := ⟨_, rfl⟩
      subst ex9
      obtain ⟨hO, hF, hM, hH, hS, hl, K_124_0, K_124_1, K_124_2, K_124_3, K_124_4, K_124_5, K_124_6, K_124_7, K_124_8⟩ := hI9
      have hl : lv_has ls 9 [(0, .ref a), (1, .int (I i)), (2, .int (I is)), (3, .int (I dp)), (4, .int (I z_3)), (5, .int (I (60 * dp)))] := hl
      have K_124_0 : prm f1 F35q122 (60 * dp) (z_3).toNat i := K_124_0
      have K_124_1 : ofr f35 F35q122 (60 * dp) := K_124_1
      have K_124_2 : gI σ_K_124 a 5 = a50 := K_124_2
      have K_124_3 : gI σ_K_124 a 32 = a320 := K_124_3
      have K_124_4 : gI σ_K_124 a 33 = a330 := K_124_4
      have K_124_5 : aF σ_K_124 (ad E a 1) = f1 := K_124_5
      have K_124_6 : aF σ_K_124 (ad E a 2) = f2 := K_124_6
      have K_124_7 : aF σ_K_124 (ad E a 3) = f3 := K_124_7
      have K_124_8 : aF σ_K_124 (ad E a 35) = F35q122 := K_124_8
      refine lv_iload_n hx hb dX11_emitWithin_106 rfl (lv_at hl 2 rfl) ?_
      refine th_join (α := Int) (J := 135) (stk := fun x9 => [.int (I x9)]) (fun x9 σ9 H9 l9 ls9 => σ9 = σ_K_124 ∧ th_H G b0 σ9 H9 ∧ va_S (th_A b0) s.heap H9 l9 ∧ lv_has ls9 9 [(0, .ref a), (1, .int (I i)), (2, .int (I is)), (3, .int (I dp)), (4, .int (I z_3)), (5, .int (I (60 * dp)))] ∧ rng x9 ∧ (x9 = 0 ∨ (gI σ a 32 = 2 ∧ mK f1 i = 3)) ∧ (x9 = 0 ∨ x9 = 1)) ?_ (fun jK_132 => ?_)
      · intro x9 σ_K_132 H locs ls hI9
        obtain ⟨w0q131, ex9⟩ : ∃ z, z = x9 := ⟨_, rfl⟩
        subst ex9
        obtain ⟨eK_132, hH, hS, hl, rw0q131, K_132_0, K_132_1⟩ := hI9
        replace eK_132 := eK_132.symm
        subst eK_132
        have hl : lv_has ls 9 [(0, .ref a), (1, .int (I i)), (2, .int (I is)), (3, .int (I dp)), (4, .int (I z_3)), (5, .int (I (60 * dp)))] := hl
        have rw0q131 : rng w0q131 := rw0q131
        have K_132_0 : w0q131 = 0 ∨ (gI σ a 32 = 2 ∧ mK f1 i = 3) := K_132_0
        have K_132_1 : w0q131 = 0 ∨ w0q131 = 1 := K_132_1
        refine lv_istore (lv' := [(6, .int (I w0q131)), (0, .ref a), (1, .int (I i)), (2, .int (I is)), (3, .int (I dp)), (4, .int (I z_3)), (5, .int (I (60 * dp)))]) hx hb dX11_emitWithin_135 hl (by decide) rfl (fun ls hl => ?_)
        refine lv_iconst (v := I 0) hx hb dX11_emitWithin_137 (by decide) ?_
        refine lv_istore (lv' := [(7, .int (I 0)), (6, .int (I w0q131)), (0, .ref a), (1, .int (I i)), (2, .int (I is)), (3, .int (I dp)), (4, .int (I z_3)), (5, .int (I (60 * dp)))]) hx hb dX11_emitWithin_138 hl (by decide) rfl (fun ls hl => ?_)
        refine th_loop (α := Int × Int × (Nat → Int32) × (Nat → Int32)) (pc := 140) (fun x9 => (z_3 - x9.1).toNat) (fun x9 σ9 H9 l9 ls9 => ok y E σ9 ∧ fr [13] E σ σ9 ∧ fm [3, 5, 35] E σ σ9 a ∧ th_H G b0 σ9 H9 ∧ va_S (th_A b0) s.heap H9 l9 ∧ lv_has ls9 9 [(0, .ref a), (1, .int (I i)), (2, .int (I is)), (3, .int (I dp)), (4, .int (I z_3)), (5, .int (I (60 * dp))), (6, .int (I w0q131)), (7, .int (I x9.1))] ∧ rng x9.1 ∧ rng x9.2.1 ∧ (0 ≤ x9.1) ∧ (x9.1 ≤ z_3) ∧ (emv f1 x9.2.2.1 (ls x9.2.2.2 (60 * dp) (x9.1).toNat) (gI σ a 5 - 1) x9.2.1) ∧ (same f3 x9.2.2.1 0 (gI σ a 5) 0) ∧ (prm f1 x9.2.2.2 (60 * dp) (z_3).toNat i) ∧ (ofr f35 x9.2.2.2 (60 * dp)) ∧ (gI σ a 5 ≤ x9.2.1) ∧ (0 ≤ x9.2.1) ∧ (x9.2.1 ≤ 4000) ∧ (gI σ9 a 32 = a320) ∧ (gI σ9 a 33 = a330) ∧ (aF σ9 (ad E a 1) = f1) ∧ (aF σ9 (ad E a 2) = f2) ∧ (aF σ9 (ad E a 3) = x9.2.2.1) ∧ (aF σ9 (ad E a 35) = x9.2.2.2) ∧ (gI σ9 a 5 = x9.2.1)) ?_ (0, a50, f3, F35q122) σ_K_124 _ _ _ ⟨hO, hF, hM, hH, hS, lv_sub hl [2, 3, 4, 5, 6, 7, 1, 0] rfl, (show rng 0 from ⟨by decide, by decide⟩), ra50, by first | (dsimp only; omega) | omega, by first | (dsimp only; omega) | omega, (by have h9 := emv.zero (f1 := f1) (g := f3) (m := gI σ a 5 - 1); rw [show gI σ a 5 - 1 + 1 = a50 by omega] at h9; exact h9), same.rf, K_124_0, K_124_1, by first | (dsimp only; omega) | omega, by first | (dsimp only; omega) | omega, by first | (dsimp only; omega) | omega, K_124_3, K_124_4, K_124_5, K_124_6, K_124_7, K_124_8, K_124_2⟩
        intro x9 σ_J_291 H locs ls hI9 ihJ_291
        obtain ⟨v7q290, G5q289, F3q287, F35q288⟩ := x9
        obtain ⟨hO, hF, hM, hH, hS, hl, rv7q290, rG5q289, J_291_0, J_291_1, J_291_2, J_291_3, J_291_4, J_291_5, J_291_6, J_291_7, J_291_8, J_291_9, J_291_10, J_291_11, J_291_12, J_291_13, J_291_14, J_291_15⟩ := hI9
        have hl : lv_has ls 9 [(0, .ref a), (1, .int (I i)), (2, .int (I is)), (3, .int (I dp)), (4, .int (I z_3)), (5, .int (I (60 * dp))), (6, .int (I w0q131)), (7, .int (I v7q290))] := hl
        have rv7q290 : rng v7q290 := rv7q290
        have rG5q289 : rng G5q289 := rG5q289
        have J_291_0 : 0 ≤ v7q290 := J_291_0
        have J_291_1 : v7q290 ≤ z_3 := J_291_1
        have J_291_2 : emv f1 F3q287 (ls F35q288 (60 * dp) (v7q290).toNat) (gI σ a 5 - 1) G5q289 := J_291_2
        have J_291_3 : same f3 F3q287 0 (gI σ a 5) 0 := J_291_3
        have J_291_4 : prm f1 F35q288 (60 * dp) (z_3).toNat i := J_291_4
        have J_291_5 : ofr f35 F35q288 (60 * dp) := J_291_5
        have J_291_6 : gI σ a 5 ≤ G5q289 := J_291_6
        have J_291_7 : 0 ≤ G5q289 := J_291_7
        have J_291_8 : G5q289 ≤ 4000 := J_291_8
        have J_291_9 : gI σ_J_291 a 32 = a320 := J_291_9
        have J_291_10 : gI σ_J_291 a 33 = a330 := J_291_10
        have J_291_11 : aF σ_J_291 (ad E a 1) = f1 := J_291_11
        have J_291_12 : aF σ_J_291 (ad E a 2) = f2 := J_291_12
        have J_291_13 : aF σ_J_291 (ad E a 3) = F3q287 := J_291_13
        have J_291_14 : aF σ_J_291 (ad E a 35) = F35q288 := J_291_14
        have J_291_15 : gI σ_J_291 a 5 = G5q289 := J_291_15
        refine lv_iload hx hb dX11_emitWithin_140 (lv_at hl 7 rfl) ?_
        refine lv_iload hx hb dX11_emitWithin_142 (lv_at hl 4 rfl) ?_
        refine lv_icmp_ge (tgt := 232) hx hb dX11_emitWithin_144 (by decide) (fun c_292 => ?_) (fun c_292 => ?_)
        · replace c_292 := (I_le (a := z_3) (b := v7q290) rz_3 rv7q290).mp c_292
          refine lv_iload_n hx hb dX11_emitWithin_232 rfl (lv_at hl 2 rfl) ?_
          refine lv_if_eq (tgt := 266) hx hb dX11_emitWithin_233 (by decide) (fun c_293 => ?_) (fun c_293 => ?_)
          · replace c_293 := (I_eq (a := is) (b := 0) ris (show rng 0 from ⟨by decide, by decide⟩)).mp c_293
            refine lv_iload hx hb dX11_emitWithin_266 (lv_at hl 6 rfl) ?_
            refine lv_if_eq (tgt := 300) hx hb dX11_emitWithin_268 (by decide) (fun c_294 => ?_) (fun c_294 => ?_)
            · replace c_294 := (I_eq (a := w0q131) (b := 0) rw0q131 (show rng 0 from ⟨by decide, by decide⟩)).mp c_294
              exact th_vret hx hb hr hlocks hH hS ⟨hO, hF, hM, by have h7 := (J_291_2.to (by omega)).fin (n := (z_3).toNat) J_291_4 (hy2.1.2.one (by omega) (by omega)); rw [show aF σ_J_291 (ad E a 3) = F3q287 from J_291_13, show aF σ_J_291 (ad E a 35) = F35q288 from J_291_14, show gI σ_J_291 a 5 = G5q289 by omega]; exact ⟨h7, J_291_3, J_291_5⟩⟩ dX11_emitWithin_300
            · replace c_294 := mt (I_eq (a := w0q131) (b := 0) rw0q131 (show rng 0 from ⟨by decide, by decide⟩)).mpr c_294
              refine lv_aload_n hx hb dX11_emitWithin_271 rfl (lv_at hl 0 rfl) ?_
              refine ok.getR hO h_a (by decide) k13_1 (by decide) (fun _ _ he hv kk => th_get (ci := 11) (C := RX11) (T := TX11) (N := 66) hx hb hts inX11 hown hK hH he rfl 1 (by decide) fl0 hv dX11_emitWithin_272 kk) ?_
              refine lv_iload_n hx hb dX11_emitWithin_275 rfl (lv_at hl 1 rfl) ?_
              refine lv_aload_n hx hb dX11_emitWithin_276 rfl (lv_at hl 0 rfl) ?_
              refine ok.getIc hO h_a (by decide) k13_33 J_291_10 (fun _ _ he hv kk => th_get (ci := 11) (C := RX11) (T := TX11) (N := 66) hx hb hts inX11 hown hK hH he rfl 33 (by decide) fl1 hv dX11_emitWithin_277 kk) ?_
              refine th_calli (va_runS (As := [.ref (ad E a 1), .int (I i), .int (I a330)]) (rest := []) ⟨hx, hb, hml, hown, hts⟩ (w_byKey l G y b0 σ_J_291 E hO (ad E a 1) 240 f1 (hO.roww h_a k13_1 isA1 J_291_11 rfl) i (show rng i from ri) (by omega) (by omega) a330 (show rng a330 from ra330) (by first | exact hy0 | exact (hy0).sub (by omega) (by omega)) (by omega) (by omega) (by omega)) (va_cwS 3 hts gX11_emitWithin_X11_byKey rfl rfl rfl (by decide +kernel) ⟨(by first | (simp only [headSpec]; omega) | omega | (dsimp only; omega)), (by first | (simp only [headSpec]; omega) | omega | (dsimp only; omega))⟩) (th_PS hK hH) rfl rfl hl.1 rfl (lv_room (Nat.le_of_ble_eq_true rfl)) dX11_emitWithin_280 ⟨(by first | (simp only [headSpec]; omega) | omega | (dsimp only; omega)), (by first | (simp only [headSpec]; omega) | omega | (dsimp only; omega))⟩) hS (fun z_297 σ_s_296 H locs rz_297 hw_295 hH hS => ?_)
              obtain ⟨e9, hw_295⟩ := hw_295
              replace e9 := e9.symm
              subst e9
              have hw_295 : (z_297 = -1 ∧ nok f1 (i + 1) (i + mS f1 i) a330) ∨ (kid f1 i z_297 ∧ mY f1 z_297 = a330 ∧ i < z_297 ∧ z_297 < i + mS f1 i) := hw_295
              refine lv_iconst (v := I (-1)) hx hb dX11_emitWithin_283 (by decide) ?_
              refine lv_icmp_ne (tgt := 300) hx hb dX11_emitWithin_284 (by decide) (fun c_298 => ?_) (fun c_298 => ?_)
              · replace c_298 := mt (I_eq (a := z_297) (b := (-1)) rz_297 (show rng (-1) from ⟨by decide, by decide⟩)).mpr c_298
                exact th_vret hx hb hr hlocks hH hS ⟨hO, hF, hM, by have h7 := (J_291_2.to (by omega)).fin (n := (z_3).toNat) J_291_4 (hy2.1.2.one (by omega) (by omega)); rw [show aF σ_J_291 (ad E a 3) = F3q287 from J_291_13, show aF σ_J_291 (ad E a 35) = F35q288 from J_291_14, show gI σ_J_291 a 5 = G5q289 by omega]; exact ⟨h7, J_291_3, J_291_5⟩⟩ dX11_emitWithin_300
              · replace c_298 := (I_eq (a := z_297) (b := (-1)) rz_297 (show rng (-1) from ⟨by decide, by decide⟩)).mp c_298
                have ht9 := (hy3 (by omega)).2
                refine lv_aload_n hx hb dX11_emitWithin_287 rfl (lv_at hl 0 rfl) ?_
                refine lv_aload_n hx hb dX11_emitWithin_288 rfl (lv_at hl 0 rfl) ?_
                refine ok.getR hO h_a (by decide) k13_2 (by decide) (fun _ _ he hv kk => th_get (ci := 11) (C := RX11) (T := TX11) (N := 66) hx hb hts inX11 hown hK hH he rfl 2 (by decide) fl2 hv dX11_emitWithin_289 kk) ?_
                refine lv_iconst (v := I 0) hx hb dX11_emitWithin_292 (by decide) ?_
                refine lv_aload_n hx hb dX11_emitWithin_293 rfl (lv_at hl 0 rfl) ?_
                refine ok.getIc hO h_a (by decide) k13_33 J_291_10 (fun _ _ he hv kk => th_get (ci := 11) (C := RX11) (T := TX11) (N := 66) hx hb hts inX11 hown hK hH he rfl 33 (by decide) fl1 hv dX11_emitWithin_294 kk) ?_
                obtain ⟨_, hc_299⟩ := hO.cell h_a (by decide) (ci := 11) rfl
                refine th_callv (va_runV (As := [.ref (ad E a 2), .int (I 0), .int (I a330)]) (rest := []) ⟨hx, hb, hml, hown, hts⟩ (m_copyWith2 l G y b0 σ_J_291 E hO a h_a 0 (show rng 0 from (show rng 0 from ⟨by decide, by decide⟩)) (by omega) (by omega) a330 (show rng a330 from ra330) f2 J_291_12 F3q287 J_291_13 ((hy3 (by omega))) (by omega) (by omega)) (cwV 3 hts gX11_emitWithin_X11_copyWith rfl rfl rfl (by decide +kernel) ⟨(by first | (simp only [headSpec]; omega) | omega | (dsimp only; omega)), (by first | (simp only [headSpec]; omega) | omega | (dsimp only; omega))⟩) (th_PV hK hH rfl hc_299) rfl rfl hl.1 rfl (lv_room (Nat.le_of_ble_eq_true rfl)) dX11_emitWithin_297 ⟨(by first | (simp only [headSpec]; omega) | omega | (dsimp only; omega)), (by first | (simp only [headSpec]; omega) | omega | (dsimp only; omega))⟩) hS (fun σ_s_301 H locs hw_300 hH hS => ?_)
                obtain ⟨hO9, hF9, hM9, hw_300⟩ := hw_300
                replace hM := hM.tu hM9 (by decide)
                replace hF := hF.tu hF9 (by decide)
                have e_302 : gI σ_s_301 a 32 = a320 := (hM9.i (by decide)).trans J_291_9
                have e_303 : gI σ_s_301 a 33 = a330 := (hM9.i (by decide)).trans J_291_10
                have e_304 : aF σ_s_301 (ad E a 1) = f1 := (hM9.a (by decide) (by decide)).trans J_291_11
                have e_305 : aF σ_s_301 (ad E a 2) = f2 := (hM9.a (by decide) (by decide)).trans J_291_12
                have e_306 : aF σ_s_301 (ad E a 35) = F35q288 := (hM9.a (by decide) (by decide)).trans J_291_14
                replace hO := hO9
                generalize ef_308 : aF σ_s_301 (ad E a 3) = g_307 at hw_300
                have hw_300 : blk F3q287 g_307 (gI σ_J_291 a 5) (gI σ_J_291 a 5 + mS f2 0) a330 ∧ mS g_307 (gI σ_J_291 a 5) = mS f2 0 ∧ gI σ_s_301 a 5 = gI σ_J_291 a 5 + mS f2 0 := hw_300
                exact th_vret hx hb hr hlocks hH hS ⟨hO, hF, hM, by have h9 := hw_300.1; rw [show gI σ_J_291 a 5 = G5q289 by omega] at h9; have h7 := (J_291_2.to (by omega)).add (n := (z_3).toNat) J_291_4 (hy2.1.2.one (by omega) (by omega)) h9 (by omega) (fun _ => (hw_295.resolve_right (fun h9 => by have h8 := h9.2.2.1; omega)).2) (by omega); rw [show aF σ_s_301 (ad E a 3) = g_307 from ef_308, show aF σ_s_301 (ad E a 35) = F35q288 from e_306, show gI σ_s_301 a 5 = G5q289 + mS f2 0 by omega]; exact ⟨h7, blk.tr0 J_291_3 h9 (by omega), J_291_5⟩⟩ dX11_emitWithin_300
          · replace c_293 := mt (I_eq (a := is) (b := 0) ris (show rng 0 from ⟨by decide, by decide⟩)).mpr c_293
            refine lv_aload_n hx hb dX11_emitWithin_236 rfl (lv_at hl 0 rfl) ?_
            refine ok.getIc hO h_a (by decide) k13_32 J_291_9 (fun _ _ he hv kk => th_get (ci := 11) (C := RX11) (T := TX11) (N := 66) hx hb hts inX11 hown hK hH he rfl 32 (by decide) fl3 hv dX11_emitWithin_237 kk) ?_
            refine lv_iconst (v := I 1) hx hb dX11_emitWithin_240 (by decide) ?_
            refine lv_icmp_ne (tgt := 266) hx hb dX11_emitWithin_241 (by decide) (fun c_309 => ?_) (fun c_309 => ?_)
            · replace c_309 := mt (I_eq (a := a320) (b := 1) ra320 (show rng 1 from ⟨by decide, by decide⟩)).mpr c_309
              refine lv_iload hx hb dX11_emitWithin_266 (lv_at hl 6 rfl) ?_
              refine lv_if_eq (tgt := 300) hx hb dX11_emitWithin_268 (by decide) (fun c_310 => ?_) (fun c_310 => ?_)
              · replace c_310 := (I_eq (a := w0q131) (b := 0) rw0q131 (show rng 0 from ⟨by decide, by decide⟩)).mp c_310
                exact th_vret hx hb hr hlocks hH hS ⟨hO, hF, hM, by have h7 := (J_291_2.to (by omega)).fin (n := (z_3).toNat) J_291_4 (hy2.1.2.one (by omega) (by omega)); rw [show aF σ_J_291 (ad E a 3) = F3q287 from J_291_13, show aF σ_J_291 (ad E a 35) = F35q288 from J_291_14, show gI σ_J_291 a 5 = G5q289 by omega]; exact ⟨h7, J_291_3, J_291_5⟩⟩ dX11_emitWithin_300
              · replace c_310 := mt (I_eq (a := w0q131) (b := 0) rw0q131 (show rng 0 from ⟨by decide, by decide⟩)).mpr c_310
                refine lv_aload_n hx hb dX11_emitWithin_271 rfl (lv_at hl 0 rfl) ?_
                refine ok.getR hO h_a (by decide) k13_1 (by decide) (fun _ _ he hv kk => th_get (ci := 11) (C := RX11) (T := TX11) (N := 66) hx hb hts inX11 hown hK hH he rfl 1 (by decide) fl0 hv dX11_emitWithin_272 kk) ?_
                refine lv_iload_n hx hb dX11_emitWithin_275 rfl (lv_at hl 1 rfl) ?_
                refine lv_aload_n hx hb dX11_emitWithin_276 rfl (lv_at hl 0 rfl) ?_
                refine ok.getIc hO h_a (by decide) k13_33 J_291_10 (fun _ _ he hv kk => th_get (ci := 11) (C := RX11) (T := TX11) (N := 66) hx hb hts inX11 hown hK hH he rfl 33 (by decide) fl1 hv dX11_emitWithin_277 kk) ?_
                refine th_calli (va_runS (As := [.ref (ad E a 1), .int (I i), .int (I a330)]) (rest := []) ⟨hx, hb, hml, hown, hts⟩ (w_byKey l G y b0 σ_J_291 E hO (ad E a 1) 240 f1 (hO.roww h_a k13_1 isA1 J_291_11 rfl) i (show rng i from ri) (by omega) (by omega) a330 (show rng a330 from ra330) (by first | exact hy0 | exact (hy0).sub (by omega) (by omega)) (by omega) (by omega) (by omega)) (va_cwS 3 hts gX11_emitWithin_X11_byKey rfl rfl rfl (by decide +kernel) ⟨(by first | (simp only [headSpec]; omega) | omega | (dsimp only; omega)), (by first | (simp only [headSpec]; omega) | omega | (dsimp only; omega))⟩) (th_PS hK hH) rfl rfl hl.1 rfl (lv_room (Nat.le_of_ble_eq_true rfl)) dX11_emitWithin_280 ⟨(by first | (simp only [headSpec]; omega) | omega | (dsimp only; omega)), (by first | (simp only [headSpec]; omega) | omega | (dsimp only; omega))⟩) hS (fun z_313 σ_s_312 H locs rz_313 hw_311 hH hS => ?_)
                obtain ⟨e9, hw_311⟩ := hw_311
                replace e9 := e9.symm
                subst e9
                have hw_311 : (z_313 = -1 ∧ nok f1 (i + 1) (i + mS f1 i) a330) ∨ (kid f1 i z_313 ∧ mY f1 z_313 = a330 ∧ i < z_313 ∧ z_313 < i + mS f1 i) := hw_311
                refine lv_iconst (v := I (-1)) hx hb dX11_emitWithin_283 (by decide) ?_
                refine lv_icmp_ne (tgt := 300) hx hb dX11_emitWithin_284 (by decide) (fun c_314 => ?_) (fun c_314 => ?_)
                · replace c_314 := mt (I_eq (a := z_313) (b := (-1)) rz_313 (show rng (-1) from ⟨by decide, by decide⟩)).mpr c_314
                  exact th_vret hx hb hr hlocks hH hS ⟨hO, hF, hM, by have h7 := (J_291_2.to (by omega)).fin (n := (z_3).toNat) J_291_4 (hy2.1.2.one (by omega) (by omega)); rw [show aF σ_J_291 (ad E a 3) = F3q287 from J_291_13, show aF σ_J_291 (ad E a 35) = F35q288 from J_291_14, show gI σ_J_291 a 5 = G5q289 by omega]; exact ⟨h7, J_291_3, J_291_5⟩⟩ dX11_emitWithin_300
                · replace c_314 := (I_eq (a := z_313) (b := (-1)) rz_313 (show rng (-1) from ⟨by decide, by decide⟩)).mp c_314
                  have ht9 := (hy3 (by omega)).2
                  refine lv_aload_n hx hb dX11_emitWithin_287 rfl (lv_at hl 0 rfl) ?_
                  refine lv_aload_n hx hb dX11_emitWithin_288 rfl (lv_at hl 0 rfl) ?_
                  refine ok.getR hO h_a (by decide) k13_2 (by decide) (fun _ _ he hv kk => th_get (ci := 11) (C := RX11) (T := TX11) (N := 66) hx hb hts inX11 hown hK hH he rfl 2 (by decide) fl2 hv dX11_emitWithin_289 kk) ?_
                  refine lv_iconst (v := I 0) hx hb dX11_emitWithin_292 (by decide) ?_
                  refine lv_aload_n hx hb dX11_emitWithin_293 rfl (lv_at hl 0 rfl) ?_
                  refine ok.getIc hO h_a (by decide) k13_33 J_291_10 (fun _ _ he hv kk => th_get (ci := 11) (C := RX11) (T := TX11) (N := 66) hx hb hts inX11 hown hK hH he rfl 33 (by decide) fl1 hv dX11_emitWithin_294 kk) ?_
                  obtain ⟨_, hc_315⟩ := hO.cell h_a (by decide) (ci := 11) rfl
                  refine th_callv (va_runV (As := [.ref (ad E a 2), .int (I 0), .int (I a330)]) (rest := []) ⟨hx, hb, hml, hown, hts⟩ (m_copyWith2 l G y b0 σ_J_291 E hO a h_a 0 (show rng 0 from (show rng 0 from ⟨by decide, by decide⟩)) (by omega) (by omega) a330 (show rng a330 from ra330) f2 J_291_12 F3q287 J_291_13 ((hy3 (by omega))) (by omega) (by omega)) (cwV 3 hts gX11_emitWithin_X11_copyWith rfl rfl rfl (by decide +kernel) ⟨(by first | (simp only [headSpec]; omega) | omega | (dsimp only; omega)), (by first | (simp only [headSpec]; omega) | omega | (dsimp only; omega))⟩) (th_PV hK hH rfl hc_315) rfl rfl hl.1 rfl (lv_room (Nat.le_of_ble_eq_true rfl)) dX11_emitWithin_297 ⟨(by first | (simp only [headSpec]; omega) | omega | (dsimp only; omega)), (by first | (simp only [headSpec]; omega) | omega | (dsimp only; omega))⟩) hS (fun σ_s_317 H locs hw_316 hH hS => ?_)
                  obtain ⟨hO9, hF9, hM9, hw_316⟩ := hw_316
                  replace hM := hM.tu hM9 (by decide)
                  replace hF := hF.tu hF9 (by decide)
                  have e_318 : gI σ_s_317 a 32 = a320 := (hM9.i (by decide)).trans J_291_9
                  have e_319 : gI σ_s_317 a 33 = a330 := (hM9.i (by decide)).trans J_291_10
                  have e_320 : aF σ_s_317 (ad E a 1) = f1 := (hM9.a (by decide) (by decide)).trans J_291_11
                  have e_321 : aF σ_s_317 (ad E a 2) = f2 := (hM9.a (by decide) (by decide)).trans J_291_12
                  have e_322 : aF σ_s_317 (ad E a 35) = F35q288 := (hM9.a (by decide) (by decide)).trans J_291_14
                  replace hO := hO9
                  generalize ef_324 : aF σ_s_317 (ad E a 3) = g_323 at hw_316
                  have hw_316 : blk F3q287 g_323 (gI σ_J_291 a 5) (gI σ_J_291 a 5 + mS f2 0) a330 ∧ mS g_323 (gI σ_J_291 a 5) = mS f2 0 ∧ gI σ_s_317 a 5 = gI σ_J_291 a 5 + mS f2 0 := hw_316
                  exact th_vret hx hb hr hlocks hH hS ⟨hO, hF, hM, by have h9 := hw_316.1; rw [show gI σ_J_291 a 5 = G5q289 by omega] at h9; have h7 := (J_291_2.to (by omega)).add (n := (z_3).toNat) J_291_4 (hy2.1.2.one (by omega) (by omega)) h9 (by omega) (fun _ => (hw_311.resolve_right (fun h9 => by have h8 := h9.2.2.1; omega)).2) (by omega); rw [show aF σ_s_317 (ad E a 3) = g_323 from ef_324, show aF σ_s_317 (ad E a 35) = F35q288 from e_322, show gI σ_s_317 a 5 = G5q289 + mS f2 0 by omega]; exact ⟨h7, blk.tr0 J_291_3 h9 (by omega), J_291_5⟩⟩ dX11_emitWithin_300
            · replace c_309 := (I_eq (a := a320) (b := 1) ra320 (show rng 1 from ⟨by decide, by decide⟩)).mp c_309
              refine lv_aload_n hx hb dX11_emitWithin_244 rfl (lv_at hl 0 rfl) ?_
              refine ok.getR hO h_a (by decide) k13_1 (by decide) (fun _ _ he hv kk => th_get (ci := 11) (C := RX11) (T := TX11) (N := 66) hx hb hts inX11 hown hK hH he rfl 1 (by decide) fl0 hv dX11_emitWithin_245 kk) ?_
              refine lv_iload_n hx hb dX11_emitWithin_248 rfl (lv_at hl 1 rfl) ?_
              refine th_calli (va_runS (As := [.ref (ad E a 1), .int (I i)]) (rest := []) ⟨hx, hb, hml, hown, hts⟩ (w_kind l G y b0 σ_J_291 E hO (ad E a 1) 240 f1 (hO.roww h_a k13_1 isA1 J_291_11 rfl) i (show rng i from ri) (by omega) (by omega) (by omega)) (va_cwS 2 hts gX11_emitWithin_X11_kind rfl rfl rfl (by decide +kernel) ⟨(by first | (simp only [headSpec]; omega) | omega | (dsimp only; omega)), (by first | (simp only [headSpec]; omega) | omega | (dsimp only; omega))⟩) (th_PS hK hH) rfl rfl hl.1 rfl (lv_room (Nat.le_of_ble_eq_true rfl)) dX11_emitWithin_249 ⟨(by first | (simp only [headSpec]; omega) | omega | (dsimp only; omega)), (by first | (simp only [headSpec]; omega) | omega | (dsimp only; omega))⟩) hS (fun z_327 σ_s_326 H locs rz_327 hw_325 hH hS => ?_)
              obtain ⟨e9, hw_325⟩ := hw_325
              replace e9 := e9.symm
              subst e9
              have hw_325 : z_327 = mK f1 i := hw_325
              refine lv_iconst (v := I 2) hx hb dX11_emitWithin_252 (by decide) ?_
              refine lv_icmp_ne (tgt := 266) hx hb dX11_emitWithin_253 (by decide) (fun c_328 => ?_) (fun c_328 => ?_)
              · replace c_328 := mt (I_eq (a := z_327) (b := 2) rz_327 (show rng 2 from ⟨by decide, by decide⟩)).mpr c_328
                refine lv_iload hx hb dX11_emitWithin_266 (lv_at hl 6 rfl) ?_
                refine lv_if_eq (tgt := 300) hx hb dX11_emitWithin_268 (by decide) (fun c_329 => ?_) (fun c_329 => ?_)
                · replace c_329 := (I_eq (a := w0q131) (b := 0) rw0q131 (show rng 0 from ⟨by decide, by decide⟩)).mp c_329
                  exact th_vret hx hb hr hlocks hH hS ⟨hO, hF, hM, by have h7 := (J_291_2.to (by omega)).fin (n := (z_3).toNat) J_291_4 (hy2.1.2.one (by omega) (by omega)); rw [show aF σ_J_291 (ad E a 3) = F3q287 from J_291_13, show aF σ_J_291 (ad E a 35) = F35q288 from J_291_14, show gI σ_J_291 a 5 = G5q289 by omega]; exact ⟨h7, J_291_3, J_291_5⟩⟩ dX11_emitWithin_300
                · replace c_329 := mt (I_eq (a := w0q131) (b := 0) rw0q131 (show rng 0 from ⟨by decide, by decide⟩)).mpr c_329
                  refine lv_aload_n hx hb dX11_emitWithin_271 rfl (lv_at hl 0 rfl) ?_
                  refine ok.getR hO h_a (by decide) k13_1 (by decide) (fun _ _ he hv kk => th_get (ci := 11) (C := RX11) (T := TX11) (N := 66) hx hb hts inX11 hown hK hH he rfl 1 (by decide) fl0 hv dX11_emitWithin_272 kk) ?_
                  refine lv_iload_n hx hb dX11_emitWithin_275 rfl (lv_at hl 1 rfl) ?_
                  refine lv_aload_n hx hb dX11_emitWithin_276 rfl (lv_at hl 0 rfl) ?_
                  refine ok.getIc hO h_a (by decide) k13_33 J_291_10 (fun _ _ he hv kk => th_get (ci := 11) (C := RX11) (T := TX11) (N := 66) hx hb hts inX11 hown hK hH he rfl 33 (by decide) fl1 hv dX11_emitWithin_277 kk) ?_
                  refine th_calli (va_runS (As := [.ref (ad E a 1), .int (I i), .int (I a330)]) (rest := []) ⟨hx, hb, hml, hown, hts⟩ (w_byKey l G y b0 σ_J_291 E hO (ad E a 1) 240 f1 (hO.roww h_a k13_1 isA1 J_291_11 rfl) i (show rng i from ri) (by omega) (by omega) a330 (show rng a330 from ra330) (by first | exact hy0 | exact (hy0).sub (by omega) (by omega)) (by omega) (by omega) (by omega)) (va_cwS 3 hts gX11_emitWithin_X11_byKey rfl rfl rfl (by decide +kernel) ⟨(by first | (simp only [headSpec]; omega) | omega | (dsimp only; omega)), (by first | (simp only [headSpec]; omega) | omega | (dsimp only; omega))⟩) (th_PS hK hH) rfl rfl hl.1 rfl (lv_room (Nat.le_of_ble_eq_true rfl)) dX11_emitWithin_280 ⟨(by first | (simp only [headSpec]; omega) | omega | (dsimp only; omega)), (by first | (simp only [headSpec]; omega) | omega | (dsimp only; omega))⟩) hS (fun z_332 σ_s_331 H locs rz_332 hw_330 hH hS => ?_)
                  obtain ⟨e9, hw_330⟩ := hw_330
                  replace e9 := e9.symm
                  subst e9
                  have hw_330 : (z_332 = -1 ∧ nok f1 (i + 1) (i + mS f1 i) a330) ∨ (kid f1 i z_332 ∧ mY f1 z_332 = a330 ∧ i < z_332 ∧ z_332 < i + mS f1 i) := hw_330
                  refine lv_iconst (v := I (-1)) hx hb dX11_emitWithin_283 (by decide) ?_
                  refine lv_icmp_ne (tgt := 300) hx hb dX11_emitWithin_284 (by decide) (fun c_333 => ?_) (fun c_333 => ?_)
                  · replace c_333 := mt (I_eq (a := z_332) (b := (-1)) rz_332 (show rng (-1) from ⟨by decide, by decide⟩)).mpr c_333
                    exact th_vret hx hb hr hlocks hH hS ⟨hO, hF, hM, by have h7 := (J_291_2.to (by omega)).fin (n := (z_3).toNat) J_291_4 (hy2.1.2.one (by omega) (by omega)); rw [show aF σ_J_291 (ad E a 3) = F3q287 from J_291_13, show aF σ_J_291 (ad E a 35) = F35q288 from J_291_14, show gI σ_J_291 a 5 = G5q289 by omega]; exact ⟨h7, J_291_3, J_291_5⟩⟩ dX11_emitWithin_300
                  · replace c_333 := (I_eq (a := z_332) (b := (-1)) rz_332 (show rng (-1) from ⟨by decide, by decide⟩)).mp c_333
                    have ht9 := (hy3 (by omega)).2
                    refine lv_aload_n hx hb dX11_emitWithin_287 rfl (lv_at hl 0 rfl) ?_
                    refine lv_aload_n hx hb dX11_emitWithin_288 rfl (lv_at hl 0 rfl) ?_
                    refine ok.getR hO h_a (by decide) k13_2 (by decide) (fun _ _ he hv kk => th_get (ci := 11) (C := RX11) (T := TX11) (N := 66) hx hb hts inX11 hown hK hH he rfl 2 (by decide) fl2 hv dX11_emitWithin_289 kk) ?_
                    refine lv_iconst (v := I 0) hx hb dX11_emitWithin_292 (by decide) ?_
                    refine lv_aload_n hx hb dX11_emitWithin_293 rfl (lv_at hl 0 rfl) ?_
                    refine ok.getIc hO h_a (by decide) k13_33 J_291_10 (fun _ _ he hv kk => th_get (ci := 11) (C := RX11) (T := TX11) (N := 66) hx hb hts inX11 hown hK hH he rfl 33 (by decide) fl1 hv dX11_emitWithin_294 kk) ?_
                    obtain ⟨_, hc_334⟩ := hO.cell h_a (by decide) (ci := 11) rfl
                    refine th_callv (va_runV (As := [.ref (ad E a 2), .int (I 0), .int (I a330)]) (rest := []) ⟨hx, hb, hml, hown, hts⟩ (m_copyWith2 l G y b0 σ_J_291 E hO a h_a 0 (show rng 0 from (show rng 0 from ⟨by decide, by decide⟩)) (by omega) (by omega) a330 (show rng a330 from ra330) f2 J_291_12 F3q287 J_291_13 ((hy3 (by omega))) (by omega) (by omega)) (cwV 3 hts gX11_emitWithin_X11_copyWith rfl rfl rfl (by decide +kernel) ⟨(by first | (simp only [headSpec]; omega) | omega | (dsimp only; omega)), (by first | (simp only [headSpec]; omega) | omega | (dsimp only; omega))⟩) (th_PV hK hH rfl hc_334) rfl rfl hl.1 rfl (lv_room (Nat.le_of_ble_eq_true rfl)) dX11_emitWithin_297 ⟨(by first | (simp only [headSpec]; omega) | omega | (dsimp only; omega)), (by first | (simp only [headSpec]; omega) | omega | (dsimp only; omega))⟩) hS (fun σ_s_336 H locs hw_335 hH hS => ?_)
                    obtain ⟨hO9, hF9, hM9, hw_335⟩ := hw_335
                    replace hM := hM.tu hM9 (by decide)
                    replace hF := hF.tu hF9 (by decide)
                    have e_337 : gI σ_s_336 a 32 = a320 := (hM9.i (by decide)).trans J_291_9
                    have e_338 : gI σ_s_336 a 33 = a330 := (hM9.i (by decide)).trans J_291_10
                    have e_339 : aF σ_s_336 (ad E a 1) = f1 := (hM9.a (by decide) (by decide)).trans J_291_11
                    have e_340 : aF σ_s_336 (ad E a 2) = f2 := (hM9.a (by decide) (by decide)).trans J_291_12
                    have e_341 : aF σ_s_336 (ad E a 35) = F35q288 := (hM9.a (by decide) (by decide)).trans J_291_14
                    replace hO := hO9
                    generalize ef_343 : aF σ_s_336 (ad E a 3) = g_342 at hw_335
                    have hw_335 : blk F3q287 g_342 (gI σ_J_291 a 5) (gI σ_J_291 a 5 + mS f2 0) a330 ∧ mS g_342 (gI σ_J_291 a 5) = mS f2 0 ∧ gI σ_s_336 a 5 = gI σ_J_291 a 5 + mS f2 0 := hw_335
                    exact th_vret hx hb hr hlocks hH hS ⟨hO, hF, hM, by have h9 := hw_335.1; rw [show gI σ_J_291 a 5 = G5q289 by omega] at h9; have h7 := (J_291_2.to (by omega)).add (n := (z_3).toNat) J_291_4 (hy2.1.2.one (by omega) (by omega)) h9 (by omega) (fun _ => (hw_330.resolve_right (fun h9 => by have h8 := h9.2.2.1; omega)).2) (by omega); rw [show aF σ_s_336 (ad E a 3) = g_342 from ef_343, show aF σ_s_336 (ad E a 35) = F35q288 from e_341, show gI σ_s_336 a 5 = G5q289 + mS f2 0 by omega]; exact ⟨h7, blk.tr0 J_291_3 h9 (by omega), J_291_5⟩⟩ dX11_emitWithin_300
              · replace c_328 := (I_eq (a := z_327) (b := 2) rz_327 (show rng 2 from ⟨by decide, by decide⟩)).mp c_328
                have ht9 := (hy3 (by omega)).2
                refine lv_aload_n hx hb dX11_emitWithin_256 rfl (lv_at hl 0 rfl) ?_
                refine lv_aload_n hx hb dX11_emitWithin_257 rfl (lv_at hl 0 rfl) ?_
                refine ok.getR hO h_a (by decide) k13_2 (by decide) (fun _ _ he hv kk => th_get (ci := 11) (C := RX11) (T := TX11) (N := 66) hx hb hts inX11 hown hK hH he rfl 2 (by decide) fl2 hv dX11_emitWithin_258 kk) ?_
                refine lv_iconst (v := I 0) hx hb dX11_emitWithin_261 (by decide) ?_
                refine lv_iconst (v := I 0) hx hb dX11_emitWithin_262 (by decide) ?_
                obtain ⟨_, hc_344⟩ := hO.cell h_a (by decide) (ci := 11) rfl
                refine th_callv (va_runV (As := [.ref (ad E a 2), .int (I 0), .int (I 0)]) (rest := []) ⟨hx, hb, hml, hown, hts⟩ (m_copyWith2 l G y b0 σ_J_291 E hO a h_a 0 (show rng 0 from (show rng 0 from ⟨by decide, by decide⟩)) (by omega) (by omega) 0 (show rng 0 from (show rng 0 from ⟨by decide, by decide⟩)) f2 J_291_12 F3q287 J_291_13 ((hy3 (by omega))) (by omega) (by omega)) (cwV 3 hts gX11_emitWithin_X11_copyWith rfl rfl rfl (by decide +kernel) ⟨(by first | (simp only [headSpec]; omega) | omega | (dsimp only; omega)), (by first | (simp only [headSpec]; omega) | omega | (dsimp only; omega))⟩) (th_PV hK hH rfl hc_344) rfl rfl hl.1 rfl (lv_room (Nat.le_of_ble_eq_true rfl)) dX11_emitWithin_263 ⟨(by first | (simp only [headSpec]; omega) | omega | (dsimp only; omega)), (by first | (simp only [headSpec]; omega) | omega | (dsimp only; omega))⟩) hS (fun σ_s_346 H locs hw_345 hH hS => ?_)
                obtain ⟨hO9, hF9, hM9, hw_345⟩ := hw_345
                replace hM := hM.tu hM9 (by decide)
                replace hF := hF.tu hF9 (by decide)
                have e_347 : gI σ_s_346 a 32 = a320 := (hM9.i (by decide)).trans J_291_9
                have e_348 : gI σ_s_346 a 33 = a330 := (hM9.i (by decide)).trans J_291_10
                have e_349 : aF σ_s_346 (ad E a 1) = f1 := (hM9.a (by decide) (by decide)).trans J_291_11
                have e_350 : aF σ_s_346 (ad E a 2) = f2 := (hM9.a (by decide) (by decide)).trans J_291_12
                have e_351 : aF σ_s_346 (ad E a 35) = F35q288 := (hM9.a (by decide) (by decide)).trans J_291_14
                replace hO := hO9
                generalize ef_353 : aF σ_s_346 (ad E a 3) = g_352 at hw_345
                have hw_345 : blk F3q287 g_352 (gI σ_J_291 a 5) (gI σ_J_291 a 5 + mS f2 0) 0 ∧ mS g_352 (gI σ_J_291 a 5) = mS f2 0 ∧ gI σ_s_346 a 5 = gI σ_J_291 a 5 + mS f2 0 := hw_345
                refine lv_iload hx hb dX11_emitWithin_266 (lv_at hl 6 rfl) ?_
                refine lv_if_eq (tgt := 300) hx hb dX11_emitWithin_268 (by decide) (fun c_354 => ?_) (fun c_354 => ?_)
                · replace c_354 := (I_eq (a := w0q131) (b := 0) rw0q131 (show rng 0 from ⟨by decide, by decide⟩)).mp c_354
                  exact th_vret hx hb hr hlocks hH hS ⟨hO, hF, hM, by have h9 := hw_345.1; rw [show gI σ_J_291 a 5 = G5q289 by omega] at h9; have h7 := (J_291_2.to (by omega)).add (n := (z_3).toNat) J_291_4 (hy2.1.2.one (by omega) (by omega)) h9 (by omega) (fun h9 => absurd h9 (by omega)) (by omega); rw [show aF σ_s_346 (ad E a 3) = g_352 from ef_353, show aF σ_s_346 (ad E a 35) = F35q288 from e_351, show gI σ_s_346 a 5 = G5q289 + mS f2 0 by omega]; exact ⟨h7, blk.tr0 J_291_3 h9 (by omega), J_291_5⟩⟩ dX11_emitWithin_300
                · replace c_354 := mt (I_eq (a := w0q131) (b := 0) rw0q131 (show rng 0 from ⟨by decide, by decide⟩)).mpr c_354
                  exfalso; omega
        · replace c_292 := mt (I_le (a := z_3) (b := v7q290) rz_3 rv7q290).mpr c_292
          refine lv_aload_n hx hb dX11_emitWithin_147 rfl (lv_at hl 0 rfl) ?_
          refine ok.getR hO h_a (by decide) k13_35 (by decide) (fun _ _ he hv kk => th_get (ci := 11) (C := RX11) (T := TX11) (N := 66) hx hb hts inX11 hown hK hH he rfl 35 (by decide) fl4 hv dX11_emitWithin_148 kk) ?_
          refine lv_iload hx hb dX11_emitWithin_151 (lv_at hl 5 rfl) ?_
          refine lv_iload hx hb dX11_emitWithin_153 (lv_at hl 7 rfl) ?_
          refine lv_iadd hx hb dX11_emitWithin_155 ?_
          refine th_addo (fun z_355 rz_355 hz_355 => ?_)
          refine m_iald hx hb hK hH hO h_a k13_35 isA1 J_291_14 rz_355 (by omega) (by omega) dX11_emitWithin_156 (fun z_356 ez_356 rz_356 elx9 => ?_)
          have hk8 := J_291_4.at hy0 (by omega) (by omega) (k := (v7q290).toNat) (x := (60 * dp + v7q290).toNat) (z := z_356) (by omega) (by omega) ez_356
          have hk7 := hk8.1
          have hk6 := hk8.2.1
          have hpre := J_291_4.pre hy0 (by omega) (by omega) (m := (v7q290).toNat) (x := (60 * dp + v7q290).toNat) (z := z_356) (by omega) (by omega) (by omega) ez_356
          have hk5 := hy0 z_356 (by omega) (by omega)
          have hc9 := J_291_2.2.2.1
          have hcn := cn_kid (f := f1) (b := mS f1 0) hy0 (i := i) (j := z_356) (by omega) (by omega) (by omega) (by omega)
          have htr := hy2.at (p := z_356) (by omega) (by omega)
          refine lv_istore (lv' := [(8, .int (I z_356)), (0, .ref a), (1, .int (I i)), (2, .int (I is)), (3, .int (I dp)), (4, .int (I z_3)), (5, .int (I (60 * dp))), (6, .int (I w0q131)), (7, .int (I v7q290))]) hx hb dX11_emitWithin_157 hl (by decide) rfl (fun ls hl => ?_)
          refine lv_iload hx hb dX11_emitWithin_159 (lv_at hl 7 rfl) ?_
          refine lv_if_eq (tgt := 198) hx hb dX11_emitWithin_161 (by decide) (fun c_357 => ?_) (fun c_357 => ?_)
          · replace c_357 := (I_eq (a := w0q131) (b := 0) rw0q131 (show rng 0 from ⟨by decide, by decide⟩)).mp c_357
            refine lv_aload_n hx hb dX11_emitWithin_198 rfl (lv_at hl 1 rfl) ?_
            refine ok.getIc hO h_a (by decide) k13_32 J_291_9 (fun _ _ he hv kk => th_get (ci := 11) (C := RX11) (T := TX11) (N := 66) hx hb hts inX11 hown hK hH he rfl 32 (by decide) fl3 hv dX11_emitWithin_199 kk) ?_
            refine lv_bipush (v := I 6) hx hb dX11_emitWithin_202 (by decide) ?_
            refine lv_icmp_ne (tgt := 217) hx hb dX11_emitWithin_204 (by decide) (fun c_358 => ?_) (fun c_358 => ?_)
            · replace c_358 := mt (I_eq (a := a320) (b := 6) ra320 (show rng 6 from ⟨by decide, by decide⟩)).mpr c_358
              refine lv_aload_n hx hb dX11_emitWithin_217 rfl (lv_at hl 1 rfl) ?_
              refine lv_iload hx hb dX11_emitWithin_218 (lv_at hl 0 rfl) ?_
              refine lv_iload_n hx hb dX11_emitWithin_220 rfl (lv_at hl 4 rfl) ?_
              refine lv_iconst (v := I 1) hx hb dX11_emitWithin_221 (by decide) ?_
              refine lv_iadd hx hb dX11_emitWithin_222 ?_
              refine nq_top (I_add _ _) ?_
              obtain ⟨_, hc_359⟩ := hO.cell h_a (by decide) (ci := 11) rfl
              refine th_callv (va_runV (As := [.int (I z_356), .int (I (dp + 1))]) (rest := []) ⟨hx, hb, hml, hown, hts⟩ (ih l G y b0 σ_J_291 E hO a h_a z_356 (show rng z_356 from rz_356) (by omega) (by omega) (dp + 1) (show rng (dp + 1) from ⟨by omega, by omega⟩) (by omega) (by omega) f1 J_291_11 f2 J_291_12 F3q287 J_291_13 F35q288 J_291_14 (hy0) (by omega) (hy2) ((by rw [show gI σ_J_291 a 32 = gI σ a 32 by omega]; exact hy3)) (by omega) ((by omega)) (by omega) (by omega)) (cwV 2 hts gX11_emitWithin_X11_emit rfl rfl rfl (by decide +kernel) ⟨(by first | (simp only [headSpec]; omega) | omega | (dsimp only; omega)), (by first | (simp only [headSpec]; omega) | omega | (dsimp only; omega))⟩) (th_PV hK hH rfl hc_359) rfl rfl hl.1 rfl (lv_room (Nat.le_of_ble_eq_true rfl)) dX11_emitWithin_223 ⟨(by first | (simp only [headSpec]; omega) | omega | (dsimp only; omega)), (by first | (simp only [headSpec]; omega) | omega | (dsimp only; omega))⟩) hS (fun σ_s_361 H locs hw_360 hH hS => ?_)
              obtain ⟨hO9, hF9, hM9, hw_360⟩ := hw_360
              replace hM := hM.tu hM9 (by decide)
              replace hF := hF.tu hF9 (by decide)
              have e_362 : gI σ_s_361 a 32 = a320 := (hM9.i (by decide)).trans J_291_9
              have e_363 : gI σ_s_361 a 33 = a330 := (hM9.i (by decide)).trans J_291_10
              have e_364 : aF σ_s_361 (ad E a 1) = f1 := (hM9.a (by decide) (by decide)).trans J_291_11
              have e_365 : aF σ_s_361 (ad E a 2) = f2 := (hM9.a (by decide) (by decide)).trans J_291_12
              replace hO := hO9
              generalize ef_367 : aF σ_s_361 (ad E a 3) = g_366 at hw_360
              generalize ef_369 : aF σ_s_361 (ad E a 35) = g_368 at hw_360
              have hw_360 : blk F3q287 g_366 (gI σ_J_291 a 5) (gI σ_s_361 a 5) (mY f1 z_356) ∧ gI σ_s_361 a 5 - gI σ_J_291 a 5 ≤ 61 * mS f1 z_356 ∧ ofr F35q288 g_368 (60 * (dp + 1)) := hw_360
              refine lv_iinc (v := I (v7q290 + 1)) (lv' := [(7, .int (I (v7q290 + 1))), (8, .int (I z_356)), (0, .ref a), (1, .int (I i)), (2, .int (I is)), (3, .int (I dp)), (4, .int (I z_3)), (5, .int (I (60 * dp))), (6, .int (I w0q131))]) hx hb dX11_emitWithin_226 hl (k := 8) rfl (I_add _ _) (by decide) rfl (fun ls hl => ?_)
              refine lv_goto (tgt := 140) hx hb dX11_emitWithin_229 (by decide) ?_
              replace hl : lv_has ls 9 [(7, .int (I (v7q290 + 1))), (0, .ref a), (1, .int (I i)), (2, .int (I is)), (3, .int (I dp)), (4, .int (I z_3)), (5, .int (I (60 * dp))), (6, .int (I w0q131))] := lv_sub hl [0, 2, 3, 4, 5, 6, 7, 8] rfl
              obtain ⟨z_370, e_371, rz_370, lz_370, uz_370⟩ := hO.gi h_a (by decide) k13_5
              exact ihJ_291 (v7q290 + 1, z_370, g_366, g_368) σ_s_361 _ _ _ (by first | (dsimp only; omega) | omega) ⟨hO, hF, hM, hH, hS, lv_sub hl [1, 2, 3, 4, 5, 6, 7, 0] rfl, ⟨by first | (dsimp only; omega) | omega, by first | (dsimp only; omega) | omega⟩, rz_370, by first | (dsimp only; omega) | omega, by first | (dsimp only; omega) | omega, (by have h9 := hw_360.1; rw [show gI σ_J_291 a 5 = G5q289 by omega] at h9; exact (J_291_2.next1 ez_356 (by first | (dsimp only; omega) | omega) (by first | (dsimp only; omega) | omega) (by omega) hw_360.2.2 (by first | (dsimp only; omega) | omega) h9 rfl (by omega) (by omega)).cur (by omega)), (blk.tr0 J_291_3 hw_360.1 (by omega)), (J_291_4.same (fun q9 h8 h9 => hw_360.2.2 q9 (by omega) (by omega))), (J_291_5.tr hw_360.2.2 (by omega)), by first | (dsimp only; omega) | omega, by first | (dsimp only; omega) | omega, by first | (dsimp only; omega) | omega, e_362, e_363, e_364, e_365, ef_367, ef_369, e_371⟩
            · replace c_358 := (I_eq (a := a320) (b := 6) ra320 (show rng 6 from ⟨by decide, by decide⟩)).mp c_358
              refine lv_aload_n hx hb dX11_emitWithin_207 rfl (lv_at hl 1 rfl) ?_
              refine ok.getR hO h_a (by decide) k13_23 (by decide) (fun _ _ he hv kk => th_get (ci := 11) (C := RX11) (T := TX11) (N := 66) hx hb hts inX11 hown hK hH he rfl 23 (by decide) fl5 hv dX11_emitWithin_208 kk) ?_
              refine lv_iload hx hb dX11_emitWithin_211 (lv_at hl 0 rfl) ?_
              refine m_zald hx hb hK hH hO h_a k13_23 rz_356 (by omega) (by omega) dX11_emitWithin_213 (fun z_372 rz_372 uz_372 => ?_)
              refine lv_if_ne (tgt := 226) hx hb dX11_emitWithin_214 (by decide) (fun c_373 => ?_) (fun c_373 => ?_)
              · replace c_373 := mt (I_eq (a := z_372) (b := 0) rz_372 (show rng 0 from ⟨by decide, by decide⟩)).mpr c_373
                refine lv_iinc (v := I (v7q290 + 1)) (lv' := [(7, .int (I (v7q290 + 1))), (8, .int (I z_356)), (0, .ref a), (1, .int (I i)), (2, .int (I is)), (3, .int (I dp)), (4, .int (I z_3)), (5, .int (I (60 * dp))), (6, .int (I w0q131))]) hx hb dX11_emitWithin_226 hl (k := 8) rfl (I_add _ _) (by decide) rfl (fun ls hl => ?_)
                refine lv_goto (tgt := 140) hx hb dX11_emitWithin_229 (by decide) ?_
                replace hl : lv_has ls 9 [(7, .int (I (v7q290 + 1))), (0, .ref a), (1, .int (I i)), (2, .int (I is)), (3, .int (I dp)), (4, .int (I z_3)), (5, .int (I (60 * dp))), (6, .int (I w0q131))] := lv_sub hl [0, 2, 3, 4, 5, 6, 7, 8] rfl
                exact ihJ_291 (v7q290 + 1, G5q289, F3q287, F35q288) σ_J_291 _ _ _ (by first | (dsimp only; omega) | omega) ⟨hO, hF, hM, hH, hS, lv_sub hl [1, 2, 3, 4, 5, 6, 7, 0] rfl, ⟨by first | (dsimp only; omega) | omega, by first | (dsimp only; omega) | omega⟩, rG5q289, by first | (dsimp only; omega) | omega, by first | (dsimp only; omega) | omega, (J_291_2.next0 ez_356 (by first | (dsimp only; omega) | omega) (by first | (dsimp only; omega) | omega) (by omega)), J_291_3, J_291_4, J_291_5, by first | (dsimp only; omega) | omega, by first | (dsimp only; omega) | omega, by first | (dsimp only; omega) | omega, J_291_9, J_291_10, J_291_11, J_291_12, J_291_13, J_291_14, J_291_15⟩
              · replace c_373 := (I_eq (a := z_372) (b := 0) rz_372 (show rng 0 from ⟨by decide, by decide⟩)).mp c_373
                refine lv_aload_n hx hb dX11_emitWithin_217 rfl (lv_at hl 1 rfl) ?_
                refine lv_iload hx hb dX11_emitWithin_218 (lv_at hl 0 rfl) ?_
                refine lv_iload_n hx hb dX11_emitWithin_220 rfl (lv_at hl 4 rfl) ?_
                refine lv_iconst (v := I 1) hx hb dX11_emitWithin_221 (by decide) ?_
                refine lv_iadd hx hb dX11_emitWithin_222 ?_
                refine nq_top (I_add _ _) ?_
                obtain ⟨_, hc_374⟩ := hO.cell h_a (by decide) (ci := 11) rfl
                refine th_callv (va_runV (As := [.int (I z_356), .int (I (dp + 1))]) (rest := []) ⟨hx, hb, hml, hown, hts⟩ (ih l G y b0 σ_J_291 E hO a h_a z_356 (show rng z_356 from rz_356) (by omega) (by omega) (dp + 1) (show rng (dp + 1) from ⟨by omega, by omega⟩) (by omega) (by omega) f1 J_291_11 f2 J_291_12 F3q287 J_291_13 F35q288 J_291_14 (hy0) (by omega) (hy2) ((by rw [show gI σ_J_291 a 32 = gI σ a 32 by omega]; exact hy3)) (by omega) ((by omega)) (by omega) (by omega)) (cwV 2 hts gX11_emitWithin_X11_emit rfl rfl rfl (by decide +kernel) ⟨(by first | (simp only [headSpec]; omega) | omega | (dsimp only; omega)), (by first | (simp only [headSpec]; omega) | omega | (dsimp only; omega))⟩) (th_PV hK hH rfl hc_374) rfl rfl hl.1 rfl (lv_room (Nat.le_of_ble_eq_true rfl)) dX11_emitWithin_223 ⟨(by first | (simp only [headSpec]; omega) | omega | (dsimp only; omega)), (by first | (simp only [headSpec]; omega) | omega | (dsimp only; omega))⟩) hS (fun σ_s_376 H locs hw_375 hH hS => ?_)
                obtain ⟨hO9, hF9, hM9, hw_375⟩ := hw_375
                replace hM := hM.tu hM9 (by decide)
                replace hF := hF.tu hF9 (by decide)
                have e_377 : gI σ_s_376 a 32 = a320 := (hM9.i (by decide)).trans J_291_9
                have e_378 : gI σ_s_376 a 33 = a330 := (hM9.i (by decide)).trans J_291_10
                have e_379 : aF σ_s_376 (ad E a 1) = f1 := (hM9.a (by decide) (by decide)).trans J_291_11
                have e_380 : aF σ_s_376 (ad E a 2) = f2 := (hM9.a (by decide) (by decide)).trans J_291_12
                replace hO := hO9
                generalize ef_382 : aF σ_s_376 (ad E a 3) = g_381 at hw_375
                generalize ef_384 : aF σ_s_376 (ad E a 35) = g_383 at hw_375
                have hw_375 : blk F3q287 g_381 (gI σ_J_291 a 5) (gI σ_s_376 a 5) (mY f1 z_356) ∧ gI σ_s_376 a 5 - gI σ_J_291 a 5 ≤ 61 * mS f1 z_356 ∧ ofr F35q288 g_383 (60 * (dp + 1)) := hw_375
                refine lv_iinc (v := I (v7q290 + 1)) (lv' := [(7, .int (I (v7q290 + 1))), (8, .int (I z_356)), (0, .ref a), (1, .int (I i)), (2, .int (I is)), (3, .int (I dp)), (4, .int (I z_3)), (5, .int (I (60 * dp))), (6, .int (I w0q131))]) hx hb dX11_emitWithin_226 hl (k := 8) rfl (I_add _ _) (by decide) rfl (fun ls hl => ?_)
                refine lv_goto (tgt := 140) hx hb dX11_emitWithin_229 (by decide) ?_
                replace hl : lv_has ls 9 [(7, .int (I (v7q290 + 1))), (0, .ref a), (1, .int (I i)), (2, .int (I is)), (3, .int (I dp)), (4, .int (I z_3)), (5, .int (I (60 * dp))), (6, .int (I w0q131))] := lv_sub hl [0, 2, 3, 4, 5, 6, 7, 8] rfl
                obtain ⟨z_385, e_386, rz_385, lz_385, uz_385⟩ := hO.gi h_a (by decide) k13_5
                exact ihJ_291 (v7q290 + 1, z_385, g_381, g_383) σ_s_376 _ _ _ (by first | (dsimp only; omega) | omega) ⟨hO, hF, hM, hH, hS, lv_sub hl [1, 2, 3, 4, 5, 6, 7, 0] rfl, ⟨by first | (dsimp only; omega) | omega, by first | (dsimp only; omega) | omega⟩, rz_385, by first | (dsimp only; omega) | omega, by first | (dsimp only; omega) | omega, (by have h9 := hw_375.1; rw [show gI σ_J_291 a 5 = G5q289 by omega] at h9; exact (J_291_2.next1 ez_356 (by first | (dsimp only; omega) | omega) (by first | (dsimp only; omega) | omega) (by omega) hw_375.2.2 (by first | (dsimp only; omega) | omega) h9 rfl (by omega) (by omega)).cur (by omega)), (blk.tr0 J_291_3 hw_375.1 (by omega)), (J_291_4.same (fun q9 h8 h9 => hw_375.2.2 q9 (by omega) (by omega))), (J_291_5.tr hw_375.2.2 (by omega)), by first | (dsimp only; omega) | omega, by first | (dsimp only; omega) | omega, by first | (dsimp only; omega) | omega, e_377, e_378, e_379, e_380, ef_382, ef_384, e_386⟩
          · replace c_357 := mt (I_eq (a := w0q131) (b := 0) rw0q131 (show rng 0 from ⟨by decide, by decide⟩)).mpr c_357
            refine lv_aload_n hx hb dX11_emitWithin_164 rfl (lv_at hl 1 rfl) ?_
            refine ok.getR hO h_a (by decide) k13_1 (by decide) (fun _ _ he hv kk => th_get (ci := 11) (C := RX11) (T := TX11) (N := 66) hx hb hts inX11 hown hK hH he rfl 1 (by decide) fl0 hv dX11_emitWithin_165 kk) ?_
            refine lv_iconst (v := I 4) hx hb dX11_emitWithin_168 (by decide) ?_
            refine lv_iload hx hb dX11_emitWithin_169 (lv_at hl 0 rfl) ?_
            refine lv_imul hx hb dX11_emitWithin_171 ?_
            refine nq_top (I_mul _ _) ?_
            refine lv_iconst (v := I 2) hx hb dX11_emitWithin_172 (by decide) ?_
            refine lv_iadd hx hb dX11_emitWithin_173 ?_
            refine th_addo (fun z_387 rz_387 hz_387 => ?_)
            refine m_iald hx hb hK hH hO h_a k13_1 isA1 J_291_11 rz_387 (by omega) (by omega) dX11_emitWithin_174 (fun z_388 ez_388 rz_388 elx9 => ?_)
            refine lv_aload_n hx hb dX11_emitWithin_175 rfl (lv_at hl 1 rfl) ?_
            refine ok.getIc hO h_a (by decide) k13_33 J_291_10 (fun _ _ he hv kk => th_get (ci := 11) (C := RX11) (T := TX11) (N := 66) hx hb hts inX11 hown hK hH he rfl 33 (by decide) fl1 hv dX11_emitWithin_176 kk) ?_
            refine lv_icmp_ne (tgt := 198) hx hb dX11_emitWithin_179 (by decide) (fun c_389 => ?_) (fun c_389 => ?_)
            · replace c_389 := mt (I_eq (a := z_388) (b := a330) rz_388 ra330).mpr c_389
              refine lv_aload_n hx hb dX11_emitWithin_198 rfl (lv_at hl 1 rfl) ?_
              refine ok.getIc hO h_a (by decide) k13_32 J_291_9 (fun _ _ he hv kk => th_get (ci := 11) (C := RX11) (T := TX11) (N := 66) hx hb hts inX11 hown hK hH he rfl 32 (by decide) fl3 hv dX11_emitWithin_199 kk) ?_
              refine lv_bipush (v := I 6) hx hb dX11_emitWithin_202 (by decide) ?_
              refine lv_icmp_ne (tgt := 217) hx hb dX11_emitWithin_204 (by decide) (fun c_390 => ?_) (fun c_390 => ?_)
              · replace c_390 := mt (I_eq (a := a320) (b := 6) ra320 (show rng 6 from ⟨by decide, by decide⟩)).mpr c_390
                refine lv_aload_n hx hb dX11_emitWithin_217 rfl (lv_at hl 1 rfl) ?_
                refine lv_iload hx hb dX11_emitWithin_218 (lv_at hl 0 rfl) ?_
                refine lv_iload_n hx hb dX11_emitWithin_220 rfl (lv_at hl 4 rfl) ?_
                refine lv_iconst (v := I 1) hx hb dX11_emitWithin_221 (by decide) ?_
                refine lv_iadd hx hb dX11_emitWithin_222 ?_
                refine nq_top (I_add _ _) ?_
                obtain ⟨_, hc_391⟩ := hO.cell h_a (by decide) (ci := 11) rfl
                refine th_callv (va_runV (As := [.int (I z_356), .int (I (dp + 1))]) (rest := []) ⟨hx, hb, hml, hown, hts⟩ (ih l G y b0 σ_J_291 E hO a h_a z_356 (show rng z_356 from rz_356) (by omega) (by omega) (dp + 1) (show rng (dp + 1) from ⟨by omega, by omega⟩) (by omega) (by omega) f1 J_291_11 f2 J_291_12 F3q287 J_291_13 F35q288 J_291_14 (hy0) (by omega) (hy2) ((by rw [show gI σ_J_291 a 32 = gI σ a 32 by omega]; exact hy3)) (by omega) ((by omega)) (by omega) (by omega)) (cwV 2 hts gX11_emitWithin_X11_emit rfl rfl rfl (by decide +kernel) ⟨(by first | (simp only [headSpec]; omega) | omega | (dsimp only; omega)), (by first | (simp only [headSpec]; omega) | omega | (dsimp only; omega))⟩) (th_PV hK hH rfl hc_391) rfl rfl hl.1 rfl (lv_room (Nat.le_of_ble_eq_true rfl)) dX11_emitWithin_223 ⟨(by first | (simp only [headSpec]; omega) | omega | (dsimp only; omega)), (by first | (simp only [headSpec]; omega) | omega | (dsimp only; omega))⟩) hS (fun σ_s_393 H locs hw_392 hH hS => ?_)
                obtain ⟨hO9, hF9, hM9, hw_392⟩ := hw_392
                replace hM := hM.tu hM9 (by decide)
                replace hF := hF.tu hF9 (by decide)
                have e_394 : gI σ_s_393 a 32 = a320 := (hM9.i (by decide)).trans J_291_9
                have e_395 : gI σ_s_393 a 33 = a330 := (hM9.i (by decide)).trans J_291_10
                have e_396 : aF σ_s_393 (ad E a 1) = f1 := (hM9.a (by decide) (by decide)).trans J_291_11
                have e_397 : aF σ_s_393 (ad E a 2) = f2 := (hM9.a (by decide) (by decide)).trans J_291_12
                replace hO := hO9
                generalize ef_399 : aF σ_s_393 (ad E a 3) = g_398 at hw_392
                generalize ef_401 : aF σ_s_393 (ad E a 35) = g_400 at hw_392
                have hw_392 : blk F3q287 g_398 (gI σ_J_291 a 5) (gI σ_s_393 a 5) (mY f1 z_356) ∧ gI σ_s_393 a 5 - gI σ_J_291 a 5 ≤ 61 * mS f1 z_356 ∧ ofr F35q288 g_400 (60 * (dp + 1)) := hw_392
                refine lv_iinc (v := I (v7q290 + 1)) (lv' := [(7, .int (I (v7q290 + 1))), (8, .int (I z_356)), (0, .ref a), (1, .int (I i)), (2, .int (I is)), (3, .int (I dp)), (4, .int (I z_3)), (5, .int (I (60 * dp))), (6, .int (I w0q131))]) hx hb dX11_emitWithin_226 hl (k := 8) rfl (I_add _ _) (by decide) rfl (fun ls hl => ?_)
                refine lv_goto (tgt := 140) hx hb dX11_emitWithin_229 (by decide) ?_
                replace hl : lv_has ls 9 [(7, .int (I (v7q290 + 1))), (0, .ref a), (1, .int (I i)), (2, .int (I is)), (3, .int (I dp)), (4, .int (I z_3)), (5, .int (I (60 * dp))), (6, .int (I w0q131))] := lv_sub hl [0, 2, 3, 4, 5, 6, 7, 8] rfl
                obtain ⟨z_402, e_403, rz_402, lz_402, uz_402⟩ := hO.gi h_a (by decide) k13_5
                exact ihJ_291 (v7q290 + 1, z_402, g_398, g_400) σ_s_393 _ _ _ (by first | (dsimp only; omega) | omega) ⟨hO, hF, hM, hH, hS, lv_sub hl [1, 2, 3, 4, 5, 6, 7, 0] rfl, ⟨by first | (dsimp only; omega) | omega, by first | (dsimp only; omega) | omega⟩, rz_402, by first | (dsimp only; omega) | omega, by first | (dsimp only; omega) | omega, (by have h9 := hw_392.1; rw [show gI σ_J_291 a 5 = G5q289 by omega] at h9; exact (J_291_2.next1 ez_356 (by first | (dsimp only; omega) | omega) (by first | (dsimp only; omega) | omega) (by omega) hw_392.2.2 (by first | (dsimp only; omega) | omega) h9 rfl (by omega) (by omega)).cur (by omega)), (blk.tr0 J_291_3 hw_392.1 (by omega)), (J_291_4.same (fun q9 h8 h9 => hw_392.2.2 q9 (by omega) (by omega))), (J_291_5.tr hw_392.2.2 (by omega)), by first | (dsimp only; omega) | omega, by first | (dsimp only; omega) | omega, by first | (dsimp only; omega) | omega, e_394, e_395, e_396, e_397, ef_399, ef_401, e_403⟩
              · replace c_390 := (I_eq (a := a320) (b := 6) ra320 (show rng 6 from ⟨by decide, by decide⟩)).mp c_390
                refine lv_aload_n hx hb dX11_emitWithin_207 rfl (lv_at hl 1 rfl) ?_
                refine ok.getR hO h_a (by decide) k13_23 (by decide) (fun _ _ he hv kk => th_get (ci := 11) (C := RX11) (T := TX11) (N := 66) hx hb hts inX11 hown hK hH he rfl 23 (by decide) fl5 hv dX11_emitWithin_208 kk) ?_
                refine lv_iload hx hb dX11_emitWithin_211 (lv_at hl 0 rfl) ?_
                refine m_zald hx hb hK hH hO h_a k13_23 rz_356 (by omega) (by omega) dX11_emitWithin_213 (fun z_404 rz_404 uz_404 => ?_)
                refine lv_if_ne (tgt := 226) hx hb dX11_emitWithin_214 (by decide) (fun c_405 => ?_) (fun c_405 => ?_)
                · replace c_405 := mt (I_eq (a := z_404) (b := 0) rz_404 (show rng 0 from ⟨by decide, by decide⟩)).mpr c_405
                  refine lv_iinc (v := I (v7q290 + 1)) (lv' := [(7, .int (I (v7q290 + 1))), (8, .int (I z_356)), (0, .ref a), (1, .int (I i)), (2, .int (I is)), (3, .int (I dp)), (4, .int (I z_3)), (5, .int (I (60 * dp))), (6, .int (I w0q131))]) hx hb dX11_emitWithin_226 hl (k := 8) rfl (I_add _ _) (by decide) rfl (fun ls hl => ?_)
                  refine lv_goto (tgt := 140) hx hb dX11_emitWithin_229 (by decide) ?_
                  replace hl : lv_has ls 9 [(7, .int (I (v7q290 + 1))), (0, .ref a), (1, .int (I i)), (2, .int (I is)), (3, .int (I dp)), (4, .int (I z_3)), (5, .int (I (60 * dp))), (6, .int (I w0q131))] := lv_sub hl [0, 2, 3, 4, 5, 6, 7, 8] rfl
                  exact ihJ_291 (v7q290 + 1, G5q289, F3q287, F35q288) σ_J_291 _ _ _ (by first | (dsimp only; omega) | omega) ⟨hO, hF, hM, hH, hS, lv_sub hl [1, 2, 3, 4, 5, 6, 7, 0] rfl, ⟨by first | (dsimp only; omega) | omega, by first | (dsimp only; omega) | omega⟩, rG5q289, by first | (dsimp only; omega) | omega, by first | (dsimp only; omega) | omega, (J_291_2.next0 ez_356 (by first | (dsimp only; omega) | omega) (by first | (dsimp only; omega) | omega) (by omega)), J_291_3, J_291_4, J_291_5, by first | (dsimp only; omega) | omega, by first | (dsimp only; omega) | omega, by first | (dsimp only; omega) | omega, J_291_9, J_291_10, J_291_11, J_291_12, J_291_13, J_291_14, J_291_15⟩
                · replace c_405 := (I_eq (a := z_404) (b := 0) rz_404 (show rng 0 from ⟨by decide, by decide⟩)).mp c_405
                  refine lv_aload_n hx hb dX11_emitWithin_217 rfl (lv_at hl 1 rfl) ?_
                  refine lv_iload hx hb dX11_emitWithin_218 (lv_at hl 0 rfl) ?_
                  refine lv_iload_n hx hb dX11_emitWithin_220 rfl (lv_at hl 4 rfl) ?_
                  refine lv_iconst (v := I 1) hx hb dX11_emitWithin_221 (by decide) ?_
                  refine lv_iadd hx hb dX11_emitWithin_222 ?_
                  refine nq_top (I_add _ _) ?_
                  obtain ⟨_, hc_406⟩ := hO.cell h_a (by decide) (ci := 11) rfl
                  refine th_callv (va_runV (As := [.int (I z_356), .int (I (dp + 1))]) (rest := []) ⟨hx, hb, hml, hown, hts⟩ (ih l G y b0 σ_J_291 E hO a h_a z_356 (show rng z_356 from rz_356) (by omega) (by omega) (dp + 1) (show rng (dp + 1) from ⟨by omega, by omega⟩) (by omega) (by omega) f1 J_291_11 f2 J_291_12 F3q287 J_291_13 F35q288 J_291_14 (hy0) (by omega) (hy2) ((by rw [show gI σ_J_291 a 32 = gI σ a 32 by omega]; exact hy3)) (by omega) ((by omega)) (by omega) (by omega)) (cwV 2 hts gX11_emitWithin_X11_emit rfl rfl rfl (by decide +kernel) ⟨(by first | (simp only [headSpec]; omega) | omega | (dsimp only; omega)), (by first | (simp only [headSpec]; omega) | omega | (dsimp only; omega))⟩) (th_PV hK hH rfl hc_406) rfl rfl hl.1 rfl (lv_room (Nat.le_of_ble_eq_true rfl)) dX11_emitWithin_223 ⟨(by first | (simp only [headSpec]; omega) | omega | (dsimp only; omega)), (by first | (simp only [headSpec]; omega) | omega | (dsimp only; omega))⟩) hS (fun σ_s_408 H locs hw_407 hH hS => ?_)
                  obtain ⟨hO9, hF9, hM9, hw_407⟩ := hw_407
                  replace hM := hM.tu hM9 (by decide)
                  replace hF := hF.tu hF9 (by decide)
                  have e_409 : gI σ_s_408 a 32 = a320 := (hM9.i (by decide)).trans J_291_9
                  have e_410 : gI σ_s_408 a 33 = a330 := (hM9.i (by decide)).trans J_291_10
                  have e_411 : aF σ_s_408 (ad E a 1) = f1 := (hM9.a (by decide) (by decide)).trans J_291_11
                  have e_412 : aF σ_s_408 (ad E a 2) = f2 := (hM9.a (by decide) (by decide)).trans J_291_12
                  replace hO := hO9
                  generalize ef_414 : aF σ_s_408 (ad E a 3) = g_413 at hw_407
                  generalize ef_416 : aF σ_s_408 (ad E a 35) = g_415 at hw_407
                  have hw_407 : blk F3q287 g_413 (gI σ_J_291 a 5) (gI σ_s_408 a 5) (mY f1 z_356) ∧ gI σ_s_408 a 5 - gI σ_J_291 a 5 ≤ 61 * mS f1 z_356 ∧ ofr F35q288 g_415 (60 * (dp + 1)) := hw_407
                  refine lv_iinc (v := I (v7q290 + 1)) (lv' := [(7, .int (I (v7q290 + 1))), (8, .int (I z_356)), (0, .ref a), (1, .int (I i)), (2, .int (I is)), (3, .int (I dp)), (4, .int (I z_3)), (5, .int (I (60 * dp))), (6, .int (I w0q131))]) hx hb dX11_emitWithin_226 hl (k := 8) rfl (I_add _ _) (by decide) rfl (fun ls hl => ?_)
                  refine lv_goto (tgt := 140) hx hb dX11_emitWithin_229 (by decide) ?_
                  replace hl : lv_has ls 9 [(7, .int (I (v7q290 + 1))), (0, .ref a), (1, .int (I i)), (2, .int (I is)), (3, .int (I dp)), (4, .int (I z_3)), (5, .int (I (60 * dp))), (6, .int (I w0q131))] := lv_sub hl [0, 2, 3, 4, 5, 6, 7, 8] rfl
                  obtain ⟨z_417, e_418, rz_417, lz_417, uz_417⟩ := hO.gi h_a (by decide) k13_5
                  exact ihJ_291 (v7q290 + 1, z_417, g_413, g_415) σ_s_408 _ _ _ (by first | (dsimp only; omega) | omega) ⟨hO, hF, hM, hH, hS, lv_sub hl [1, 2, 3, 4, 5, 6, 7, 0] rfl, ⟨by first | (dsimp only; omega) | omega, by first | (dsimp only; omega) | omega⟩, rz_417, by first | (dsimp only; omega) | omega, by first | (dsimp only; omega) | omega, (by have h9 := hw_407.1; rw [show gI σ_J_291 a 5 = G5q289 by omega] at h9; exact (J_291_2.next1 ez_356 (by first | (dsimp only; omega) | omega) (by first | (dsimp only; omega) | omega) (by omega) hw_407.2.2 (by first | (dsimp only; omega) | omega) h9 rfl (by omega) (by omega)).cur (by omega)), (blk.tr0 J_291_3 hw_407.1 (by omega)), (J_291_4.same (fun q9 h8 h9 => hw_407.2.2 q9 (by omega) (by omega))), (J_291_5.tr hw_407.2.2 (by omega)), by first | (dsimp only; omega) | omega, by first | (dsimp only; omega) | omega, by first | (dsimp only; omega) | omega, e_409, e_410, e_411, e_412, ef_414, ef_416, e_418⟩
            · replace c_389 := (I_eq (a := z_388) (b := a330) rz_388 ra330).mp c_389
              have ht9 := (hy3 (by omega)).2
              refine lv_aload_n hx hb dX11_emitWithin_182 rfl (lv_at hl 1 rfl) ?_
              refine lv_aload_n hx hb dX11_emitWithin_183 rfl (lv_at hl 1 rfl) ?_
              refine ok.getR hO h_a (by decide) k13_2 (by decide) (fun _ _ he hv kk => th_get (ci := 11) (C := RX11) (T := TX11) (N := 66) hx hb hts inX11 hown hK hH he rfl 2 (by decide) fl2 hv dX11_emitWithin_184 kk) ?_
              refine lv_iconst (v := I 0) hx hb dX11_emitWithin_187 (by decide) ?_
              refine lv_aload_n hx hb dX11_emitWithin_188 rfl (lv_at hl 1 rfl) ?_
              refine ok.getIc hO h_a (by decide) k13_33 J_291_10 (fun _ _ he hv kk => th_get (ci := 11) (C := RX11) (T := TX11) (N := 66) hx hb hts inX11 hown hK hH he rfl 33 (by decide) fl1 hv dX11_emitWithin_189 kk) ?_
              obtain ⟨_, hc_419⟩ := hO.cell h_a (by decide) (ci := 11) rfl
              refine th_callv (va_runV (As := [.ref (ad E a 2), .int (I 0), .int (I a330)]) (rest := []) ⟨hx, hb, hml, hown, hts⟩ (m_copyWith2 l G y b0 σ_J_291 E hO a h_a 0 (show rng 0 from (show rng 0 from ⟨by decide, by decide⟩)) (by omega) (by omega) a330 (show rng a330 from ra330) f2 J_291_12 F3q287 J_291_13 ((hy3 (by omega))) (by omega) (by omega)) (cwV 3 hts gX11_emitWithin_X11_copyWith rfl rfl rfl (by decide +kernel) ⟨(by first | (simp only [headSpec]; omega) | omega | (dsimp only; omega)), (by first | (simp only [headSpec]; omega) | omega | (dsimp only; omega))⟩) (th_PV hK hH rfl hc_419) rfl rfl hl.1 rfl (lv_room (Nat.le_of_ble_eq_true rfl)) dX11_emitWithin_192 ⟨(by first | (simp only [headSpec]; omega) | omega | (dsimp only; omega)), (by first | (simp only [headSpec]; omega) | omega | (dsimp only; omega))⟩) hS (fun σ_s_421 H locs hw_420 hH hS => ?_)
              obtain ⟨hO9, hF9, hM9, hw_420⟩ := hw_420
              replace hM := hM.tu hM9 (by decide)
              replace hF := hF.tu hF9 (by decide)
              have e_422 : gI σ_s_421 a 32 = a320 := (hM9.i (by decide)).trans J_291_9
              have e_423 : gI σ_s_421 a 33 = a330 := (hM9.i (by decide)).trans J_291_10
              have e_424 : aF σ_s_421 (ad E a 1) = f1 := (hM9.a (by decide) (by decide)).trans J_291_11
              have e_425 : aF σ_s_421 (ad E a 2) = f2 := (hM9.a (by decide) (by decide)).trans J_291_12
              have e_426 : aF σ_s_421 (ad E a 35) = F35q288 := (hM9.a (by decide) (by decide)).trans J_291_14
              replace hO := hO9
              generalize ef_428 : aF σ_s_421 (ad E a 3) = g_427 at hw_420
              have hw_420 : blk F3q287 g_427 (gI σ_J_291 a 5) (gI σ_J_291 a 5 + mS f2 0) a330 ∧ mS g_427 (gI σ_J_291 a 5) = mS f2 0 ∧ gI σ_s_421 a 5 = gI σ_J_291 a 5 + mS f2 0 := hw_420
              refine lv_goto (tgt := 226) hx hb dX11_emitWithin_195 (by decide) ?_
              refine lv_iinc (v := I (v7q290 + 1)) (lv' := [(7, .int (I (v7q290 + 1))), (8, .int (I z_356)), (0, .ref a), (1, .int (I i)), (2, .int (I is)), (3, .int (I dp)), (4, .int (I z_3)), (5, .int (I (60 * dp))), (6, .int (I w0q131))]) hx hb dX11_emitWithin_226 hl (k := 8) rfl (I_add _ _) (by decide) rfl (fun ls hl => ?_)
              refine lv_goto (tgt := 140) hx hb dX11_emitWithin_229 (by decide) ?_
              replace hl : lv_has ls 9 [(7, .int (I (v7q290 + 1))), (0, .ref a), (1, .int (I i)), (2, .int (I is)), (3, .int (I dp)), (4, .int (I z_3)), (5, .int (I (60 * dp))), (6, .int (I w0q131))] := lv_sub hl [0, 2, 3, 4, 5, 6, 7, 8] rfl
              obtain ⟨z_429, e_430, rz_429, lz_429, uz_429⟩ := hO.gi h_a (by decide) k13_5
              exact ihJ_291 (v7q290 + 1, z_429, g_427, F35q288) σ_s_421 _ _ _ (by first | (dsimp only; omega) | omega) ⟨hO, hF, hM, hH, hS, lv_sub hl [1, 2, 3, 4, 5, 6, 7, 0] rfl, ⟨by first | (dsimp only; omega) | omega, by first | (dsimp only; omega) | omega⟩, rz_429, by first | (dsimp only; omega) | omega, by first | (dsimp only; omega) | omega, (by have h9 := hw_420.1; rw [show gI σ_J_291 a 5 = G5q289 by omega] at h9; exact (J_291_2.next1 ez_356 (by first | (dsimp only; omega) | omega) (by first | (dsimp only; omega) | omega) (by omega) ofr.rf (c := 60 * dp + 60) (by first | (dsimp only; omega) | omega) h9 (show a330 = mY f1 z_356 by have h8 : mY f1 z_356 = z_388 := ez_388; omega) (by omega) (by omega)).cur (by omega)), (blk.tr0 J_291_3 hw_420.1 (by omega)), J_291_4, J_291_5, by first | (dsimp only; omega) | omega, by first | (dsimp only; omega) | omega, by first | (dsimp only; omega) | omega, e_422, e_423, e_424, e_425, ef_428, e_426, e_430⟩
      · refine lv_if_eq (tgt := 134) hx hb dX11_emitWithin_107 (by decide) (fun c_431 => ?_) (fun c_431 => ?_)
        · replace c_431 := (I_eq (a := is) (b := 0) ris (show rng 0 from ⟨by decide, by decide⟩)).mp c_431
          refine lv_iconst (v := I 0) hx hb dX11_emitWithin_134 (by decide) ?_
          exact jK_132 (0) σ_K_124 _ _ _ ⟨rfl, hH, hS, lv_sub hl [0, 1, 2, 3, 4, 5] rfl, (show rng 0 from ⟨by decide, by decide⟩), by first | (dsimp only; omega) | omega, by first | (dsimp only; omega) | omega⟩
        · replace c_431 := mt (I_eq (a := is) (b := 0) ris (show rng 0 from ⟨by decide, by decide⟩)).mpr c_431
          refine lv_aload_n hx hb dX11_emitWithin_110 rfl (lv_at hl 0 rfl) ?_
          refine ok.getIc hO h_a (by decide) k13_32 K_124_3 (fun _ _ he hv kk => th_get (ci := 11) (C := RX11) (T := TX11) (N := 66) hx hb hts inX11 hown hK hH he rfl 32 (by decide) fl3 hv dX11_emitWithin_111 kk) ?_
          refine lv_iconst (v := I 2) hx hb dX11_emitWithin_114 (by decide) ?_
          refine lv_icmp_ne (tgt := 134) hx hb dX11_emitWithin_115 (by decide) (fun c_432 => ?_) (fun c_432 => ?_)
          · replace c_432 := mt (I_eq (a := a320) (b := 2) ra320 (show rng 2 from ⟨by decide, by decide⟩)).mpr c_432
            refine lv_iconst (v := I 0) hx hb dX11_emitWithin_134 (by decide) ?_
            exact jK_132 (0) σ_K_124 _ _ _ ⟨rfl, hH, hS, lv_sub hl [0, 1, 2, 3, 4, 5] rfl, (show rng 0 from ⟨by decide, by decide⟩), by first | (dsimp only; omega) | omega, by first | (dsimp only; omega) | omega⟩
          · replace c_432 := (I_eq (a := a320) (b := 2) ra320 (show rng 2 from ⟨by decide, by decide⟩)).mp c_432
            refine lv_aload_n hx hb dX11_emitWithin_118 rfl (lv_at hl 0 rfl) ?_
            refine ok.getR hO h_a (by decide) k13_1 (by decide) (fun _ _ he hv kk => th_get (ci := 11) (C := RX11) (T := TX11) (N := 66) hx hb hts inX11 hown hK hH he rfl 1 (by decide) fl0 hv dX11_emitWithin_119 kk) ?_
            refine lv_iload_n hx hb dX11_emitWithin_122 rfl (lv_at hl 1 rfl) ?_
            refine th_calli (va_runS (As := [.ref (ad E a 1), .int (I i)]) (rest := []) ⟨hx, hb, hml, hown, hts⟩ (w_kind l G y b0 σ_K_124 E hO (ad E a 1) 240 f1 (hO.roww h_a k13_1 isA1 K_124_5 rfl) i (show rng i from ri) (by omega) (by omega) (by omega)) (va_cwS 2 hts gX11_emitWithin_X11_kind rfl rfl rfl (by decide +kernel) ⟨(by first | (simp only [headSpec]; omega) | omega | (dsimp only; omega)), (by first | (simp only [headSpec]; omega) | omega | (dsimp only; omega))⟩) (th_PS hK hH) rfl rfl hl.1 rfl (lv_room (Nat.le_of_ble_eq_true rfl)) dX11_emitWithin_123 ⟨(by first | (simp only [headSpec]; omega) | omega | (dsimp only; omega)), (by first | (simp only [headSpec]; omega) | omega | (dsimp only; omega))⟩) hS (fun z_435 σ_s_434 H locs rz_435 hw_433 hH hS => ?_)
            obtain ⟨e9, hw_433⟩ := hw_433
            replace e9 := e9.symm
            subst e9
            have hw_433 : z_435 = mK f1 i := hw_433
            refine lv_iconst (v := I 3) hx hb dX11_emitWithin_126 (by decide) ?_
            refine lv_icmp_ne (tgt := 134) hx hb dX11_emitWithin_127 (by decide) (fun c_436 => ?_) (fun c_436 => ?_)
            · replace c_436 := mt (I_eq (a := z_435) (b := 3) rz_435 (show rng 3 from ⟨by decide, by decide⟩)).mpr c_436
              refine lv_iconst (v := I 0) hx hb dX11_emitWithin_134 (by decide) ?_
              exact jK_132 (0) σ_K_124 _ _ _ ⟨rfl, hH, hS, lv_sub hl [0, 1, 2, 3, 4, 5] rfl, (show rng 0 from ⟨by decide, by decide⟩), by first | (dsimp only; omega) | omega, by first | (dsimp only; omega) | omega⟩
            · replace c_436 := (I_eq (a := z_435) (b := 3) rz_435 (show rng 3 from ⟨by decide, by decide⟩)).mp c_436
              refine lv_iconst (v := I 1) hx hb dX11_emitWithin_130 (by decide) ?_
              refine lv_goto (tgt := 135) hx hb dX11_emitWithin_131 (by decide) ?_
              exact jK_132 (1) σ_K_124 _ _ _ ⟨rfl, hH, hS, lv_sub hl [0, 1, 2, 3, 4, 5] rfl, (show rng 1 from ⟨by decide, by decide⟩), by first | (dsimp only; omega) | omega, by first | (dsimp only; omega) | omega⟩
    · refine lv_if_eq (tgt := 106) hx hb dX11_emitWithin_75 (by decide) (fun c_437 => ?_) (fun c_437 => ?_)
      · replace c_437 := (I_eq (a := is) (b := 0) ris (show rng 0 from ⟨by decide, by decide⟩)).mp c_437
        replace hl : lv_has ls 9 [(0, .ref a), (1, .int (I i)), (2, .int (I is)), (3, .int (I dp)), (4, .int (I z_3)), (5, .int (I (60 * dp)))] := lv_sub hl [0, 1, 2, 3, 4, 5] rfl
        exact jK_124 (F35q98) σ_J_100 _ _ _ ⟨hO, hF, hM, hH, hS, lv_sub hl [0, 1, 2, 3, 4, 5] rfl, hpm_102, J_100_3, J_100_4, J_100_5, J_100_6, J_100_7, J_100_8, J_100_9, J_100_10⟩
      · replace c_437 := mt (I_eq (a := is) (b := 0) ris (show rng 0 from ⟨by decide, by decide⟩)).mpr c_437
        refine lv_aload_n hx hb dX11_emitWithin_78 rfl (lv_at hl 0 rfl) ?_
        refine ok.getIc hO h_a (by decide) k13_32 J_100_5 (fun _ _ he hv kk => th_get (ci := 11) (C := RX11) (T := TX11) (N := 66) hx hb hts inX11 hown hK hH he rfl 32 (by decide) fl3 hv dX11_emitWithin_79 kk) ?_
        refine lv_iconst (v := I 5) hx hb dX11_emitWithin_82 (by decide) ?_
        refine lv_icmp_ne (tgt := 106) hx hb dX11_emitWithin_83 (by decide) (fun c_438 => ?_) (fun c_438 => ?_)
        · replace c_438 := mt (I_eq (a := a320) (b := 5) ra320 (show rng 5 from ⟨by decide, by decide⟩)).mpr c_438
          replace hl : lv_has ls 9 [(0, .ref a), (1, .int (I i)), (2, .int (I is)), (3, .int (I dp)), (4, .int (I z_3)), (5, .int (I (60 * dp)))] := lv_sub hl [0, 1, 2, 3, 4, 5] rfl
          exact jK_124 (F35q98) σ_J_100 _ _ _ ⟨hO, hF, hM, hH, hS, lv_sub hl [0, 1, 2, 3, 4, 5] rfl, hpm_102, J_100_3, J_100_4, J_100_5, J_100_6, J_100_7, J_100_8, J_100_9, J_100_10⟩
        · replace c_438 := (I_eq (a := a320) (b := 5) ra320 (show rng 5 from ⟨by decide, by decide⟩)).mp c_438
          refine lv_aload_n hx hb dX11_emitWithin_86 rfl (lv_at hl 0 rfl) ?_
          refine ok.getR hO h_a (by decide) k13_1 (by decide) (fun _ _ he hv kk => th_get (ci := 11) (C := RX11) (T := TX11) (N := 66) hx hb hts inX11 hown hK hH he rfl 1 (by decide) fl0 hv dX11_emitWithin_87 kk) ?_
          refine lv_iload_n hx hb dX11_emitWithin_90 rfl (lv_at hl 1 rfl) ?_
          refine th_calli (va_runS (As := [.ref (ad E a 1), .int (I i)]) (rest := []) ⟨hx, hb, hml, hown, hts⟩ (w_kind l G y b0 σ_J_100 E hO (ad E a 1) 240 f1 (hO.roww h_a k13_1 isA1 J_100_7 rfl) i (show rng i from ri) (by omega) (by omega) (by omega)) (va_cwS 2 hts gX11_emitWithin_X11_kind rfl rfl rfl (by decide +kernel) ⟨(by first | (simp only [headSpec]; omega) | omega | (dsimp only; omega)), (by first | (simp only [headSpec]; omega) | omega | (dsimp only; omega))⟩) (th_PS hK hH) rfl rfl hl.1 rfl (lv_room (Nat.le_of_ble_eq_true rfl)) dX11_emitWithin_91 ⟨(by first | (simp only [headSpec]; omega) | omega | (dsimp only; omega)), (by first | (simp only [headSpec]; omega) | omega | (dsimp only; omega))⟩) hS (fun z_441 σ_s_440 H locs rz_441 hw_439 hH hS => ?_)
          obtain ⟨e9, hw_439⟩ := hw_439
          replace e9 := e9.symm
          subst e9
          have hw_439 : z_441 = mK f1 i := hw_439
          refine lv_iconst (v := I 2) hx hb dX11_emitWithin_94 (by decide) ?_
          refine lv_icmp_ne (tgt := 106) hx hb dX11_emitWithin_95 (by decide) (fun c_442 => ?_) (fun c_442 => ?_)
          · replace c_442 := mt (I_eq (a := z_441) (b := 2) rz_441 (show rng 2 from ⟨by decide, by decide⟩)).mpr c_442
            replace hl : lv_has ls 9 [(0, .ref a), (1, .int (I i)), (2, .int (I is)), (3, .int (I dp)), (4, .int (I z_3)), (5, .int (I (60 * dp)))] := lv_sub hl [0, 1, 2, 3, 4, 5] rfl
            exact jK_124 (F35q98) σ_J_100 _ _ _ ⟨hO, hF, hM, hH, hS, lv_sub hl [0, 1, 2, 3, 4, 5] rfl, hpm_102, J_100_3, J_100_4, J_100_5, J_100_6, J_100_7, J_100_8, J_100_9, J_100_10⟩
          · replace c_442 := (I_eq (a := z_441) (b := 2) rz_441 (show rng 2 from ⟨by decide, by decide⟩)).mp c_442
            refine lv_aload_n hx hb dX11_emitWithin_98 rfl (lv_at hl 0 rfl) ?_
            refine lv_iload hx hb dX11_emitWithin_99 (lv_at hl 5 rfl) ?_
            refine lv_iload hx hb dX11_emitWithin_101 (lv_at hl 4 rfl) ?_
            obtain ⟨_, hc_443⟩ := hO.cell h_a (by decide) (ci := 11) rfl
            refine th_callv (va_runV (As := [.int (I (60 * dp)), .int (I z_3)]) (rest := []) ⟨hx, hb, hml, hown, hts⟩ (m_sort l G y b0 σ_J_100 E hO a h_a (60 * dp) (show rng (60 * dp) from ⟨by omega, by omega⟩) (by omega) (by omega) z_3 (show rng z_3 from rz_3) (by omega) (by omega) i f1 J_100_7 F35q98 J_100_10 (hy0) (by omega) (hpm_102) (by omega)) (cwV 2 hts gX11_emitWithin_X11_sort rfl rfl rfl (by decide +kernel) ⟨(by first | (simp only [headSpec]; omega) | omega | (dsimp only; omega)), (by first | (simp only [headSpec]; omega) | omega | (dsimp only; omega))⟩) (th_PV hK hH rfl hc_443) rfl rfl hl.1 rfl (lv_room (Nat.le_of_ble_eq_true rfl)) dX11_emitWithin_103 ⟨(by first | (simp only [headSpec]; omega) | omega | (dsimp only; omega)), (by first | (simp only [headSpec]; omega) | omega | (dsimp only; omega))⟩) hS (fun σ_s_445 H locs hw_444 hH hS => ?_)
            obtain ⟨hO9, hF9, hM9, hw_444⟩ := hw_444
            replace hM := hM.tu hM9 (by decide)
            replace hF := hF.tu hF9 (by decide)
            have e_446 : gI σ_s_445 a 5 = a50 := (hM9.i (by decide)).trans J_100_4
            have e_447 : gI σ_s_445 a 32 = a320 := (hM9.i (by decide)).trans J_100_5
            have e_448 : gI σ_s_445 a 33 = a330 := (hM9.i (by decide)).trans J_100_6
            have e_449 : aF σ_s_445 (ad E a 1) = f1 := (hM9.a (by decide) (by decide)).trans J_100_7
            have e_450 : aF σ_s_445 (ad E a 2) = f2 := (hM9.a (by decide) (by decide)).trans J_100_8
            have e_451 : aF σ_s_445 (ad E a 3) = f3 := (hM9.a (by decide) (by decide)).trans J_100_9
            replace hO := hO9
            generalize ef_453 : aF σ_s_445 (ad E a 35) = g_452 at hw_444
            have hw_444 : prm f1 g_452 (60 * dp) z_3.toNat i ∧ ofr F35q98 g_452 (60 * dp) := hw_444
            replace hl : lv_has ls 9 [(0, .ref a), (1, .int (I i)), (2, .int (I is)), (3, .int (I dp)), (4, .int (I z_3)), (5, .int (I (60 * dp)))] := lv_sub hl [0, 1, 2, 3, 4, 5] rfl
            exact jK_124 (g_452) σ_s_445 _ _ _ ⟨hO, hF, hM, hH, hS, lv_sub hl [0, 1, 2, 3, 4, 5] rfl, hw_444.1, (J_100_3.tr hw_444.2 (by omega)), e_446, e_447, e_448, e_449, e_450, e_451, ef_453⟩
  · replace c_101 := mt (I_le (a := z_3) (b := v6q99) rz_3 rv6q99).mpr c_101
    refine lv_aload_n hx hb dX11_emitWithin_26 rfl (lv_at hl 0 rfl) ?_
    refine ok.getR hO h_a (by decide) k13_35 (by decide) (fun _ _ he hv kk => th_get (ci := 11) (C := RX11) (T := TX11) (N := 66) hx hb hts inX11 hown hK hH he rfl 35 (by decide) fl4 hv dX11_emitWithin_27 kk) ?_
    refine lv_iload hx hb dX11_emitWithin_30 (lv_at hl 5 rfl) ?_
    refine lv_iload hx hb dX11_emitWithin_32 (lv_at hl 6 rfl) ?_
    refine lv_iadd hx hb dX11_emitWithin_34 ?_
    refine th_addo (fun z_454 rz_454 hz_454 => ?_)
    refine lv_aload_n hx hb dX11_emitWithin_35 rfl (lv_at hl 0 rfl) ?_
    refine ok.getR hO h_a (by decide) k13_1 (by decide) (fun _ _ he hv kk => th_get (ci := 11) (C := RX11) (T := TX11) (N := 66) hx hb hts inX11 hown hK hH he rfl 1 (by decide) fl0 hv dX11_emitWithin_36 kk) ?_
    refine lv_iload_n hx hb dX11_emitWithin_39 rfl (lv_at hl 1 rfl) ?_
    refine lv_iload_n hx hb dX11_emitWithin_40 rfl (lv_at hl 2 rfl) ?_
    refine lv_if_eq (tgt := 62) hx hb dX11_emitWithin_41 (by decide) (fun c_455 => ?_) (fun c_455 => ?_)
    · replace c_455 := (I_eq (a := is) (b := 0) ris (show rng 0 from ⟨by decide, by decide⟩)).mp c_455
      refine lv_iload hx hb dX11_emitWithin_62 (lv_at hl 6 rfl) ?_
      refine th_calli (va_runS (As := [.ref (ad E a 1), .int (I i), .int (I v6q99)]) (rest := [.int (I z_454), .ref (ad E a 35)]) ⟨hx, hb, hml, hown, hts⟩ (w_nth l G y b0 σ_J_100 E hO (ad E a 1) 240 f1 (hO.roww h_a k13_1 isA1 J_100_7 rfl) i (show rng i from ri) (by omega) (by omega) v6q99 (show rng v6q99 from rv6q99) (by first | exact hy0 | exact (hy0).sub (by omega) (by omega)) (by omega) (by omega) (by omega) (jin.mk1 (by omega) hw_1.1 (by omega))) (va_cwS 3 hts gX11_emitWithin_X11_nth rfl rfl rfl (by decide +kernel) ⟨(by first | (simp only [headSpec]; omega) | omega | (dsimp only; omega)), (by first | (simp only [headSpec]; omega) | omega | (dsimp only; omega))⟩) (th_PS hK hH) rfl rfl hl.1 rfl (lv_room (Nat.le_of_ble_eq_true rfl)) dX11_emitWithin_64 ⟨(by first | (simp only [headSpec]; omega) | omega | (dsimp only; omega)), (by first | (simp only [headSpec]; omega) | omega | (dsimp only; omega))⟩) hS (fun z_458 σ_s_457 H locs rz_458 hw_456 hH hS => ?_)
      obtain ⟨e9, hw_456⟩ := hw_456
      replace e9 := e9.symm
      subst e9
      have hw_456 : chn f1 (i + 1) v6q99 z_458 ∧ kid f1 i z_458 := hw_456
      refine m_iast hx hb hK hH hS h00 hO h_a k13_35 isA1 (by decide) J_100_10 rz_454 (by omega) (by omega) rz_458 el1 dX11_emitWithin_67 (fun σ_s_459 H locs hO hF9 hM9 ha9 hH hS => ?_)
      replace hM := hM.tu hM9 (by decide)
      replace hF := hF.tu hF9 (by decide)
      have e_460 : gI σ_s_459 a 5 = a50 := (hM9.i (by decide)).trans J_100_4
      have e_461 : gI σ_s_459 a 32 = a320 := (hM9.i (by decide)).trans J_100_5
      have e_462 : gI σ_s_459 a 33 = a330 := (hM9.i (by decide)).trans J_100_6
      have e_463 : aF σ_s_459 (ad E a 1) = f1 := (hM9.a (by decide) (by decide)).trans J_100_7
      have e_464 : aF σ_s_459 (ad E a 2) = f2 := (hM9.a (by decide) (by decide)).trans J_100_8
      have e_465 : aF σ_s_459 (ad E a 3) = f3 := (hM9.a (by decide) (by decide)).trans J_100_9
      obtain ⟨g_466, dg_466⟩ : ∃ g9, g9 = upd F35q98 (z_454).toNat (I z_458) := ⟨_, rfl⟩
      rw [← dg_466] at ha9
      have ef_467 := ha9
      refine lv_iinc (v := I (v6q99 + 1)) (lv' := [(6, .int (I (v6q99 + 1))), (0, .ref a), (1, .int (I i)), (2, .int (I is)), (3, .int (I dp)), (4, .int (I z_3)), (5, .int (I (60 * dp)))]) hx hb dX11_emitWithin_68 hl (k := 6) rfl (I_add _ _) (by decide) rfl (fun ls hl => ?_)
      refine lv_goto (tgt := 19) hx hb dX11_emitWithin_71 (by decide) ?_
      exact ihJ_100 (v6q99 + 1, g_466) σ_s_459 _ _ _ (by first | (dsimp only; omega) | omega) ⟨hO, hF, hM, hH, hS, lv_sub hl [1, 2, 3, 4, 5, 6, 0] rfl, ⟨by first | (dsimp only; omega) | omega, by first | (dsimp only; omega) | omega⟩, by first | (dsimp only; omega) | omega, by first | (dsimp only; omega) | omega, (J_100_2.st0 (fun h9 => by omega) hw_456.1 dg_466 (by first | (dsimp only; omega) | omega) rz_458 (by first | (dsimp only; omega) | omega) (by omega)), (J_100_3.up dg_466 (by first | (dsimp only; omega) | omega)), e_460, e_461, e_462, e_463, e_464, e_465, ef_467⟩
    · replace c_455 := mt (I_eq (a := is) (b := 0) ris (show rng 0 from ⟨by decide, by decide⟩)).mpr c_455
      refine lv_aload_n hx hb dX11_emitWithin_44 rfl (lv_at hl 0 rfl) ?_
      refine ok.getIc hO h_a (by decide) k13_32 J_100_5 (fun _ _ he hv kk => th_get (ci := 11) (C := RX11) (T := TX11) (N := 66) hx hb hts inX11 hown hK hH he rfl 32 (by decide) fl3 hv dX11_emitWithin_45 kk) ?_
      refine lv_iconst (v := I 4) hx hb dX11_emitWithin_48 (by decide) ?_
      refine lv_icmp_ne (tgt := 62) hx hb dX11_emitWithin_49 (by decide) (fun c_468 => ?_) (fun c_468 => ?_)
      · replace c_468 := mt (I_eq (a := a320) (b := 4) ra320 (show rng 4 from ⟨by decide, by decide⟩)).mpr c_468
        refine lv_iload hx hb dX11_emitWithin_62 (lv_at hl 6 rfl) ?_
        refine th_calli (va_runS (As := [.ref (ad E a 1), .int (I i), .int (I v6q99)]) (rest := [.int (I z_454), .ref (ad E a 35)]) ⟨hx, hb, hml, hown, hts⟩ (w_nth l G y b0 σ_J_100 E hO (ad E a 1) 240 f1 (hO.roww h_a k13_1 isA1 J_100_7 rfl) i (show rng i from ri) (by omega) (by omega) v6q99 (show rng v6q99 from rv6q99) (by first | exact hy0 | exact (hy0).sub (by omega) (by omega)) (by omega) (by omega) (by omega) (jin.mk1 (by omega) hw_1.1 (by omega))) (va_cwS 3 hts gX11_emitWithin_X11_nth rfl rfl rfl (by decide +kernel) ⟨(by first | (simp only [headSpec]; omega) | omega | (dsimp only; omega)), (by first | (simp only [headSpec]; omega) | omega | (dsimp only; omega))⟩) (th_PS hK hH) rfl rfl hl.1 rfl (lv_room (Nat.le_of_ble_eq_true rfl)) dX11_emitWithin_64 ⟨(by first | (simp only [headSpec]; omega) | omega | (dsimp only; omega)), (by first | (simp only [headSpec]; omega) | omega | (dsimp only; omega))⟩) hS (fun z_471 σ_s_470 H locs rz_471 hw_469 hH hS => ?_)
        obtain ⟨e9, hw_469⟩ := hw_469
        replace e9 := e9.symm
        subst e9
        have hw_469 : chn f1 (i + 1) v6q99 z_471 ∧ kid f1 i z_471 := hw_469
        refine m_iast hx hb hK hH hS h00 hO h_a k13_35 isA1 (by decide) J_100_10 rz_454 (by omega) (by omega) rz_471 el1 dX11_emitWithin_67 (fun σ_s_472 H locs hO hF9 hM9 ha9 hH hS => ?_)
        replace hM := hM.tu hM9 (by decide)
        replace hF := hF.tu hF9 (by decide)
        have e_473 : gI σ_s_472 a 5 = a50 := (hM9.i (by decide)).trans J_100_4
        have e_474 : gI σ_s_472 a 32 = a320 := (hM9.i (by decide)).trans J_100_5
        have e_475 : gI σ_s_472 a 33 = a330 := (hM9.i (by decide)).trans J_100_6
        have e_476 : aF σ_s_472 (ad E a 1) = f1 := (hM9.a (by decide) (by decide)).trans J_100_7
        have e_477 : aF σ_s_472 (ad E a 2) = f2 := (hM9.a (by decide) (by decide)).trans J_100_8
        have e_478 : aF σ_s_472 (ad E a 3) = f3 := (hM9.a (by decide) (by decide)).trans J_100_9
        obtain ⟨g_479, dg_479⟩ : ∃ g9, g9 = upd F35q98 (z_454).toNat (I z_471) := ⟨_, rfl⟩
        rw [← dg_479] at ha9
        have ef_480 := ha9
        refine lv_iinc (v := I (v6q99 + 1)) (lv' := [(6, .int (I (v6q99 + 1))), (0, .ref a), (1, .int (I i)), (2, .int (I is)), (3, .int (I dp)), (4, .int (I z_3)), (5, .int (I (60 * dp)))]) hx hb dX11_emitWithin_68 hl (k := 6) rfl (I_add _ _) (by decide) rfl (fun ls hl => ?_)
        refine lv_goto (tgt := 19) hx hb dX11_emitWithin_71 (by decide) ?_
        exact ihJ_100 (v6q99 + 1, g_479) σ_s_472 _ _ _ (by first | (dsimp only; omega) | omega) ⟨hO, hF, hM, hH, hS, lv_sub hl [1, 2, 3, 4, 5, 6, 0] rfl, ⟨by first | (dsimp only; omega) | omega, by first | (dsimp only; omega) | omega⟩, by first | (dsimp only; omega) | omega, by first | (dsimp only; omega) | omega, (J_100_2.st0 (fun h9 => by omega) hw_469.1 dg_479 (by first | (dsimp only; omega) | omega) rz_471 (by first | (dsimp only; omega) | omega) (by omega)), (J_100_3.up dg_479 (by first | (dsimp only; omega) | omega)), e_473, e_474, e_475, e_476, e_477, e_478, ef_480⟩
      · replace c_468 := (I_eq (a := a320) (b := 4) ra320 (show rng 4 from ⟨by decide, by decide⟩)).mp c_468
        refine lv_iload hx hb dX11_emitWithin_52 (lv_at hl 4 rfl) ?_
        refine lv_iconst (v := I 1) hx hb dX11_emitWithin_54 (by decide) ?_
        refine lv_isub hx hb dX11_emitWithin_55 ?_
        refine th_subo (fun z_481 rz_481 hz_481 => ?_)
        refine lv_iload hx hb dX11_emitWithin_56 (lv_at hl 6 rfl) ?_
        refine lv_isub hx hb dX11_emitWithin_58 ?_
        refine th_subo (fun z_482 rz_482 hz_482 => ?_)
        refine lv_goto (tgt := 64) hx hb dX11_emitWithin_59 (by decide) ?_
        refine th_calli (va_runS (As := [.ref (ad E a 1), .int (I i), .int (I z_482)]) (rest := [.int (I z_454), .ref (ad E a 35)]) ⟨hx, hb, hml, hown, hts⟩ (w_nth l G y b0 σ_J_100 E hO (ad E a 1) 240 f1 (hO.roww h_a k13_1 isA1 J_100_7 rfl) i (show rng i from ri) (by omega) (by omega) z_482 (show rng z_482 from rz_482) (by first | exact hy0 | exact (hy0).sub (by omega) (by omega)) (by omega) (by omega) (by omega) (jin.mk1 (by omega) hw_1.1 (by omega))) (va_cwS 3 hts gX11_emitWithin_X11_nth rfl rfl rfl (by decide +kernel) ⟨(by first | (simp only [headSpec]; omega) | omega | (dsimp only; omega)), (by first | (simp only [headSpec]; omega) | omega | (dsimp only; omega))⟩) (th_PS hK hH) rfl rfl hl.1 rfl (lv_room (Nat.le_of_ble_eq_true rfl)) dX11_emitWithin_64 ⟨(by first | (simp only [headSpec]; omega) | omega | (dsimp only; omega)), (by first | (simp only [headSpec]; omega) | omega | (dsimp only; omega))⟩) hS (fun z_485 σ_s_484 H locs rz_485 hw_483 hH hS => ?_)
        obtain ⟨e9, hw_483⟩ := hw_483
        replace e9 := e9.symm
        subst e9
        have hw_483 : chn f1 (i + 1) z_482 z_485 ∧ kid f1 i z_485 := hw_483
        refine m_iast hx hb hK hH hS h00 hO h_a k13_35 isA1 (by decide) J_100_10 rz_454 (by omega) (by omega) rz_485 el1 dX11_emitWithin_67 (fun σ_s_486 H locs hO hF9 hM9 ha9 hH hS => ?_)
        replace hM := hM.tu hM9 (by decide)
        replace hF := hF.tu hF9 (by decide)
        have e_487 : gI σ_s_486 a 5 = a50 := (hM9.i (by decide)).trans J_100_4
        have e_488 : gI σ_s_486 a 32 = a320 := (hM9.i (by decide)).trans J_100_5
        have e_489 : gI σ_s_486 a 33 = a330 := (hM9.i (by decide)).trans J_100_6
        have e_490 : aF σ_s_486 (ad E a 1) = f1 := (hM9.a (by decide) (by decide)).trans J_100_7
        have e_491 : aF σ_s_486 (ad E a 2) = f2 := (hM9.a (by decide) (by decide)).trans J_100_8
        have e_492 : aF σ_s_486 (ad E a 3) = f3 := (hM9.a (by decide) (by decide)).trans J_100_9
        obtain ⟨g_493, dg_493⟩ : ∃ g9, g9 = upd F35q98 (z_454).toNat (I z_485) := ⟨_, rfl⟩
        rw [← dg_493] at ha9
        have ef_494 := ha9
        refine lv_iinc (v := I (v6q99 + 1)) (lv' := [(6, .int (I (v6q99 + 1))), (0, .ref a), (1, .int (I i)), (2, .int (I is)), (3, .int (I dp)), (4, .int (I z_3)), (5, .int (I (60 * dp)))]) hx hb dX11_emitWithin_68 hl (k := 6) rfl (I_add _ _) (by decide) rfl (fun ls hl => ?_)
        refine lv_goto (tgt := 19) hx hb dX11_emitWithin_71 (by decide) ?_
        exact ihJ_100 (v6q99 + 1, g_493) σ_s_486 _ _ _ (by first | (dsimp only; omega) | omega) ⟨hO, hF, hM, hH, hS, lv_sub hl [1, 2, 3, 4, 5, 6, 0] rfl, ⟨by first | (dsimp only; omega) | omega, by first | (dsimp only; omega) | omega⟩, by first | (dsimp only; omega) | omega, by first | (dsimp only; omega) | omega, (J_100_2.st1 ⟨by omega, by omega⟩ hw_483.1 dg_493 (by first | (dsimp only; omega) | omega) rz_485 (by first | (dsimp only; omega) | omega) (by omega)), (J_100_3.up dg_493 (by first | (dsimp only; omega) | omega)), e_487, e_488, e_489, e_490, e_491, e_492, ef_494⟩
