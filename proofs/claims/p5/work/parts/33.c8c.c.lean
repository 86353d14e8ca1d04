set_option maxHeartbeats 4000000 in
set_option maxRecDepth 100000 in
theorem m_tellListRows (n : Nat) (ih : ∀ (l : Launch) (G : va_G) (y : Nat → ClassId) (b0 : Nat) (σ : th_M) (E : th_E) (hO : ok y E σ) (a : Nat) (h_a : kd E a = 13) (i : Int) (ri : rng i) (l_i : 0 ≤ i) (u_i : i ≤ 59) (j : Int) (rj : rng j) (l_j : 0 ≤ j) (u_j : j ≤ 59) (dp : Int) (rdp : rng dp) (l_dp : 0 ≤ dp) (u_dp : dp ≤ 7) (w : Int) (f1 : Nat → Int32) (ef1 : aF σ (ad E a 1) = f1) (f61 : Nat → Int32) (ef61 : aF σ (ad E a 61) = f61) (f39 : Nat → Int32) (ef39 : aF σ (ad E a 39) = f39) (f40 : Nat → Int32) (ef40 : aF σ (ad E a 40) = f40) (f42 : Nat → Int32) (ef42 : aF σ (ad E a 42) = f42) (f43 : Nat → Int32) (ef43 : aF σ (ad E a 43) = f43) (f44 : Nat → Int32) (ef44 : aF σ (ad E a 44) = f44) (f45 : Nat → Int32) (ef45 : aF σ (ad E a 45) = f45) (f46 : Nat → Int32) (ef46 : aF σ (ad E a 46) = f46) (hy0 : tr f61) (hy1 : tr f1) (hy2 : 0 ≤ i ∧ i < mS f61 0) (hy3 : 0 ≤ j ∧ j < mS f1 0) (hy4 : dp ≤ cn f61 i i.toNat) (hy5 : gI σ a 48 = w) (hy6 : 0 ≤ w ∧ w ≤ 1) (hy7 : rws w f39 f40 f42 f43 f44 (f45 w.toNat).toInt (f46 w.toNat).toInt) (hy8 : 0 ≤ (f45 w.toNat).toInt ∧ (f45 w.toNat).toInt + (mS f61 i + mS f1 j) ≤ 130) (hy9 : 0 ≤ (f46 w.toNat).toInt ∧ (f46 w.toNat).toInt + (mS f61 i + mS f1 j) ≤ 150) (hn : (mS f61 i).toNat < n), Met l yX11_tellRows wsX11_tellRows ({ frames := 4*n+140, cells := 0, slots := 0, locals := (160*n+4200) }) (th_P G y b0 σ [.ref a, .ref (ad E a 61), .int (I i), .ref (ad E a 1), .int (I j), .int (I dp)]) (th_Qv G b0 (fun σ1 => ok y E σ1 ∧ fr [13] E σ σ1 ∧ fm [39, 40, 41, 42, 43, 44, 45, 46, 47] E σ σ1 a ∧ (rws w (aF σ1 (ad E a 39)) (aF σ1 (ad E a 40)) (aF σ1 (ad E a 42)) (aF σ1 (ad E a 43)) (aF σ1 (ad E a 44)) ((aF σ1 (ad E a 45)) w.toNat).toInt ((aF σ1 (ad E a 46)) w.toNat).toInt ∧ 0 ≤ ((aF σ1 (ad E a 45)) w.toNat).toInt ∧ ((aF σ1 (ad E a 45)) w.toNat).toInt ≤ (f45 w.toNat).toInt + (mS f61 i + mS f1 j) ∧ 0 ≤ ((aF σ1 (ad E a 46)) w.toNat).toInt ∧ ((aF σ1 (ad E a 46)) w.toNat).toInt ≤ (f46 w.toNat).toInt + (mS f61 i + mS f1 j) ∧ hall w f39 f40 f42 f43 f44 f45 f46 (aF σ1 (ad E a 39)) (aF σ1 (ad E a 40)) (aF σ1 (ad E a 42)) (aF σ1 (ad E a 43)) (aF σ1 (ad E a 44)) (aF σ1 (ad E a 45)) (aF σ1 (ad E a 46))))) 0 0 (th_A b0)) (l : Launch) (G : va_G) (y : Nat → ClassId) (b0 : Nat) (σ : th_M) (E : th_E) (hO : ok y E σ) (a : Nat) (h_a : kd E a = 13) (i : Int) (ri : rng i) (l_i : 0 ≤ i) (u_i : i ≤ 59) (j : Int) (rj : rng j) (l_j : 0 ≤ j) (u_j : j ≤ 59) (dp : Int) (rdp : rng dp) (l_dp : 0 ≤ dp) (u_dp : dp ≤ 7) (w : Int) (f1 : Nat → Int32) (ef1 : aF σ (ad E a 1) = f1) (f61 : Nat → Int32) (ef61 : aF σ (ad E a 61) = f61) (f39 : Nat → Int32) (ef39 : aF σ (ad E a 39) = f39) (f40 : Nat → Int32) (ef40 : aF σ (ad E a 40) = f40) (f42 : Nat → Int32) (ef42 : aF σ (ad E a 42) = f42) (f43 : Nat → Int32) (ef43 : aF σ (ad E a 43) = f43) (f44 : Nat → Int32) (ef44 : aF σ (ad E a 44) = f44) (f45 : Nat → Int32) (ef45 : aF σ (ad E a 45) = f45) (f46 : Nat → Int32) (ef46 : aF σ (ad E a 46) = f46) (hy0 : tr f61) (hy1 : tr f1) (hy2 : 0 ≤ i ∧ i < mS f61 0) (hy3 : 0 ≤ j ∧ j < mS f1 0) (hy4 : dp ≤ cn f61 i i.toNat) (hy5 : gI σ a 48 = w) (hy6 : 0 ≤ w ∧ w ≤ 1) (hy7 : rws w f39 f40 f42 f43 f44 (f45 w.toNat).toInt (f46 w.toNat).toInt) (hy8 : 0 ≤ (f45 w.toNat).toInt ∧ (f45 w.toNat).toInt + (mS f61 i + mS f1 j) ≤ 130) (hy9 : 0 ≤ (f46 w.toNat).toInt ∧ (f46 w.toNat).toInt + (mS f61 i + mS f1 j) ≤ 150) (hy10 : (mS f61 i).toNat < n + 1) : Met l yX11_tellListRows wsX11_tellListRows ({ frames := 4*n+142, cells := 0, slots := 0, locals := (160*n+4260) }) (th_P G y b0 σ [.ref a, .ref (ad E a 61), .int (I i), .ref (ad E a 1), .int (I j), .int (I dp)]) (th_Qv G b0 (fun σ1 => ok y E σ1 ∧ fr [13] E σ σ1 ∧ fm [39, 40, 41, 42, 43, 44, 45, 46, 47] E σ σ1 a ∧ (rws w (aF σ1 (ad E a 39)) (aF σ1 (ad E a 40)) (aF σ1 (ad E a 42)) (aF σ1 (ad E a 43)) (aF σ1 (ad E a 44)) ((aF σ1 (ad E a 45)) w.toNat).toInt ((aF σ1 (ad E a 46)) w.toNat).toInt ∧ 0 ≤ ((aF σ1 (ad E a 45)) w.toNat).toInt ∧ ((aF σ1 (ad E a 45)) w.toNat).toInt ≤ (f45 w.toNat).toInt + (mS f61 i + mS f1 j) ∧ 0 ≤ ((aF σ1 (ad E a 46)) w.toNat).toInt ∧ ((aF σ1 (ad E a 46)) w.toNat).toInt ≤ (f46 w.toNat).toInt + (mS f61 i + mS f1 j) ∧ hall w f39 f40 f42 f43 f44 f45 f46 (aF σ1 (ad E a 39)) (aF σ1 (ad E a 40)) (aF σ1 (ad E a 42)) (aF σ1 (ad E a 43)) (aF σ1 (ad E a 44)) (aF σ1 (ad E a 45)) (aF σ1 (ad E a 46))))) 0 0 (th_A b0) := by
  refine Met.ofW (cc := cX11_tellListRows) (maxL := 9) (ret := none) (by decide) rfl ?_
  intro p e s m args below meth c s₁ B hml hv
  obtain ⟨rfl, hH, hK⟩ := hv
  have hx := B.exec
  have hb := B.bytes
  have hr := B.returns
  have hts := atoms_spec (ws := wsX11_tellListRows) B.pre
  have hown : s.vm.findClass RX11 = some m.cls := findClass_of_methodNamed B.named
  have hlocks := B.notSynchronized
  have h00 : b0 ≤ s.heap.size := hH.1
  have hS : va_S (th_A b0) s.heap s.heap [] := va_S.rf
  have hF : fr [13] E σ σ := fr.rf
  have hM : fm [39, 40, 41, 42, 43, 44, 45, 46, 47] E σ σ a := fm.rf
  have hka := hy0.1.1 i (by omega) (by omega)
  have hkb := hy1.1.1 j (by omega) (by omega)
  have hza := hy0.2.2.1
  have hzb := hy1.2.2.1
  have hTa : mT f61 i (i + mS f61 i) := hy0.1.sub (by omega) (by omega)
  have hTb : mT f1 j (j + mS f1 j) := hy1.1.sub (by omega) (by omega)
  have hda := hy0.at (p := i) (by omega) (by omega)
  have inX11 : ∀ w ∈ wsX110, w ∈ wsX11_tellListRows := by decide +kernel
  have fl0 := hts (.fieldLink RX11 75 "NestQueryModel" "way" "[I") (by decide +kernel)
  have hl := lv_entry ([.ref a, .ref (ad E a 61), .int (I i), .ref (ad E a 1), .int (I j), .int (I dp)]) (n := 9) (Nat.le_of_ble_eq_true rfl)
  rw [lg_entry_eq]
  generalize (lg_sl ([.ref a, .ref (ad E a 61), .int (I i), .ref (ad E a 1), .int (I j), .int (I dp)]) ++ List.replicate (9 - (lg_sl ([.ref a, .ref (ad E a 61), .int (I i), .ref (ad E a 1), .int (I j), .int (I dp)])).length) Slot.unset).toArray = ls at hl ⊢
  have hl : lv_has ls 9 [(0, .ref a), (1, .ref (ad E a 61)), (2, .int (I i)), (3, .ref (ad E a 1)), (4, .int (I j)), (5, .int (I dp))] := hl
  obtain ⟨a480, ea480, ra480, la480, ua480⟩ := hO.gi h_a (by decide) k13_48
  refine lv_aload_n hx hb dX11_tellListRows_0 rfl (lv_at hl 1 rfl) ?_
  refine lv_iload_n hx hb dX11_tellListRows_1 rfl (lv_at hl 2 rfl) ?_
  refine th_calli (va_runS (As := [.ref (ad E a 61), .int (I i)]) (rest := []) ⟨hx, hb, hml, hown, hts⟩ (w_many l G y b0 σ E hO (ad E a 61) 240 f61 (hO.roww h_a k13_61 isA1 ef61 rfl) i (show rng i from ri) (by omega) (by omega) (by first | exact hy0.1.1 | exact (hy0.1.1).sub (by omega) (by omega) | exact hy1.1.1 | exact (hy1.1.1).sub (by omega) (by omega) | exact hTa.1 | exact (hTa.1).sub (by omega) (by omega) | exact hTb.1 | exact (hTb.1).sub (by omega) (by omega)) (by omega) (by omega) (by omega)) (va_cwS 2 hts gX11_tellListRows_X11_many rfl rfl rfl (by decide +kernel) ⟨(by first | (simp only [headSpec]; omega) | omega | (dsimp only; omega)), (by first | (simp only [headSpec]; omega) | omega | (dsimp only; omega))⟩) (th_PS hK hH) rfl rfl hl.1 rfl (lv_room (Nat.le_of_ble_eq_true rfl)) dX11_tellListRows_2 ⟨(by first | (simp only [headSpec]; omega) | omega | (dsimp only; omega)), (by first | (simp only [headSpec]; omega) | omega | (dsimp only; omega))⟩) hS (fun z_3 σ_s_2 H locs rz_3 hw_1 hH hS => ?_)
  obtain ⟨e9, hw_1⟩ := hw_1
  replace e9 := e9.symm
  subst e9
  have hw_1 : chn f61 (i + 1) z_3 (i + mS f61 i) ∧ 0 ≤ z_3 ∧ z_3 < mS f61 i := hw_1
  refine lv_istore (lv' := [(6, .int (I z_3)), (0, .ref a), (1, .ref (ad E a 61)), (2, .int (I i)), (3, .ref (ad E a 1)), (4, .int (I j)), (5, .int (I dp))]) hx hb dX11_tellListRows_5 hl (by decide) rfl (fun ls hl => ?_)
  refine lv_aload_n hx hb dX11_tellListRows_7 rfl (lv_at hl 4 rfl) ?_
  refine lv_iload hx hb dX11_tellListRows_8 (lv_at hl 5 rfl) ?_
  refine th_calli (va_runS (As := [.ref (ad E a 1), .int (I j)]) (rest := []) ⟨hx, hb, hml, hown, hts⟩ (w_many l G y b0 σ E hO (ad E a 1) 240 f1 (hO.roww h_a k13_1 isA1 ef1 rfl) j (show rng j from rj) (by omega) (by omega) (by first | exact hy0.1.1 | exact (hy0.1.1).sub (by omega) (by omega) | exact hy1.1.1 | exact (hy1.1.1).sub (by omega) (by omega) | exact hTa.1 | exact (hTa.1).sub (by omega) (by omega) | exact hTb.1 | exact (hTb.1).sub (by omega) (by omega)) (by omega) (by omega) (by omega)) (va_cwS 2 hts gX11_tellListRows_X11_many rfl rfl rfl (by decide +kernel) ⟨(by first | (simp only [headSpec]; omega) | omega | (dsimp only; omega)), (by first | (simp only [headSpec]; omega) | omega | (dsimp only; omega))⟩) (th_PS hK hH) rfl rfl hl.1 rfl (lv_room (Nat.le_of_ble_eq_true rfl)) dX11_tellListRows_10 ⟨(by first | (simp only [headSpec]; omega) | omega | (dsimp only; omega)), (by first | (simp only [headSpec]; omega) | omega | (dsimp only; omega))⟩) hS (fun z_6 σ_s_5 H locs rz_6 hw_4 hH hS => ?_)
  obtain ⟨e9, hw_4⟩ := hw_4
  replace e9 := e9.symm
  subst e9
  have hw_4 : chn f1 (j + 1) z_6 (j + mS f1 j) ∧ 0 ≤ z_6 ∧ z_6 < mS f1 j := hw_4
  refine lv_istore (lv' := [(7, .int (I z_6)), (6, .int (I z_3)), (0, .ref a), (1, .ref (ad E a 61)), (2, .int (I i)), (3, .ref (ad E a 1)), (4, .int (I j)), (5, .int (I dp))]) hx hb dX11_tellListRows_13 hl (by decide) rfl (fun ls hl => ?_)
  refine lv_iconst (v := I 0) hx hb dX11_tellListRows_15 (by decide) ?_
  refine lv_istore (lv' := [(8, .int (I 0)), (7, .int (I z_6)), (6, .int (I z_3)), (0, .ref a), (1, .ref (ad E a 61)), (2, .int (I i)), (3, .ref (ad E a 1)), (4, .int (I j)), (5, .int (I dp))]) hx hb dX11_tellListRows_16 hl (by decide) rfl (fun ls hl => ?_)
  refine th_loop (α := Int × (Nat → Int32) × (Nat → Int32) × (Nat → Int32) × (Nat → Int32) × (Nat → Int32) × (Nat → Int32) × (Nat → Int32)) (pc := 18) (fun x9 => (z_3 - x9.1).toNat) (fun x9 σ9 H9 l9 ls9 => ok y E σ9 ∧ fr [13] E σ σ9 ∧ fm [39, 40, 41, 42, 43, 44, 45, 46, 47] E σ σ9 a ∧ th_H G b0 σ9 H9 ∧ va_S (th_A b0) s.heap H9 l9 ∧ lv_has ls9 9 [(0, .ref a), (1, .ref (ad E a 61)), (2, .int (I i)), (3, .ref (ad E a 1)), (4, .int (I j)), (5, .int (I dp)), (6, .int (I z_3)), (7, .int (I z_6)), (8, .int (I x9.1))] ∧ rng x9.1 ∧ (x9.1 ≤ z_3) ∧ (0 ≤ x9.1) ∧ (x9.1 ≤ 60) ∧ (rws w x9.2.1 x9.2.2.1 x9.2.2.2.1 x9.2.2.2.2.1 x9.2.2.2.2.2.1 (x9.2.2.2.2.2.2.1 w.toNat).toInt (x9.2.2.2.2.2.2.2 w.toNat).toInt) ∧ (0 ≤ (x9.2.2.2.2.2.2.1 w.toNat).toInt ∧ 0 ≤ (x9.2.2.2.2.2.2.2 w.toNat).toInt) ∧ (hall w f39 f40 f42 f43 f44 f45 f46 x9.2.1 x9.2.2.1 x9.2.2.2.1 x9.2.2.2.2.1 x9.2.2.2.2.2.1 x9.2.2.2.2.2.2.1 x9.2.2.2.2.2.2.2) ∧ (bl1 f61 f1 i j x9.1 (f45 w.toNat).toInt (x9.2.2.2.2.2.2.1 w.toNat).toInt (f46 w.toNat).toInt (x9.2.2.2.2.2.2.2 w.toNat).toInt) ∧ (x9.1 ≤ z_6) ∧ (gI σ9 a 48 = a480) ∧ (aF σ9 (ad E a 1) = f1) ∧ (aF σ9 (ad E a 61) = f61) ∧ (aF σ9 (ad E a 39) = x9.2.1) ∧ (aF σ9 (ad E a 40) = x9.2.2.1) ∧ (aF σ9 (ad E a 42) = x9.2.2.2.1) ∧ (aF σ9 (ad E a 43) = x9.2.2.2.2.1) ∧ (aF σ9 (ad E a 44) = x9.2.2.2.2.2.1) ∧ (aF σ9 (ad E a 45) = x9.2.2.2.2.2.2.1) ∧ (aF σ9 (ad E a 46) = x9.2.2.2.2.2.2.2)) ?_ (0, f39, f40, f42, f43, f44, f45, f46) σ _ _ _ ⟨hO, hF, hM, hH, hS, lv_sub hl [3, 4, 5, 6, 7, 8, 2, 1, 0] rfl, (show rng 0 from ⟨by decide, by decide⟩), by first | (dsimp only; omega) | omega, by first | (dsimp only; omega) | omega, by first | (dsimp only; omega) | omega, hy7, by first | (dsimp only; omega) | omega, hall.rf, (bl1.zero (by first | (dsimp only; omega) | omega) (by first | (dsimp only; omega) | omega)), by first | (dsimp only; omega) | omega, ea480, ef1, ef61, ef39, ef40, ef42, ef43, ef44, ef45, ef46⟩
  intro x9 σ_J_130 H locs ls hI9 ihJ_130
  obtain ⟨v8q129, F39q122, F40q123, F42q124, F43q125, F44q126, F45q127, F46q128⟩ := x9
  obtain ⟨hO, hF, hM, hH, hS, hl, rv8q129, J_130_0, J_130_1, J_130_2, J_130_3, J_130_4, J_130_5, J_130_6, J_130_7, J_130_8, J_130_9, J_130_10, J_130_11, J_130_12, J_130_13, J_130_14, J_130_15, J_130_16, J_130_17⟩ := hI9
  have hl : lv_has ls 9 [(0, .ref a), (1, .ref (ad E a 61)), (2, .int (I i)), (3, .ref (ad E a 1)), (4, .int (I j)), (5, .int (I dp)), (6, .int (I z_3)), (7, .int (I z_6)), (8, .int (I v8q129))] := hl
  have rv8q129 : rng v8q129 := rv8q129
  have J_130_0 : v8q129 ≤ z_3 := J_130_0
  have J_130_1 : 0 ≤ v8q129 := J_130_1
  have J_130_2 : v8q129 ≤ 60 := J_130_2
  have J_130_3 : rws w F39q122 F40q123 F42q124 F43q125 F44q126 (F45q127 w.toNat).toInt (F46q128 w.toNat).toInt := J_130_3
  have J_130_4 : 0 ≤ (F45q127 w.toNat).toInt ∧ 0 ≤ (F46q128 w.toNat).toInt := J_130_4
  have J_130_5 : hall w f39 f40 f42 f43 f44 f45 f46 F39q122 F40q123 F42q124 F43q125 F44q126 F45q127 F46q128 := J_130_5
  have J_130_6 : bl1 f61 f1 i j v8q129 (f45 w.toNat).toInt (F45q127 w.toNat).toInt (f46 w.toNat).toInt (F46q128 w.toNat).toInt := J_130_6
  have J_130_7 : v8q129 ≤ z_6 := J_130_7
  have J_130_8 : gI σ_J_130 a 48 = a480 := J_130_8
  have J_130_9 : aF σ_J_130 (ad E a 1) = f1 := J_130_9
  have J_130_10 : aF σ_J_130 (ad E a 61) = f61 := J_130_10
  have J_130_11 : aF σ_J_130 (ad E a 39) = F39q122 := J_130_11
  have J_130_12 : aF σ_J_130 (ad E a 40) = F40q123 := J_130_12
  have J_130_13 : aF σ_J_130 (ad E a 42) = F42q124 := J_130_13
  have J_130_14 : aF σ_J_130 (ad E a 43) = F43q125 := J_130_14
  have J_130_15 : aF σ_J_130 (ad E a 44) = F44q126 := J_130_15
  have J_130_16 : aF σ_J_130 (ad E a 45) = F45q127 := J_130_16
  have J_130_17 : aF σ_J_130 (ad E a 46) = F46q128 := J_130_17
  refine lv_iload hx hb dX11_tellListRows_18 (lv_at hl 8 rfl) ?_
  refine lv_iload hx hb dX11_tellListRows_20 (lv_at hl 6 rfl) ?_
  refine lv_icmp_ge (tgt := 75) hx hb dX11_tellListRows_22 (by decide) (fun c_131 => ?_) (fun c_131 => ?_)
  · replace c_131 := (I_le (a := z_3) (b := v8q129) rz_3 rv8q129).mp c_131
    refine lv_iload hx hb dX11_tellListRows_75 (lv_at hl 6 rfl) ?_
    refine lv_istore (lv' := [(8, .int (I z_3)), (0, .ref a), (1, .ref (ad E a 61)), (2, .int (I i)), (3, .ref (ad E a 1)), (4, .int (I j)), (5, .int (I dp)), (6, .int (I z_3)), (7, .int (I z_6))]) hx hb dX11_tellListRows_77 hl (by decide) rfl (fun ls hl => ?_)
    refine th_loop (α := Int × (Nat → Int32) × (Nat → Int32) × (Nat → Int32) × (Nat → Int32) × (Nat → Int32) × (Nat → Int32) × (Nat → Int32)) (pc := 79) (fun x9 => (z_6 - x9.1).toNat) (fun x9 σ9 H9 l9 ls9 => ok y E σ9 ∧ fr [13] E σ σ9 ∧ fm [39, 40, 41, 42, 43, 44, 45, 46, 47] E σ σ9 a ∧ th_H G b0 σ9 H9 ∧ va_S (th_A b0) s.heap H9 l9 ∧ lv_has ls9 9 [(0, .ref a), (1, .ref (ad E a 61)), (2, .int (I i)), (3, .ref (ad E a 1)), (4, .int (I j)), (5, .int (I dp)), (6, .int (I z_3)), (7, .int (I z_6)), (8, .int (I x9.1))] ∧ rng x9.1 ∧ (z_3 ≤ x9.1) ∧ (0 ≤ x9.1) ∧ (x9.1 ≤ 60) ∧ (rws w x9.2.1 x9.2.2.1 x9.2.2.2.1 x9.2.2.2.2.1 x9.2.2.2.2.2.1 (x9.2.2.2.2.2.2.1 w.toNat).toInt (x9.2.2.2.2.2.2.2 w.toNat).toInt) ∧ (0 ≤ (x9.2.2.2.2.2.2.1 w.toNat).toInt ∧ 0 ≤ (x9.2.2.2.2.2.2.2 w.toNat).toInt) ∧ (hall w f39 f40 f42 f43 f44 f45 f46 x9.2.1 x9.2.2.1 x9.2.2.2.1 x9.2.2.2.2.1 x9.2.2.2.2.2.1 x9.2.2.2.2.2.2.1 x9.2.2.2.2.2.2.2) ∧ (bl2 f61 f1 i j z_3 z_6 x9.1 (f45 w.toNat).toInt (x9.2.2.2.2.2.2.1 w.toNat).toInt (f46 w.toNat).toInt (x9.2.2.2.2.2.2.2 w.toNat).toInt) ∧ (gI σ9 a 48 = a480) ∧ (aF σ9 (ad E a 1) = f1) ∧ (aF σ9 (ad E a 61) = f61) ∧ (aF σ9 (ad E a 39) = x9.2.1) ∧ (aF σ9 (ad E a 40) = x9.2.2.1) ∧ (aF σ9 (ad E a 42) = x9.2.2.2.1) ∧ (aF σ9 (ad E a 43) = x9.2.2.2.2.1) ∧ (aF σ9 (ad E a 44) = x9.2.2.2.2.2.1) ∧ (aF σ9 (ad E a 45) = x9.2.2.2.2.2.2.1) ∧ (aF σ9 (ad E a 46) = x9.2.2.2.2.2.2.2)) ?_ (z_3, F39q122, F40q123, F42q124, F43q125, F44q126, F45q127, F46q128) σ_J_130 _ _ _ ⟨hO, hF, hM, hH, hS, lv_sub hl [1, 2, 3, 4, 5, 6, 7, 8, 0] rfl, rz_3, by first | (dsimp only; omega) | omega, by first | (dsimp only; omega) | omega, by first | (dsimp only; omega) | omega, J_130_3, by first | (dsimp only; omega) | omega, J_130_5, (bl2.zero J_130_6 hw_1.1 hw_4.1 (by first | (dsimp only; omega) | omega) (by first | (dsimp only; omega) | omega) (by first | (dsimp only; omega) | omega)), J_130_8, J_130_9, J_130_10, J_130_11, J_130_12, J_130_13, J_130_14, J_130_15, J_130_16, J_130_17⟩
    intro x9 σ_J_249 H locs ls hI9 ihJ_249
    obtain ⟨v8q248, F39q241, F40q242, F42q243, F43q244, F44q245, F45q246, F46q247⟩ := x9
    obtain ⟨hO, hF, hM, hH, hS, hl, rv8q248, J_249_0, J_249_1, J_249_2, J_249_3, J_249_4, J_249_5, J_249_6, J_249_7, J_249_8, J_249_9, J_249_10, J_249_11, J_249_12, J_249_13, J_249_14, J_249_15, J_249_16⟩ := hI9
    have hl : lv_has ls 9 [(0, .ref a), (1, .ref (ad E a 61)), (2, .int (I i)), (3, .ref (ad E a 1)), (4, .int (I j)), (5, .int (I dp)), (6, .int (I z_3)), (7, .int (I z_6)), (8, .int (I v8q248))] := hl
    have rv8q248 : rng v8q248 := rv8q248
    have J_249_0 : z_3 ≤ v8q248 := J_249_0
    have J_249_1 : 0 ≤ v8q248 := J_249_1
    have J_249_2 : v8q248 ≤ 60 := J_249_2
    have J_249_3 : rws w F39q241 F40q242 F42q243 F43q244 F44q245 (F45q246 w.toNat).toInt (F46q247 w.toNat).toInt := J_249_3
    have J_249_4 : 0 ≤ (F45q246 w.toNat).toInt ∧ 0 ≤ (F46q247 w.toNat).toInt := J_249_4
    have J_249_5 : hall w f39 f40 f42 f43 f44 f45 f46 F39q241 F40q242 F42q243 F43q244 F44q245 F45q246 F46q247 := J_249_5
    have J_249_6 : bl2 f61 f1 i j z_3 z_6 v8q248 (f45 w.toNat).toInt (F45q246 w.toNat).toInt (f46 w.toNat).toInt (F46q247 w.toNat).toInt := J_249_6
    have J_249_7 : gI σ_J_249 a 48 = a480 := J_249_7
    have J_249_8 : aF σ_J_249 (ad E a 1) = f1 := J_249_8
    have J_249_9 : aF σ_J_249 (ad E a 61) = f61 := J_249_9
    have J_249_10 : aF σ_J_249 (ad E a 39) = F39q241 := J_249_10
    have J_249_11 : aF σ_J_249 (ad E a 40) = F40q242 := J_249_11
    have J_249_12 : aF σ_J_249 (ad E a 42) = F42q243 := J_249_12
    have J_249_13 : aF σ_J_249 (ad E a 43) = F43q244 := J_249_13
    have J_249_14 : aF σ_J_249 (ad E a 44) = F44q245 := J_249_14
    have J_249_15 : aF σ_J_249 (ad E a 45) = F45q246 := J_249_15
    have J_249_16 : aF σ_J_249 (ad E a 46) = F46q247 := J_249_16
    refine lv_iload hx hb dX11_tellListRows_79 (lv_at hl 8 rfl) ?_
    refine lv_iload hx hb dX11_tellListRows_81 (lv_at hl 7 rfl) ?_
    refine lv_icmp_ge (tgt := 124) hx hb dX11_tellListRows_83 (by decide) (fun c_250 => ?_) (fun c_250 => ?_)
    · replace c_250 := (I_le (a := z_6) (b := v8q248) rz_6 rv8q248).mp c_250
      refine lv_iload hx hb dX11_tellListRows_124 (lv_at hl 6 rfl) ?_
      refine lv_iconst (v := I 1) hx hb dX11_tellListRows_126 (by decide) ?_
      refine lv_isub hx hb dX11_tellListRows_127 ?_
      refine th_subo (fun z_251 rz_251 hz_251 => ?_)
      refine lv_istore (lv' := [(8, .int (I z_251)), (0, .ref a), (1, .ref (ad E a 61)), (2, .int (I i)), (3, .ref (ad E a 1)), (4, .int (I j)), (5, .int (I dp)), (6, .int (I z_3)), (7, .int (I z_6))]) hx hb dX11_tellListRows_128 hl (by decide) rfl (fun ls hl => ?_)
      replace hl : lv_has ls 9 [(8, .int (I z_251)), (0, .ref a), (1, .ref (ad E a 61)), (2, .int (I i)), (3, .ref (ad E a 1)), (5, .int (I dp)), (7, .int (I z_6))] := lv_sub hl [0, 1, 2, 3, 4, 6, 8] rfl
      refine th_loop (α := Int × (Nat → Int32) × (Nat → Int32) × (Nat → Int32) × (Nat → Int32) × (Nat → Int32) × (Nat → Int32) × (Nat → Int32)) (pc := 130) (fun x9 => (x9.1 + 1).toNat) (fun x9 σ9 H9 l9 ls9 => ok y E σ9 ∧ fr [13] E σ σ9 ∧ fm [39, 40, 41, 42, 43, 44, 45, 46, 47] E σ σ9 a ∧ th_H G b0 σ9 H9 ∧ va_S (th_A b0) s.heap H9 l9 ∧ lv_has ls9 9 [(0, .ref a), (1, .ref (ad E a 61)), (2, .int (I i)), (3, .ref (ad E a 1)), (5, .int (I dp)), (7, .int (I z_6)), (8, .int (I x9.1))] ∧ rng x9.1 ∧ (-1 ≤ x9.1) ∧ (x9.1 ≤ 60) ∧ (x9.1 < z_3) ∧ (rws w x9.2.1 x9.2.2.1 x9.2.2.2.1 x9.2.2.2.2.1 x9.2.2.2.2.2.1 (x9.2.2.2.2.2.2.1 w.toNat).toInt (x9.2.2.2.2.2.2.2 w.toNat).toInt) ∧ (0 ≤ (x9.2.2.2.2.2.2.1 w.toNat).toInt ∧ 0 ≤ (x9.2.2.2.2.2.2.2 w.toNat).toInt) ∧ (hall w f39 f40 f42 f43 f44 f45 f46 x9.2.1 x9.2.2.1 x9.2.2.2.1 x9.2.2.2.2.1 x9.2.2.2.2.2.1 x9.2.2.2.2.2.2.1 x9.2.2.2.2.2.2.2) ∧ (bl3 f61 f1 i j z_3 z_6 x9.1 (f45 w.toNat).toInt (x9.2.2.2.2.2.2.1 w.toNat).toInt (f46 w.toNat).toInt (x9.2.2.2.2.2.2.2 w.toNat).toInt) ∧ (z_6 ≤ x9.1 + 1 ∨ z_3 ≤ z_6) ∧ (gI σ9 a 48 = a480) ∧ (aF σ9 (ad E a 1) = f1) ∧ (aF σ9 (ad E a 61) = f61) ∧ (aF σ9 (ad E a 39) = x9.2.1) ∧ (aF σ9 (ad E a 40) = x9.2.2.1) ∧ (aF σ9 (ad E a 42) = x9.2.2.2.1) ∧ (aF σ9 (ad E a 43) = x9.2.2.2.2.1) ∧ (aF σ9 (ad E a 44) = x9.2.2.2.2.2.1) ∧ (aF σ9 (ad E a 45) = x9.2.2.2.2.2.2.1) ∧ (aF σ9 (ad E a 46) = x9.2.2.2.2.2.2.2)) ?_ (z_251, F39q241, F40q242, F42q243, F43q244, F44q245, F45q246, F46q247) σ_J_249 _ _ _ ⟨hO, hF, hM, hH, hS, lv_sub hl [1, 2, 3, 4, 5, 6, 0] rfl, rz_251, by first | (dsimp only; omega) | omega, by first | (dsimp only; omega) | omega, by first | (dsimp only; omega) | omega, J_249_3, by first | (dsimp only; omega) | omega, J_249_5, (bl3.zero J_249_6 (by first | (dsimp only; omega) | omega) hw_1.1 hw_4.1 (by first | (dsimp only; omega) | omega)), by first | (dsimp only; omega) | omega, J_249_7, J_249_8, J_249_9, J_249_10, J_249_11, J_249_12, J_249_13, J_249_14, J_249_15, J_249_16⟩
      intro x9 σ_J_369 H locs ls hI9 ihJ_369
      obtain ⟨v8q368, F39q361, F40q362, F42q363, F43q364, F44q365, F45q366, F46q367⟩ := x9
      obtain ⟨hO, hF, hM, hH, hS, hl, rv8q368, J_369_0, J_369_1, J_369_2, J_369_3, J_369_4, J_369_5, J_369_6, J_369_7, J_369_8, J_369_9, J_369_10, J_369_11, J_369_12, J_369_13, J_369_14, J_369_15, J_369_16, J_369_17⟩ := hI9
      have hl : lv_has ls 9 [(0, .ref a), (1, .ref (ad E a 61)), (2, .int (I i)), (3, .ref (ad E a 1)), (5, .int (I dp)), (7, .int (I z_6)), (8, .int (I v8q368))] := hl
      have rv8q368 : rng v8q368 := rv8q368
      have J_369_0 : -1 ≤ v8q368 := J_369_0
      have J_369_1 : v8q368 ≤ 60 := J_369_1
      have J_369_2 : v8q368 < z_3 := J_369_2
      have J_369_3 : rws w F39q361 F40q362 F42q363 F43q364 F44q365 (F45q366 w.toNat).toInt (F46q367 w.toNat).toInt := J_369_3
      have J_369_4 : 0 ≤ (F45q366 w.toNat).toInt ∧ 0 ≤ (F46q367 w.toNat).toInt := J_369_4
      have J_369_5 : hall w f39 f40 f42 f43 f44 f45 f46 F39q361 F40q362 F42q363 F43q364 F44q365 F45q366 F46q367 := J_369_5
      have J_369_6 : bl3 f61 f1 i j z_3 z_6 v8q368 (f45 w.toNat).toInt (F45q366 w.toNat).toInt (f46 w.toNat).toInt (F46q367 w.toNat).toInt := J_369_6
      have J_369_7 : z_6 ≤ v8q368 + 1 ∨ z_3 ≤ z_6 := J_369_7
      have J_369_8 : gI σ_J_369 a 48 = a480 := J_369_8
      have J_369_9 : aF σ_J_369 (ad E a 1) = f1 := J_369_9
      have J_369_10 : aF σ_J_369 (ad E a 61) = f61 := J_369_10
      have J_369_11 : aF σ_J_369 (ad E a 39) = F39q361 := J_369_11
      have J_369_12 : aF σ_J_369 (ad E a 40) = F40q362 := J_369_12
      have J_369_13 : aF σ_J_369 (ad E a 42) = F42q363 := J_369_13
      have J_369_14 : aF σ_J_369 (ad E a 43) = F43q364 := J_369_14
      have J_369_15 : aF σ_J_369 (ad E a 44) = F44q365 := J_369_15
      have J_369_16 : aF σ_J_369 (ad E a 45) = F45q366 := J_369_16
      have J_369_17 : aF σ_J_369 (ad E a 46) = F46q367 := J_369_17
      refine lv_iload hx hb dX11_tellListRows_130 (lv_at hl 6 rfl) ?_
      refine lv_iload hx hb dX11_tellListRows_132 (lv_at hl 5 rfl) ?_
      refine lv_icmp_lt (tgt := 174) hx hb dX11_tellListRows_134 (by decide) (fun c_370 => ?_) (fun c_370 => ?_)
      · replace c_370 := (I_lt (a := v8q368) (b := z_6) rv8q368 rz_6).mp c_370
        exact th_vret hx hb hr hlocks hH hS ⟨hO, hF, hM, by rw [show aF σ_J_369 (ad E a 39) = F39q361 from J_369_11, show aF σ_J_369 (ad E a 40) = F40q362 from J_369_12, show aF σ_J_369 (ad E a 42) = F42q363 from J_369_13, show aF σ_J_369 (ad E a 43) = F43q364 from J_369_14, show aF σ_J_369 (ad E a 44) = F44q365 from J_369_15, show aF σ_J_369 (ad E a 45) = F45q366 from J_369_16, show aF σ_J_369 (ad E a 46) = F46q367 from J_369_17]; have hq9 : (F45q366 w.toNat).toInt ≤ (f45 w.toNat).toInt + (mS f61 i - 1) + (mS f1 j - 1) ∧ (F46q367 w.toNat).toInt ≤ (f46 w.toNat).toInt + (mS f61 i - 1) + (mS f1 j - 1) := (by by_cases h8 : z_3 ≤ z_6; exact J_369_6.fin0 h8; exact J_369_6.fin (by omega) (by omega)); exact ⟨J_369_3, by omega, by omega, by omega, by omega, J_369_5⟩⟩ dX11_tellListRows_174
      · replace c_370 := mt (I_lt (a := v8q368) (b := z_6) rv8q368 rz_6).mpr c_370
        refine lv_aload_n hx hb dX11_tellListRows_137 rfl (lv_at hl 0 rfl) ?_
        refine ok.getR hO h_a (by decide) k13_47 (by decide) (fun _ _ he hv kk => th_get (ci := 11) (C := RX11) (T := TX11) (N := 66) hx hb hts inX11 hown hK hH he rfl 47 (by decide) fl0 hv dX11_tellListRows_138 kk) ?_
        refine lv_iload hx hb dX11_tellListRows_141 (lv_at hl 4 rfl) ?_
        refine lv_iload hx hb dX11_tellListRows_143 (lv_at hl 6 rfl) ?_
        refine th_calli (va_runS (As := [.int (I v8q368)]) (rest := [.int (I dp), .ref (ad E a 47)]) ⟨hx, hb, hml, hown, hts⟩ (w_stepOf l G y b0 σ_J_369 E hO v8q368 (show rng v8q368 from rv8q368) (by omega) (by omega)) (va_cwS 1 hts gX11_tellListRows_X11_stepOf rfl rfl rfl (by decide +kernel) ⟨(by first | (simp only [headSpec]; omega) | omega | (dsimp only; omega)), (by first | (simp only [headSpec]; omega) | omega | (dsimp only; omega))⟩) (th_PS hK hH) rfl rfl hl.1 rfl (lv_room (Nat.le_of_ble_eq_true rfl)) dX11_tellListRows_145 ⟨(by first | (simp only [headSpec]; omega) | omega | (dsimp only; omega)), (by first | (simp only [headSpec]; omega) | omega | (dsimp only; omega))⟩) hS (fun z_373 σ_s_372 H locs rz_373 hw_371 hH hS => ?_)
        obtain ⟨e9, hw_371⟩ := hw_371
        replace e9 := e9.symm
        subst e9
        obtain ⟨f_375, ef_376⟩ : ∃ f9, aF σ_J_369 (ad E a 47) = f9 := ⟨_, rfl⟩
        refine m_iast hx hb hK hH hS h00 hO h_a k13_47 isA1 (by decide) ef_376 rdp (by omega) (by omega) rz_373 el1 dX11_tellListRows_148 (fun σ_s_374 H locs hO hF9 hM9 ha9 hH hS => ?_)
        replace hM := hM.tu hM9 (by decide)
        replace hF := hF.tu hF9 (by decide)
        have e_377 : gI σ_s_374 a 48 = a480 := (hM9.i (by decide)).trans J_369_8
        have e_378 : aF σ_s_374 (ad E a 1) = f1 := (hM9.a (by decide) (by decide)).trans J_369_9
        have e_379 : aF σ_s_374 (ad E a 61) = f61 := (hM9.a (by decide) (by decide)).trans J_369_10
        have e_380 : aF σ_s_374 (ad E a 39) = F39q361 := (hM9.a (by decide) (by decide)).trans J_369_11
        have e_381 : aF σ_s_374 (ad E a 40) = F40q362 := (hM9.a (by decide) (by decide)).trans J_369_12
        have e_382 : aF σ_s_374 (ad E a 42) = F42q363 := (hM9.a (by decide) (by decide)).trans J_369_13
        have e_383 : aF σ_s_374 (ad E a 43) = F43q364 := (hM9.a (by decide) (by decide)).trans J_369_14
        have e_384 : aF σ_s_374 (ad E a 44) = F44q365 := (hM9.a (by decide) (by decide)).trans J_369_15
        have e_385 : aF σ_s_374 (ad E a 45) = F45q366 := (hM9.a (by decide) (by decide)).trans J_369_16
        have e_386 : aF σ_s_374 (ad E a 46) = F46q367 := (hM9.a (by decide) (by decide)).trans J_369_17
        obtain ⟨g_387, dg_387⟩ : ∃ g9, g9 = upd f_375 (dp).toNat (I z_373) := ⟨_, rfl⟩
        rw [← dg_387] at ha9
        have ef_388 := ha9
        refine lv_aload_n hx hb dX11_tellListRows_149 rfl (lv_at hl 0 rfl) ?_
        refine lv_iconst (v := I 2) hx hb dX11_tellListRows_150 (by decide) ?_
        refine lv_iload hx hb dX11_tellListRows_151 (lv_at hl 4 rfl) ?_
        refine lv_iconst (v := I 1) hx hb dX11_tellListRows_153 (by decide) ?_
        refine lv_iadd hx hb dX11_tellListRows_154 ?_
        refine nq_top (I_add _ _) ?_
        refine lv_aload_n hx hb dX11_tellListRows_155 rfl (lv_at hl 1 rfl) ?_
        refine lv_aload_n hx hb dX11_tellListRows_156 rfl (lv_at hl 1 rfl) ?_
        refine lv_iload_n hx hb dX11_tellListRows_157 rfl (lv_at hl 2 rfl) ?_
        refine lv_iload hx hb dX11_tellListRows_158 (lv_at hl 6 rfl) ?_
        refine th_calli (va_runS (As := [.ref (ad E a 61), .int (I i), .int (I v8q368)]) (rest := [.ref (ad E a 61), .int (I (dp + 1)), .int (I 2), .ref a]) ⟨hx, hb, hml, hown, hts⟩ (w_nth l G y b0 σ_s_374 E hO (ad E a 61) 240 f61 (hO.roww h_a k13_61 isA1 e_379 rfl) i (show rng i from ri) (by omega) (by omega) v8q368 (show rng v8q368 from rv8q368) (by first | exact hy0.1.1 | exact (hy0.1.1).sub (by omega) (by omega) | exact hy1.1.1 | exact (hy1.1.1).sub (by omega) (by omega) | exact hTa.1 | exact (hTa.1).sub (by omega) (by omega) | exact hTb.1 | exact (hTb.1).sub (by omega) (by omega)) (by omega) (by omega) (by omega) (jin.mk1 (by omega) hw_1.1 (by omega))) (va_cwS 3 hts gX11_tellListRows_X11_nth rfl rfl rfl (by decide +kernel) ⟨(by first | (simp only [headSpec]; omega) | omega | (dsimp only; omega)), (by first | (simp only [headSpec]; omega) | omega | (dsimp only; omega))⟩) (th_PS hK hH) rfl rfl hl.1 rfl (lv_room (Nat.le_of_ble_eq_true rfl)) dX11_tellListRows_160 ⟨(by first | (simp only [headSpec]; omega) | omega | (dsimp only; omega)), (by first | (simp only [headSpec]; omega) | omega | (dsimp only; omega))⟩) hS (fun z_391 σ_s_390 H locs rz_391 hw_389 hH hS => ?_)
        obtain ⟨e9, hw_389⟩ := hw_389
        replace e9 := e9.symm
        subst e9
        have hw_389 : chn f61 (i + 1) v8q368 z_391 ∧ kid f61 i z_391 := hw_389
        have ha31 := hw_389.2.1
        have ha32 := hw_389.2.2.1
        have ha33 := hTa.1 z_391 (by omega) (by omega)
        refine lv_aload_n hx hb dX11_tellListRows_163 rfl (lv_at hl 3 rfl) ?_
        refine lv_iconst (v := I (-1)) hx hb dX11_tellListRows_164 (by decide) ?_
        have hat := J_369_6.at (by omega) (by omega) hw_389.1 (by omega)
        obtain ⟨_, hc_392⟩ := hO.cell h_a (by decide) (ci := 11) rfl
        refine th_callv (va_runV (As := [.int (I 2), .int (I (dp + 1)), .ref (ad E a 61), .int (I z_391), .ref (ad E a 1), .int (I (-1))]) (rest := []) ⟨hx, hb, hml, hown, hts⟩ (m_rowG l G y b0 σ_s_374 E hO a h_a 2 (show rng 2 from (show rng 2 from ⟨by decide, by decide⟩)) (by omega) (by omega) (dp + 1) (show rng (dp + 1) from ⟨by omega, by omega⟩) (by omega) (by omega) z_391 (show rng z_391 from rz_391) (by omega) (by omega) (-1) (show rng (-1) from (show rng (-1) from ⟨by decide, by decide⟩)) (by omega) (by omega) w f1 e_378 f61 e_379 F39q361 e_380 F40q362 e_381 F42q363 e_382 F43q364 e_383 F44q365 e_384 F45q366 e_385 F46q367 e_386 (by omega) (by omega) (J_369_3) (by omega) (by omega) ((hy0.1.sub (by omega) (by omega))) (by omega)) (cwV 6 hts gX11_tellListRows_X11_addRow rfl rfl rfl (by decide +kernel) ⟨(by first | (simp only [headSpec]; omega) | omega | (dsimp only; omega)), (by first | (simp only [headSpec]; omega) | omega | (dsimp only; omega))⟩) (th_PV hK hH rfl hc_392) rfl rfl hl.1 rfl (lv_room (Nat.le_of_ble_eq_true rfl)) dX11_tellListRows_165 ⟨(by first | (simp only [headSpec]; omega) | omega | (dsimp only; omega)), (by first | (simp only [headSpec]; omega) | omega | (dsimp only; omega))⟩) hS (fun σ_s_394 H locs hw_393 hH hS => ?_)
        obtain ⟨hO9, hF9, hM9, hw_393⟩ := hw_393
        replace hM := hM.tu hM9 (by decide)
        replace hF := hF.tu hF9 (by decide)
        have e_395 : gI σ_s_394 a 48 = a480 := (hM9.i (by decide)).trans e_377
        have e_396 : aF σ_s_394 (ad E a 1) = f1 := (hM9.a (by decide) (by decide)).trans e_378
        have e_397 : aF σ_s_394 (ad E a 61) = f61 := (hM9.a (by decide) (by decide)).trans e_379
        have e_398 : aF σ_s_394 (ad E a 47) = g_387 := (hM9.a (by decide) (by decide)).trans ef_388
        replace hO := hO9
        generalize ef_400 : aF σ_s_394 (ad E a 39) = g_399 at hw_393
        generalize ef_402 : aF σ_s_394 (ad E a 40) = g_401 at hw_393
        generalize ef_404 : aF σ_s_394 (ad E a 42) = g_403 at hw_393
        generalize ef_406 : aF σ_s_394 (ad E a 43) = g_405 at hw_393
        generalize ef_408 : aF σ_s_394 (ad E a 44) = g_407 at hw_393
        generalize ef_410 : aF σ_s_394 (ad E a 45) = g_409 at hw_393
        generalize ef_412 : aF σ_s_394 (ad E a 46) = g_411 at hw_393
        have hw_393 : rws w g_399 g_401 g_403 g_405 g_407 ((F45q366 w.toNat).toInt + 1) ((F46q367 w.toNat).toInt + mS f61 z_391) ∧ (g_409 w.toNat).toInt = (F45q366 w.toNat).toInt + 1 ∧ (g_411 w.toNat).toInt = (F46q367 w.toNat).toInt + mS f61 z_391 ∧ hall w F39q361 F40q362 F42q363 F43q364 F44q365 F45q366 F46q367 g_399 g_401 g_403 g_405 g_407 g_409 g_411 := hw_393
        refine lv_iinc (v := I (v8q368 + (-1))) (lv' := [(8, .int (I (v8q368 + (-1)))), (0, .ref a), (1, .ref (ad E a 61)), (2, .int (I i)), (3, .ref (ad E a 1)), (5, .int (I dp)), (7, .int (I z_6))]) hx hb dX11_tellListRows_168 hl (k := 6) rfl (I_add _ _) (by decide) rfl (fun ls hl => ?_)
        refine lv_goto (tgt := 130) hx hb dX11_tellListRows_171 (by decide) ?_
        exact ihJ_369 (v8q368 + (-1), g_399, g_401, g_403, g_405, g_407, g_409, g_411) σ_s_394 _ _ _ (by first | (dsimp only; omega) | omega) ⟨hO, hF, hM, hH, hS, lv_sub hl [1, 2, 3, 4, 5, 6, 0] rfl, ⟨by first | (dsimp only; omega) | omega, by first | (dsimp only; omega) | omega⟩, by first | (dsimp only; omega) | omega, by first | (dsimp only; omega) | omega, by first | (dsimp only; omega) | omega, (by have h9 := hw_393.1; have h8 := hw_393.2.1; have h7 := hw_393.2.2.1; rw [h8, h7]; exact h9), by first | (dsimp only; omega) | omega, (J_369_5.tr hw_393.2.2.2), (J_369_6.step (by omega) (by omega) hw_389.1 (by omega) (by first | (dsimp only; omega) | omega) (by first | (dsimp only; omega) | omega) (by first | (dsimp only; omega) | omega)), by first | (dsimp only; omega) | omega, e_395, e_396, e_397, ef_400, ef_402, ef_404, ef_406, ef_408, ef_410, ef_412⟩
    · replace c_250 := mt (I_le (a := z_6) (b := v8q248) rz_6 rv8q248).mpr c_250
      refine lv_aload_n hx hb dX11_tellListRows_86 rfl (lv_at hl 0 rfl) ?_
      refine ok.getR hO h_a (by decide) k13_47 (by decide) (fun _ _ he hv kk => th_get (ci := 11) (C := RX11) (T := TX11) (N := 66) hx hb hts inX11 hown hK hH he rfl 47 (by decide) fl0 hv dX11_tellListRows_87 kk) ?_
      refine lv_iload hx hb dX11_tellListRows_90 (lv_at hl 5 rfl) ?_
      refine lv_iload hx hb dX11_tellListRows_92 (lv_at hl 8 rfl) ?_
      refine th_calli (va_runS (As := [.int (I v8q248)]) (rest := [.int (I dp), .ref (ad E a 47)]) ⟨hx, hb, hml, hown, hts⟩ (w_stepOf l G y b0 σ_J_249 E hO v8q248 (show rng v8q248 from rv8q248) (by omega) (by omega)) (va_cwS 1 hts gX11_tellListRows_X11_stepOf rfl rfl rfl (by decide +kernel) ⟨(by first | (simp only [headSpec]; omega) | omega | (dsimp only; omega)), (by first | (simp only [headSpec]; omega) | omega | (dsimp only; omega))⟩) (th_PS hK hH) rfl rfl hl.1 rfl (lv_room (Nat.le_of_ble_eq_true rfl)) dX11_tellListRows_94 ⟨(by first | (simp only [headSpec]; omega) | omega | (dsimp only; omega)), (by first | (simp only [headSpec]; omega) | omega | (dsimp only; omega))⟩) hS (fun z_415 σ_s_414 H locs rz_415 hw_413 hH hS => ?_)
      obtain ⟨e9, hw_413⟩ := hw_413
      replace e9 := e9.symm
      subst e9
      obtain ⟨f_417, ef_418⟩ : ∃ f9, aF σ_J_249 (ad E a 47) = f9 := ⟨_, rfl⟩
      refine m_iast hx hb hK hH hS h00 hO h_a k13_47 isA1 (by decide) ef_418 rdp (by omega) (by omega) rz_415 el1 dX11_tellListRows_97 (fun σ_s_416 H locs hO hF9 hM9 ha9 hH hS => ?_)
      replace hM := hM.tu hM9 (by decide)
      replace hF := hF.tu hF9 (by decide)
      have e_419 : gI σ_s_416 a 48 = a480 := (hM9.i (by decide)).trans J_249_7
      have e_420 : aF σ_s_416 (ad E a 1) = f1 := (hM9.a (by decide) (by decide)).trans J_249_8
      have e_421 : aF σ_s_416 (ad E a 61) = f61 := (hM9.a (by decide) (by decide)).trans J_249_9
      have e_422 : aF σ_s_416 (ad E a 39) = F39q241 := (hM9.a (by decide) (by decide)).trans J_249_10
      have e_423 : aF σ_s_416 (ad E a 40) = F40q242 := (hM9.a (by decide) (by decide)).trans J_249_11
      have e_424 : aF σ_s_416 (ad E a 42) = F42q243 := (hM9.a (by decide) (by decide)).trans J_249_12
      have e_425 : aF σ_s_416 (ad E a 43) = F43q244 := (hM9.a (by decide) (by decide)).trans J_249_13
      have e_426 : aF σ_s_416 (ad E a 44) = F44q245 := (hM9.a (by decide) (by decide)).trans J_249_14
      have e_427 : aF σ_s_416 (ad E a 45) = F45q246 := (hM9.a (by decide) (by decide)).trans J_249_15
      have e_428 : aF σ_s_416 (ad E a 46) = F46q247 := (hM9.a (by decide) (by decide)).trans J_249_16
      obtain ⟨g_429, dg_429⟩ : ∃ g9, g9 = upd f_417 (dp).toNat (I z_415) := ⟨_, rfl⟩
      rw [← dg_429] at ha9
      have ef_430 := ha9
      refine lv_aload_n hx hb dX11_tellListRows_98 rfl (lv_at hl 0 rfl) ?_
      refine lv_iconst (v := I 1) hx hb dX11_tellListRows_99 (by decide) ?_
      refine lv_iload hx hb dX11_tellListRows_100 (lv_at hl 5 rfl) ?_
      refine lv_iconst (v := I 1) hx hb dX11_tellListRows_102 (by decide) ?_
      refine lv_iadd hx hb dX11_tellListRows_103 ?_
      refine nq_top (I_add _ _) ?_
      refine lv_aload_n hx hb dX11_tellListRows_104 rfl (lv_at hl 1 rfl) ?_
      refine lv_iconst (v := I (-1)) hx hb dX11_tellListRows_105 (by decide) ?_
      refine lv_aload_n hx hb dX11_tellListRows_106 rfl (lv_at hl 3 rfl) ?_
      refine lv_aload_n hx hb dX11_tellListRows_107 rfl (lv_at hl 3 rfl) ?_
      refine lv_iload hx hb dX11_tellListRows_108 (lv_at hl 4 rfl) ?_
      refine lv_iload hx hb dX11_tellListRows_110 (lv_at hl 8 rfl) ?_
      refine th_calli (va_runS (As := [.ref (ad E a 1), .int (I j), .int (I v8q248)]) (rest := [.ref (ad E a 1), .int (I (-1)), .ref (ad E a 61), .int (I (dp + 1)), .int (I 1), .ref a]) ⟨hx, hb, hml, hown, hts⟩ (w_nth l G y b0 σ_s_416 E hO (ad E a 1) 240 f1 (hO.roww h_a k13_1 isA1 e_420 rfl) j (show rng j from rj) (by omega) (by omega) v8q248 (show rng v8q248 from rv8q248) (by first | exact hy0.1.1 | exact (hy0.1.1).sub (by omega) (by omega) | exact hy1.1.1 | exact (hy1.1.1).sub (by omega) (by omega) | exact hTa.1 | exact (hTa.1).sub (by omega) (by omega) | exact hTb.1 | exact (hTb.1).sub (by omega) (by omega)) (by omega) (by omega) (by omega) (jin.mk1 (by omega) hw_4.1 (by omega))) (va_cwS 3 hts gX11_tellListRows_X11_nth rfl rfl rfl (by decide +kernel) ⟨(by first | (simp only [headSpec]; omega) | omega | (dsimp only; omega)), (by first | (simp only [headSpec]; omega) | omega | (dsimp only; omega))⟩) (th_PS hK hH) rfl rfl hl.1 rfl (lv_room (Nat.le_of_ble_eq_true rfl)) dX11_tellListRows_112 ⟨(by first | (simp only [headSpec]; omega) | omega | (dsimp only; omega)), (by first | (simp only [headSpec]; omega) | omega | (dsimp only; omega))⟩) hS (fun z_433 σ_s_432 H locs rz_433 hw_431 hH hS => ?_)
      obtain ⟨e9, hw_431⟩ := hw_431
      replace e9 := e9.symm
      subst e9
      have hw_431 : chn f1 (j + 1) v8q248 z_433 ∧ kid f1 j z_433 := hw_431
      have hb21 := hw_431.2.1
      have hb22 := hw_431.2.2.1
      have hb23 := hTb.1 z_433 (by omega) (by omega)
      have hat := J_249_6.at (by omega) hw_431.1
      obtain ⟨_, hc_434⟩ := hO.cell h_a (by decide) (ci := 11) rfl
      refine th_callv (va_runV (As := [.int (I 1), .int (I (dp + 1)), .ref (ad E a 61), .int (I (-1)), .ref (ad E a 1), .int (I z_433)]) (rest := []) ⟨hx, hb, hml, hown, hts⟩ (m_rowC l G y b0 σ_s_416 E hO a h_a 1 (show rng 1 from (show rng 1 from ⟨by decide, by decide⟩)) (by omega) (by omega) (dp + 1) (show rng (dp + 1) from ⟨by omega, by omega⟩) (by omega) (by omega) (-1) (show rng (-1) from (show rng (-1) from ⟨by decide, by decide⟩)) (by omega) (by omega) z_433 (show rng z_433 from rz_433) (by omega) (by omega) w f1 e_420 f61 e_421 F39q241 e_422 F40q242 e_423 F42q243 e_424 F43q244 e_425 F44q245 e_426 F45q246 e_427 F46q247 e_428 (by omega) (by omega) (J_249_3) (by omega) (by omega) ((hy1.1.sub (by omega) (by omega))) (by omega)) (cwV 6 hts gX11_tellListRows_X11_addRow rfl rfl rfl (by decide +kernel) ⟨(by first | (simp only [headSpec]; omega) | omega | (dsimp only; omega)), (by first | (simp only [headSpec]; omega) | omega | (dsimp only; omega))⟩) (th_PV hK hH rfl hc_434) rfl rfl hl.1 rfl (lv_room (Nat.le_of_ble_eq_true rfl)) dX11_tellListRows_115 ⟨(by first | (simp only [headSpec]; omega) | omega | (dsimp only; omega)), (by first | (simp only [headSpec]; omega) | omega | (dsimp only; omega))⟩) hS (fun σ_s_436 H locs hw_435 hH hS => ?_)
      obtain ⟨hO9, hF9, hM9, hw_435⟩ := hw_435
      replace hM := hM.tu hM9 (by decide)
      replace hF := hF.tu hF9 (by decide)
      have e_437 : gI σ_s_436 a 48 = a480 := (hM9.i (by decide)).trans e_419
      have e_438 : aF σ_s_436 (ad E a 1) = f1 := (hM9.a (by decide) (by decide)).trans e_420
      have e_439 : aF σ_s_436 (ad E a 61) = f61 := (hM9.a (by decide) (by decide)).trans e_421
      have e_440 : aF σ_s_436 (ad E a 47) = g_429 := (hM9.a (by decide) (by decide)).trans ef_430
      replace hO := hO9
      generalize ef_442 : aF σ_s_436 (ad E a 39) = g_441 at hw_435
      generalize ef_444 : aF σ_s_436 (ad E a 40) = g_443 at hw_435
      generalize ef_446 : aF σ_s_436 (ad E a 42) = g_445 at hw_435
      generalize ef_448 : aF σ_s_436 (ad E a 43) = g_447 at hw_435
      generalize ef_450 : aF σ_s_436 (ad E a 44) = g_449 at hw_435
      generalize ef_452 : aF σ_s_436 (ad E a 45) = g_451 at hw_435
      generalize ef_454 : aF σ_s_436 (ad E a 46) = g_453 at hw_435
      have hw_435 : rws w g_441 g_443 g_445 g_447 g_449 ((F45q246 w.toNat).toInt + 1) ((F46q247 w.toNat).toInt + mS f1 z_433) ∧ (g_451 w.toNat).toInt = (F45q246 w.toNat).toInt + 1 ∧ (g_453 w.toNat).toInt = (F46q247 w.toNat).toInt + mS f1 z_433 ∧ hall w F39q241 F40q242 F42q243 F43q244 F44q245 F45q246 F46q247 g_441 g_443 g_445 g_447 g_449 g_451 g_453 := hw_435
      refine lv_iinc (v := I (v8q248 + 1)) (lv' := [(8, .int (I (v8q248 + 1))), (0, .ref a), (1, .ref (ad E a 61)), (2, .int (I i)), (3, .ref (ad E a 1)), (4, .int (I j)), (5, .int (I dp)), (6, .int (I z_3)), (7, .int (I z_6))]) hx hb dX11_tellListRows_118 hl (k := 8) rfl (I_add _ _) (by decide) rfl (fun ls hl => ?_)
      refine lv_goto (tgt := 79) hx hb dX11_tellListRows_121 (by decide) ?_
      exact ihJ_249 (v8q248 + 1, g_441, g_443, g_445, g_447, g_449, g_451, g_453) σ_s_436 _ _ _ (by first | (dsimp only; omega) | omega) ⟨hO, hF, hM, hH, hS, lv_sub hl [1, 2, 3, 4, 5, 6, 7, 8, 0] rfl, ⟨by first | (dsimp only; omega) | omega, by first | (dsimp only; omega) | omega⟩, by first | (dsimp only; omega) | omega, by first | (dsimp only; omega) | omega, by first | (dsimp only; omega) | omega, (by have h9 := hw_435.1; have h8 := hw_435.2.1; have h7 := hw_435.2.2.1; rw [h8, h7]; exact h9), by first | (dsimp only; omega) | omega, (J_249_5.tr hw_435.2.2.2), (J_249_6.step (by omega) hw_431.1 (by omega) (by first | (dsimp only; omega) | omega) (by first | (dsimp only; omega) | omega)), e_437, e_438, e_439, ef_442, ef_444, ef_446, ef_448, ef_450, ef_452, ef_454⟩
  · replace c_131 := mt (I_le (a := z_3) (b := v8q129) rz_3 rv8q129).mpr c_131
    refine lv_iload hx hb dX11_tellListRows_25 (lv_at hl 8 rfl) ?_
    refine lv_iload hx hb dX11_tellListRows_27 (lv_at hl 7 rfl) ?_
    refine lv_icmp_ge (tgt := 75) hx hb dX11_tellListRows_29 (by decide) (fun c_455 => ?_) (fun c_455 => ?_)
    · replace c_455 := (I_le (a := z_6) (b := v8q129) rz_6 rv8q129).mp c_455
      refine lv_iload hx hb dX11_tellListRows_75 (lv_at hl 6 rfl) ?_
      refine lv_istore (lv' := [(8, .int (I z_3)), (0, .ref a), (1, .ref (ad E a 61)), (2, .int (I i)), (3, .ref (ad E a 1)), (4, .int (I j)), (5, .int (I dp)), (6, .int (I z_3)), (7, .int (I z_6))]) hx hb dX11_tellListRows_77 hl (by decide) rfl (fun ls hl => ?_)
      refine th_loop (α := Int × (Nat → Int32) × (Nat → Int32) × (Nat → Int32) × (Nat → Int32) × (Nat → Int32) × (Nat → Int32) × (Nat → Int32)) (pc := 79) (fun x9 => (z_6 - x9.1).toNat) (fun x9 σ9 H9 l9 ls9 => ok y E σ9 ∧ fr [13] E σ σ9 ∧ fm [39, 40, 41, 42, 43, 44, 45, 46, 47] E σ σ9 a ∧ th_H G b0 σ9 H9 ∧ va_S (th_A b0) s.heap H9 l9 ∧ lv_has ls9 9 [(0, .ref a), (1, .ref (ad E a 61)), (2, .int (I i)), (3, .ref (ad E a 1)), (4, .int (I j)), (5, .int (I dp)), (6, .int (I z_3)), (7, .int (I z_6)), (8, .int (I x9.1))] ∧ rng x9.1 ∧ (z_3 ≤ x9.1) ∧ (0 ≤ x9.1) ∧ (x9.1 ≤ 60) ∧ (rws w x9.2.1 x9.2.2.1 x9.2.2.2.1 x9.2.2.2.2.1 x9.2.2.2.2.2.1 (x9.2.2.2.2.2.2.1 w.toNat).toInt (x9.2.2.2.2.2.2.2 w.toNat).toInt) ∧ (0 ≤ (x9.2.2.2.2.2.2.1 w.toNat).toInt ∧ 0 ≤ (x9.2.2.2.2.2.2.2 w.toNat).toInt) ∧ (hall w f39 f40 f42 f43 f44 f45 f46 x9.2.1 x9.2.2.1 x9.2.2.2.1 x9.2.2.2.2.1 x9.2.2.2.2.2.1 x9.2.2.2.2.2.2.1 x9.2.2.2.2.2.2.2) ∧ (bl2 f61 f1 i j z_3 z_6 x9.1 (f45 w.toNat).toInt (x9.2.2.2.2.2.2.1 w.toNat).toInt (f46 w.toNat).toInt (x9.2.2.2.2.2.2.2 w.toNat).toInt) ∧ (gI σ9 a 48 = a480) ∧ (aF σ9 (ad E a 1) = f1) ∧ (aF σ9 (ad E a 61) = f61) ∧ (aF σ9 (ad E a 39) = x9.2.1) ∧ (aF σ9 (ad E a 40) = x9.2.2.1) ∧ (aF σ9 (ad E a 42) = x9.2.2.2.1) ∧ (aF σ9 (ad E a 43) = x9.2.2.2.2.1) ∧ (aF σ9 (ad E a 44) = x9.2.2.2.2.2.1) ∧ (aF σ9 (ad E a 45) = x9.2.2.2.2.2.2.1) ∧ (aF σ9 (ad E a 46) = x9.2.2.2.2.2.2.2)) ?_ (z_3, F39q122, F40q123, F42q124, F43q125, F44q126, F45q127, F46q128) σ_J_130 _ _ _ ⟨hO, hF, hM, hH, hS, lv_sub hl [1, 2, 3, 4, 5, 6, 7, 8, 0] rfl, rz_3, by first | (dsimp only; omega) | omega, by first | (dsimp only; omega) | omega, by first | (dsimp only; omega) | omega, J_130_3, by first | (dsimp only; omega) | omega, J_130_5, (bl2.zero J_130_6 hw_1.1 hw_4.1 (by first | (dsimp only; omega) | omega) (by first | (dsimp only; omega) | omega) (by first | (dsimp only; omega) | omega)), J_130_8, J_130_9, J_130_10, J_130_11, J_130_12, J_130_13, J_130_14, J_130_15, J_130_16, J_130_17⟩
      intro x9 σ_J_464 H locs ls hI9 ihJ_464
      obtain ⟨v8q463, F39q456, F40q457, F42q458, F43q459, F44q460, F45q461, F46q462⟩ := x9
      obtain ⟨hO, hF, hM, hH, hS, hl, rv8q463, J_464_0, J_464_1, J_464_2, J_464_3, J_464_4, J_464_5, J_464_6, J_464_7, J_464_8, J_464_9, J_464_10, J_464_11, J_464_12, J_464_13, J_464_14, J_464_15, J_464_16⟩ := hI9
      have hl : lv_has ls 9 [(0, .ref a), (1, .ref (ad E a 61)), (2, .int (I i)), (3, .ref (ad E a 1)), (4, .int (I j)), (5, .int (I dp)), (6, .int (I z_3)), (7, .int (I z_6)), (8, .int (I v8q463))] := hl
      have rv8q463 : rng v8q463 := rv8q463
      have J_464_0 : z_3 ≤ v8q463 := J_464_0
      have J_464_1 : 0 ≤ v8q463 := J_464_1
      have J_464_2 : v8q463 ≤ 60 := J_464_2
      have J_464_3 : rws w F39q456 F40q457 F42q458 F43q459 F44q460 (F45q461 w.toNat).toInt (F46q462 w.toNat).toInt := J_464_3
      have J_464_4 : 0 ≤ (F45q461 w.toNat).toInt ∧ 0 ≤ (F46q462 w.toNat).toInt := J_464_4
      have J_464_5 : hall w f39 f40 f42 f43 f44 f45 f46 F39q456 F40q457 F42q458 F43q459 F44q460 F45q461 F46q462 := J_464_5
      have J_464_6 : bl2 f61 f1 i j z_3 z_6 v8q463 (f45 w.toNat).toInt (F45q461 w.toNat).toInt (f46 w.toNat).toInt (F46q462 w.toNat).toInt := J_464_6
      have J_464_7 : gI σ_J_464 a 48 = a480 := J_464_7
      have J_464_8 : aF σ_J_464 (ad E a 1) = f1 := J_464_8
      have J_464_9 : aF σ_J_464 (ad E a 61) = f61 := J_464_9
      have J_464_10 : aF σ_J_464 (ad E a 39) = F39q456 := J_464_10
      have J_464_11 : aF σ_J_464 (ad E a 40) = F40q457 := J_464_11
      have J_464_12 : aF σ_J_464 (ad E a 42) = F42q458 := J_464_12
      have J_464_13 : aF σ_J_464 (ad E a 43) = F43q459 := J_464_13
      have J_464_14 : aF σ_J_464 (ad E a 44) = F44q460 := J_464_14
      have J_464_15 : aF σ_J_464 (ad E a 45) = F45q461 := J_464_15
      have J_464_16 : aF σ_J_464 (ad E a 46) = F46q462 := J_464_16
      refine lv_iload hx hb dX11_tellListRows_79 (lv_at hl 8 rfl) ?_
      refine lv_iload hx hb dX11_tellListRows_81 (lv_at hl 7 rfl) ?_
      refine lv_icmp_ge (tgt := 124) hx hb dX11_tellListRows_83 (by decide) (fun c_465 => ?_) (fun c_465 => ?_)
      · replace c_465 := (I_le (a := z_6) (b := v8q463) rz_6 rv8q463).mp c_465
        refine lv_iload hx hb dX11_tellListRows_124 (lv_at hl 6 rfl) ?_
        refine lv_iconst (v := I 1) hx hb dX11_tellListRows_126 (by decide) ?_
        refine lv_isub hx hb dX11_tellListRows_127 ?_
        refine th_subo (fun z_466 rz_466 hz_466 => ?_)
        refine lv_istore (lv' := [(8, .int (I z_466)), (0, .ref a), (1, .ref (ad E a 61)), (2, .int (I i)), (3, .ref (ad E a 1)), (4, .int (I j)), (5, .int (I dp)), (6, .int (I z_3)), (7, .int (I z_6))]) hx hb dX11_tellListRows_128 hl (by decide) rfl (fun ls hl => ?_)
        replace hl : lv_has ls 9 [(8, .int (I z_466)), (0, .ref a), (1, .ref (ad E a 61)), (2, .int (I i)), (3, .ref (ad E a 1)), (5, .int (I dp)), (7, .int (I z_6))] := lv_sub hl [0, 1, 2, 3, 4, 6, 8] rfl
        refine th_loop (α := Int × (Nat → Int32) × (Nat → Int32) × (Nat → Int32) × (Nat → Int32) × (Nat → Int32) × (Nat → Int32) × (Nat → Int32)) (pc := 130) (fun x9 => (x9.1 + 1).toNat) (fun x9 σ9 H9 l9 ls9 => ok y E σ9 ∧ fr [13] E σ σ9 ∧ fm [39, 40, 41, 42, 43, 44, 45, 46, 47] E σ σ9 a ∧ th_H G b0 σ9 H9 ∧ va_S (th_A b0) s.heap H9 l9 ∧ lv_has ls9 9 [(0, .ref a), (1, .ref (ad E a 61)), (2, .int (I i)), (3, .ref (ad E a 1)), (5, .int (I dp)), (7, .int (I z_6)), (8, .int (I x9.1))] ∧ rng x9.1 ∧ (-1 ≤ x9.1) ∧ (x9.1 ≤ 60) ∧ (x9.1 < z_3) ∧ (rws w x9.2.1 x9.2.2.1 x9.2.2.2.1 x9.2.2.2.2.1 x9.2.2.2.2.2.1 (x9.2.2.2.2.2.2.1 w.toNat).toInt (x9.2.2.2.2.2.2.2 w.toNat).toInt) ∧ (0 ≤ (x9.2.2.2.2.2.2.1 w.toNat).toInt ∧ 0 ≤ (x9.2.2.2.2.2.2.2 w.toNat).toInt) ∧ (hall w f39 f40 f42 f43 f44 f45 f46 x9.2.1 x9.2.2.1 x9.2.2.2.1 x9.2.2.2.2.1 x9.2.2.2.2.2.1 x9.2.2.2.2.2.2.1 x9.2.2.2.2.2.2.2) ∧ (bl3 f61 f1 i j z_3 z_6 x9.1 (f45 w.toNat).toInt (x9.2.2.2.2.2.2.1 w.toNat).toInt (f46 w.toNat).toInt (x9.2.2.2.2.2.2.2 w.toNat).toInt) ∧ (z_6 ≤ x9.1 + 1 ∨ z_3 ≤ z_6) ∧ (gI σ9 a 48 = a480) ∧ (aF σ9 (ad E a 1) = f1) ∧ (aF σ9 (ad E a 61) = f61) ∧ (aF σ9 (ad E a 39) = x9.2.1) ∧ (aF σ9 (ad E a 40) = x9.2.2.1) ∧ (aF σ9 (ad E a 42) = x9.2.2.2.1) ∧ (aF σ9 (ad E a 43) = x9.2.2.2.2.1) ∧ (aF σ9 (ad E a 44) = x9.2.2.2.2.2.1) ∧ (aF σ9 (ad E a 45) = x9.2.2.2.2.2.2.1) ∧ (aF σ9 (ad E a 46) = x9.2.2.2.2.2.2.2)) ?_ (z_466, F39q456, F40q457, F42q458, F43q459, F44q460, F45q461, F46q462) σ_J_464 _ _ _ ⟨hO, hF, hM, hH, hS, lv_sub hl [1, 2, 3, 4, 5, 6, 0] rfl, rz_466, by first | (dsimp only; omega) | omega, by first | (dsimp only; omega) | omega, by first | (dsimp only; omega) | omega, J_464_3, by first | (dsimp only; omega) | omega, J_464_5, (bl3.zero J_464_6 (by first | (dsimp only; omega) | omega) hw_1.1 hw_4.1 (by first | (dsimp only; omega) | omega)), by first | (dsimp only; omega) | omega, J_464_7, J_464_8, J_464_9, J_464_10, J_464_11, J_464_12, J_464_13, J_464_14, J_464_15, J_464_16⟩
        intro x9 σ_J_475 H locs ls hI9 ihJ_475
        obtain ⟨v8q474, F39q467, F40q468, F42q469, F43q470, F44q471, F45q472, F46q473⟩ := x9
        obtain ⟨hO, hF, hM, hH, hS, hl, rv8q474, J_475_0, J_475_1, J_475_2, J_475_3, J_475_4, J_475_5, J_475_6, J_475_7, J_475_8, J_475_9, J_475_10, J_475_11, J_475_12, J_475_13, J_475_14, J_475_15, J_475_16, J_475_17⟩ := hI9
        have hl : lv_has ls 9 [(0, .ref a), (1, .ref (ad E a 61)), (2, .int (I i)), (3, .ref (ad E a 1)), (5, .int (I dp)), (7, .int (I z_6)), (8, .int (I v8q474))] := hl
        have rv8q474 : rng v8q474 := rv8q474
        have J_475_0 : -1 ≤ v8q474 := J_475_0
        have J_475_1 : v8q474 ≤ 60 := J_475_1
        have J_475_2 : v8q474 < z_3 := J_475_2
        have J_475_3 : rws w F39q467 F40q468 F42q469 F43q470 F44q471 (F45q472 w.toNat).toInt (F46q473 w.toNat).toInt := J_475_3
        have J_475_4 : 0 ≤ (F45q472 w.toNat).toInt ∧ 0 ≤ (F46q473 w.toNat).toInt := J_475_4
        have J_475_5 : hall w f39 f40 f42 f43 f44 f45 f46 F39q467 F40q468 F42q469 F43q470 F44q471 F45q472 F46q473 := J_475_5
        have J_475_6 : bl3 f61 f1 i j z_3 z_6 v8q474 (f45 w.toNat).toInt (F45q472 w.toNat).toInt (f46 w.toNat).toInt (F46q473 w.toNat).toInt := J_475_6
        have J_475_7 : z_6 ≤ v8q474 + 1 ∨ z_3 ≤ z_6 := J_475_7
        have J_475_8 : gI σ_J_475 a 48 = a480 := J_475_8
        have J_475_9 : aF σ_J_475 (ad E a 1) = f1 := J_475_9
        have J_475_10 : aF σ_J_475 (ad E a 61) = f61 := J_475_10
        have J_475_11 : aF σ_J_475 (ad E a 39) = F39q467 := J_475_11
        have J_475_12 : aF σ_J_475 (ad E a 40) = F40q468 := J_475_12
        have J_475_13 : aF σ_J_475 (ad E a 42) = F42q469 := J_475_13
        have J_475_14 : aF σ_J_475 (ad E a 43) = F43q470 := J_475_14
        have J_475_15 : aF σ_J_475 (ad E a 44) = F44q471 := J_475_15
        have J_475_16 : aF σ_J_475 (ad E a 45) = F45q472 := J_475_16
        have J_475_17 : aF σ_J_475 (ad E a 46) = F46q473 := J_475_17
        refine lv_iload hx hb dX11_tellListRows_130 (lv_at hl 6 rfl) ?_
        refine lv_iload hx hb dX11_tellListRows_132 (lv_at hl 5 rfl) ?_
        refine lv_icmp_lt (tgt := 174) hx hb dX11_tellListRows_134 (by decide) (fun c_476 => ?_) (fun c_476 => ?_)
        · replace c_476 := (I_lt (a := v8q474) (b := z_6) rv8q474 rz_6).mp c_476
          exact th_vret hx hb hr hlocks hH hS ⟨hO, hF, hM, by rw [show aF σ_J_475 (ad E a 39) = F39q467 from J_475_11, show aF σ_J_475 (ad E a 40) = F40q468 from J_475_12, show aF σ_J_475 (ad E a 42) = F42q469 from J_475_13, show aF σ_J_475 (ad E a 43) = F43q470 from J_475_14, show aF σ_J_475 (ad E a 44) = F44q471 from J_475_15, show aF σ_J_475 (ad E a 45) = F45q472 from J_475_16, show aF σ_J_475 (ad E a 46) = F46q473 from J_475_17]; have hq9 : (F45q472 w.toNat).toInt ≤ (f45 w.toNat).toInt + (mS f61 i - 1) + (mS f1 j - 1) ∧ (F46q473 w.toNat).toInt ≤ (f46 w.toNat).toInt + (mS f61 i - 1) + (mS f1 j - 1) := (by by_cases h8 : z_3 ≤ z_6; exact J_475_6.fin0 h8; exact J_475_6.fin (by omega) (by omega)); exact ⟨J_475_3, by omega, by omega, by omega, by omega, J_475_5⟩⟩ dX11_tellListRows_174
        · replace c_476 := mt (I_lt (a := v8q474) (b := z_6) rv8q474 rz_6).mpr c_476
          refine lv_aload_n hx hb dX11_tellListRows_137 rfl (lv_at hl 0 rfl) ?_
          refine ok.getR hO h_a (by decide) k13_47 (by decide) (fun _ _ he hv kk => th_get (ci := 11) (C := RX11) (T := TX11) (N := 66) hx hb hts inX11 hown hK hH he rfl 47 (by decide) fl0 hv dX11_tellListRows_138 kk) ?_
          refine lv_iload hx hb dX11_tellListRows_141 (lv_at hl 4 rfl) ?_
          refine lv_iload hx hb dX11_tellListRows_143 (lv_at hl 6 rfl) ?_
          refine th_calli (va_runS (As := [.int (I v8q474)]) (rest := [.int (I dp), .ref (ad E a 47)]) ⟨hx, hb, hml, hown, hts⟩ (w_stepOf l G y b0 σ_J_475 E hO v8q474 (show rng v8q474 from rv8q474) (by omega) (by omega)) (va_cwS 1 hts gX11_tellListRows_X11_stepOf rfl rfl rfl (by decide +kernel) ⟨(by first | (simp only [headSpec]; omega) | omega | (dsimp only; omega)), (by first | (simp only [headSpec]; omega) | omega | (dsimp only; omega))⟩) (th_PS hK hH) rfl rfl hl.1 rfl (lv_room (Nat.le_of_ble_eq_true rfl)) dX11_tellListRows_145 ⟨(by first | (simp only [headSpec]; omega) | omega | (dsimp only; omega)), (by first | (simp only [headSpec]; omega) | omega | (dsimp only; omega))⟩) hS (fun z_479 σ_s_478 H locs rz_479 hw_477 hH hS => ?_)
          obtain ⟨e9, hw_477⟩ := hw_477
          replace e9 := e9.symm
          subst e9
          obtain ⟨f_481, ef_482⟩ : ∃ f9, aF σ_J_475 (ad E a 47) = f9 := ⟨_, rfl⟩
          refine m_iast hx hb hK hH hS h00 hO h_a k13_47 isA1 (by decide) ef_482 rdp (by omega) (by omega) rz_479 el1 dX11_tellListRows_148 (fun σ_s_480 H locs hO hF9 hM9 ha9 hH hS => ?_)
          replace hM := hM.tu hM9 (by decide)
          replace hF := hF.tu hF9 (by decide)
          have e_483 : gI σ_s_480 a 48 = a480 := (hM9.i (by decide)).trans J_475_8
          have e_484 : aF σ_s_480 (ad E a 1) = f1 := (hM9.a (by decide) (by decide)).trans J_475_9
          have e_485 : aF σ_s_480 (ad E a 61) = f61 := (hM9.a (by decide) (by decide)).trans J_475_10
          have e_486 : aF σ_s_480 (ad E a 39) = F39q467 := (hM9.a (by decide) (by decide)).trans J_475_11
          have e_487 : aF σ_s_480 (ad E a 40) = F40q468 := (hM9.a (by decide) (by decide)).trans J_475_12
          have e_488 : aF σ_s_480 (ad E a 42) = F42q469 := (hM9.a (by decide) (by decide)).trans J_475_13
          have e_489 : aF σ_s_480 (ad E a 43) = F43q470 := (hM9.a (by decide) (by decide)).trans J_475_14
          have e_490 : aF σ_s_480 (ad E a 44) = F44q471 := (hM9.a (by decide) (by decide)).trans J_475_15
          have e_491 : aF σ_s_480 (ad E a 45) = F45q472 := (hM9.a (by decide) (by decide)).trans J_475_16
          have e_492 : aF σ_s_480 (ad E a 46) = F46q473 := (hM9.a (by decide) (by decide)).trans J_475_17
          obtain ⟨g_493, dg_493⟩ : ∃ g9, g9 = upd f_481 (dp).toNat (I z_479) := ⟨_, rfl⟩
          rw [← dg_493] at ha9
          have ef_494 := ha9
          refine lv_aload_n hx hb dX11_tellListRows_149 rfl (lv_at hl 0 rfl) ?_
          refine lv_iconst (v := I 2) hx hb dX11_tellListRows_150 (by decide) ?_
          refine lv_iload hx hb dX11_tellListRows_151 (lv_at hl 4 rfl) ?_
          refine lv_iconst (v := I 1) hx hb dX11_tellListRows_153 (by decide) ?_
          refine lv_iadd hx hb dX11_tellListRows_154 ?_
          refine nq_top (I_add _ _) ?_
          refine lv_aload_n hx hb dX11_tellListRows_155 rfl (lv_at hl 1 rfl) ?_
          refine lv_aload_n hx hb dX11_tellListRows_156 rfl (lv_at hl 1 rfl) ?_
          refine lv_iload_n hx hb dX11_tellListRows_157 rfl (lv_at hl 2 rfl) ?_
          refine lv_iload hx hb dX11_tellListRows_158 (lv_at hl 6 rfl) ?_
          refine th_calli (va_runS (As := [.ref (ad E a 61), .int (I i), .int (I v8q474)]) (rest := [.ref (ad E a 61), .int (I (dp + 1)), .int (I 2), .ref a]) ⟨hx, hb, hml, hown, hts⟩ (w_nth l G y b0 σ_s_480 E hO (ad E a 61) 240 f61 (hO.roww h_a k13_61 isA1 e_485 rfl) i (show rng i from ri) (by omega) (by omega) v8q474 (show rng v8q474 from rv8q474) (by first | exact hy0.1.1 | exact (hy0.1.1).sub (by omega) (by omega) | exact hy1.1.1 | exact (hy1.1.1).sub (by omega) (by omega) | exact hTa.1 | exact (hTa.1).sub (by omega) (by omega) | exact hTb.1 | exact (hTb.1).sub (by omega) (by omega)) (by omega) (by omega) (by omega) (jin.mk1 (by omega) hw_1.1 (by omega))) (va_cwS 3 hts gX11_tellListRows_X11_nth rfl rfl rfl (by decide +kernel) ⟨(by first | (simp only [headSpec]; omega) | omega | (dsimp only; omega)), (by first | (simp only [headSpec]; omega) | omega | (dsimp only; omega))⟩) (th_PS hK hH) rfl rfl hl.1 rfl (lv_room (Nat.le_of_ble_eq_true rfl)) dX11_tellListRows_160 ⟨(by first | (simp only [headSpec]; omega) | omega | (dsimp only; omega)), (by first | (simp only [headSpec]; omega) | omega | (dsimp only; omega))⟩) hS (fun z_497 σ_s_496 H locs rz_497 hw_495 hH hS => ?_)
          obtain ⟨e9, hw_495⟩ := hw_495
          replace e9 := e9.symm
          subst e9
          have hw_495 : chn f61 (i + 1) v8q474 z_497 ∧ kid f61 i z_497 := hw_495
          have ha31 := hw_495.2.1
          have ha32 := hw_495.2.2.1
          have ha33 := hTa.1 z_497 (by omega) (by omega)
          refine lv_aload_n hx hb dX11_tellListRows_163 rfl (lv_at hl 3 rfl) ?_
          refine lv_iconst (v := I (-1)) hx hb dX11_tellListRows_164 (by decide) ?_
          have hat := J_475_6.at (by omega) (by omega) hw_495.1 (by omega)
          obtain ⟨_, hc_498⟩ := hO.cell h_a (by decide) (ci := 11) rfl
          refine th_callv (va_runV (As := [.int (I 2), .int (I (dp + 1)), .ref (ad E a 61), .int (I z_497), .ref (ad E a 1), .int (I (-1))]) (rest := []) ⟨hx, hb, hml, hown, hts⟩ (m_rowG l G y b0 σ_s_480 E hO a h_a 2 (show rng 2 from (show rng 2 from ⟨by decide, by decide⟩)) (by omega) (by omega) (dp + 1) (show rng (dp + 1) from ⟨by omega, by omega⟩) (by omega) (by omega) z_497 (show rng z_497 from rz_497) (by omega) (by omega) (-1) (show rng (-1) from (show rng (-1) from ⟨by decide, by decide⟩)) (by omega) (by omega) w f1 e_484 f61 e_485 F39q467 e_486 F40q468 e_487 F42q469 e_488 F43q470 e_489 F44q471 e_490 F45q472 e_491 F46q473 e_492 (by omega) (by omega) (J_475_3) (by omega) (by omega) ((hy0.1.sub (by omega) (by omega))) (by omega)) (cwV 6 hts gX11_tellListRows_X11_addRow rfl rfl rfl (by decide +kernel) ⟨(by first | (simp only [headSpec]; omega) | omega | (dsimp only; omega)), (by first | (simp only [headSpec]; omega) | omega | (dsimp only; omega))⟩) (th_PV hK hH rfl hc_498) rfl rfl hl.1 rfl (lv_room (Nat.le_of_ble_eq_true rfl)) dX11_tellListRows_165 ⟨(by first | (simp only [headSpec]; omega) | omega | (dsimp only; omega)), (by first | (simp only [headSpec]; omega) | omega | (dsimp only; omega))⟩) hS (fun σ_s_500 H locs hw_499 hH hS => ?_)
          obtain ⟨hO9, hF9, hM9, hw_499⟩ := hw_499
          replace hM := hM.tu hM9 (by decide)
          replace hF := hF.tu hF9 (by decide)
          have e_501 : gI σ_s_500 a 48 = a480 := (hM9.i (by decide)).trans e_483
          have e_502 : aF σ_s_500 (ad E a 1) = f1 := (hM9.a (by decide) (by decide)).trans e_484
          have e_503 : aF σ_s_500 (ad E a 61) = f61 := (hM9.a (by decide) (by decide)).trans e_485
          have e_504 : aF σ_s_500 (ad E a 47) = g_493 := (hM9.a (by decide) (by decide)).trans ef_494
          replace hO := hO9
          generalize ef_506 : aF σ_s_500 (ad E a 39) = g_505 at hw_499
          generalize ef_508 : aF σ_s_500 (ad E a 40) = g_507 at hw_499
          generalize ef_510 : aF σ_s_500 (ad E a 42) = g_509 at hw_499
          generalize ef_512 : aF σ_s_500 (ad E a 43) = g_511 at hw_499
          generalize ef_514 : aF σ_s_500 (ad E a 44) = g_513 at hw_499
          generalize ef_516 : aF σ_s_500 (ad E a 45) = g_515 at hw_499
          generalize ef_518 : aF σ_s_500 (ad E a 46) = g_517 at hw_499
          have hw_499 : rws w g_505 g_507 g_509 g_511 g_513 ((F45q472 w.toNat).toInt + 1) ((F46q473 w.toNat).toInt + mS f61 z_497) ∧ (g_515 w.toNat).toInt = (F45q472 w.toNat).toInt + 1 ∧ (g_517 w.toNat).toInt = (F46q473 w.toNat).toInt + mS f61 z_497 ∧ hall w F39q467 F40q468 F42q469 F43q470 F44q471 F45q472 F46q473 g_505 g_507 g_509 g_511 g_513 g_515 g_517 := hw_499
          refine lv_iinc (v := I (v8q474 + (-1))) (lv' := [(8, .int (I (v8q474 + (-1)))), (0, .ref a), (1, .ref (ad E a 61)), (2, .int (I i)), (3, .ref (ad E a 1)), (5, .int (I dp)), (7, .int (I z_6))]) hx hb dX11_tellListRows_168 hl (k := 6) rfl (I_add _ _) (by decide) rfl (fun ls hl => ?_)
          refine lv_goto (tgt := 130) hx hb dX11_tellListRows_171 (by decide) ?_
          exact ihJ_475 (v8q474 + (-1), g_505, g_507, g_509, g_511, g_513, g_515, g_517) σ_s_500 _ _ _ (by first | (dsimp only; omega) | omega) ⟨hO, hF, hM, hH, hS, lv_sub hl [1, 2, 3, 4, 5, 6, 0] rfl, ⟨by first | (dsimp only; omega) | omega, by first | (dsimp only; omega) | omega⟩, by first | (dsimp only; omega) | omega, by first | (dsimp only; omega) | omega, by first | (dsimp only; omega) | omega, (by have h9 := hw_499.1; have h8 := hw_499.2.1; have h7 := hw_499.2.2.1; rw [h8, h7]; exact h9), by first | (dsimp only; omega) | omega, (J_475_5.tr hw_499.2.2.2), (J_475_6.step (by omega) (by omega) hw_495.1 (by omega) (by first | (dsimp only; omega) | omega) (by first | (dsimp only; omega) | omega) (by first | (dsimp only; omega) | omega)), by first | (dsimp only; omega) | omega, e_501, e_502, e_503, ef_506, ef_508, ef_510, ef_512, ef_514, ef_516, ef_518⟩
      · replace c_465 := mt (I_le (a := z_6) (b := v8q463) rz_6 rv8q463).mpr c_465
        refine lv_aload_n hx hb dX11_tellListRows_86 rfl (lv_at hl 0 rfl) ?_
        refine ok.getR hO h_a (by decide) k13_47 (by decide) (fun _ _ he hv kk => th_get (ci := 11) (C := RX11) (T := TX11) (N := 66) hx hb hts inX11 hown hK hH he rfl 47 (by decide) fl0 hv dX11_tellListRows_87 kk) ?_
        refine lv_iload hx hb dX11_tellListRows_90 (lv_at hl 5 rfl) ?_
        refine lv_iload hx hb dX11_tellListRows_92 (lv_at hl 8 rfl) ?_
        refine th_calli (va_runS (As := [.int (I v8q463)]) (rest := [.int (I dp), .ref (ad E a 47)]) ⟨hx, hb, hml, hown, hts⟩ (w_stepOf l G y b0 σ_J_464 E hO v8q463 (show rng v8q463 from rv8q463) (by omega) (by omega)) (va_cwS 1 hts gX11_tellListRows_X11_stepOf rfl rfl rfl (by decide +kernel) ⟨(by first | (simp only [headSpec]; omega) | omega | (dsimp only; omega)), (by first | (simp only [headSpec]; omega) | omega | (dsimp only; omega))⟩) (th_PS hK hH) rfl rfl hl.1 rfl (lv_room (Nat.le_of_ble_eq_true rfl)) dX11_tellListRows_94 ⟨(by first | (simp only [headSpec]; omega) | omega | (dsimp only; omega)), (by first | (simp only [headSpec]; omega) | omega | (dsimp only; omega))⟩) hS (fun z_521 σ_s_520 H locs rz_521 hw_519 hH hS => ?_)
        obtain ⟨e9, hw_519⟩ := hw_519
        replace e9 := e9.symm
        subst e9
        obtain ⟨f_523, ef_524⟩ : ∃ f9, aF σ_J_464 (ad E a 47) = f9 := ⟨_, rfl⟩
        refine m_iast hx hb hK hH hS h00 hO h_a k13_47 isA1 (by decide) ef_524 rdp (by omega) (by omega) rz_521 el1 dX11_tellListRows_97 (fun σ_s_522 H locs hO hF9 hM9 ha9 hH hS => ?_)
        replace hM := hM.tu hM9 (by decide)
        replace hF := hF.tu hF9 (by decide)
        have e_525 : gI σ_s_522 a 48 = a480 := (hM9.i (by decide)).trans J_464_7
        have e_526 : aF σ_s_522 (ad E a 1) = f1 := (hM9.a (by decide) (by decide)).trans J_464_8
        have e_527 : aF σ_s_522 (ad E a 61) = f61 := (hM9.a (by decide) (by decide)).trans J_464_9
        have e_528 : aF σ_s_522 (ad E a 39) = F39q456 := (hM9.a (by decide) (by decide)).trans J_464_10
        have e_529 : aF σ_s_522 (ad E a 40) = F40q457 := (hM9.a (by decide) (by decide)).trans J_464_11
        have e_530 : aF σ_s_522 (ad E a 42) = F42q458 := (hM9.a (by decide) (by decide)).trans J_464_12
        have e_531 : aF σ_s_522 (ad E a 43) = F43q459 := (hM9.a (by decide) (by decide)).trans J_464_13
        have e_532 : aF σ_s_522 (ad E a 44) = F44q460 := (hM9.a (by decide) (by decide)).trans J_464_14
        have e_533 : aF σ_s_522 (ad E a 45) = F45q461 := (hM9.a (by decide) (by decide)).trans J_464_15
        have e_534 : aF σ_s_522 (ad E a 46) = F46q462 := (hM9.a (by decide) (by decide)).trans J_464_16
        obtain ⟨g_535, dg_535⟩ : ∃ g9, g9 = upd f_523 (dp).toNat (I z_521) := ⟨_, rfl⟩
        rw [← dg_535] at ha9
        have ef_536 := ha9
        refine lv_aload_n hx hb dX11_tellListRows_98 rfl (lv_at hl 0 rfl) ?_
        refine lv_iconst (v := I 1) hx hb dX11_tellListRows_99 (by decide) ?_
        refine lv_iload hx hb dX11_tellListRows_100 (lv_at hl 5 rfl) ?_
        refine lv_iconst (v := I 1) hx hb dX11_tellListRows_102 (by decide) ?_
        refine lv_iadd hx hb dX11_tellListRows_103 ?_
        refine nq_top (I_add _ _) ?_
        refine lv_aload_n hx hb dX11_tellListRows_104 rfl (lv_at hl 1 rfl) ?_
        refine lv_iconst (v := I (-1)) hx hb dX11_tellListRows_105 (by decide) ?_
        refine lv_aload_n hx hb dX11_tellListRows_106 rfl (lv_at hl 3 rfl) ?_
        refine lv_aload_n hx hb dX11_tellListRows_107 rfl (lv_at hl 3 rfl) ?_
        refine lv_iload hx hb dX11_tellListRows_108 (lv_at hl 4 rfl) ?_
        refine lv_iload hx hb dX11_tellListRows_110 (lv_at hl 8 rfl) ?_
        refine th_calli (va_runS (As := [.ref (ad E a 1), .int (I j), .int (I v8q463)]) (rest := [.ref (ad E a 1), .int (I (-1)), .ref (ad E a 61), .int (I (dp + 1)), .int (I 1), .ref a]) ⟨hx, hb, hml, hown, hts⟩ (w_nth l G y b0 σ_s_522 E hO (ad E a 1) 240 f1 (hO.roww h_a k13_1 isA1 e_526 rfl) j (show rng j from rj) (by omega) (by omega) v8q463 (show rng v8q463 from rv8q463) (by first | exact hy0.1.1 | exact (hy0.1.1).sub (by omega) (by omega) | exact hy1.1.1 | exact (hy1.1.1).sub (by omega) (by omega) | exact hTa.1 | exact (hTa.1).sub (by omega) (by omega) | exact hTb.1 | exact (hTb.1).sub (by omega) (by omega)) (by omega) (by omega) (by omega) (jin.mk1 (by omega) hw_4.1 (by omega))) (va_cwS 3 hts gX11_tellListRows_X11_nth rfl rfl rfl (by decide +kernel) ⟨(by first | (simp only [headSpec]; omega) | omega | (dsimp only; omega)), (by first | (simp only [headSpec]; omega) | omega | (dsimp only; omega))⟩) (th_PS hK hH) rfl rfl hl.1 rfl (lv_room (Nat.le_of_ble_eq_true rfl)) dX11_tellListRows_112 ⟨(by first | (simp only [headSpec]; omega) | omega | (dsimp only; omega)), (by first | (simp only [headSpec]; omega) | omega | (dsimp only; omega))⟩) hS (fun z_539 σ_s_538 H locs rz_539 hw_537 hH hS => ?_)
        obtain ⟨e9, hw_537⟩ := hw_537
        replace e9 := e9.symm
        subst e9
        have hw_537 : chn f1 (j + 1) v8q463 z_539 ∧ kid f1 j z_539 := hw_537
        have hb21 := hw_537.2.1
        have hb22 := hw_537.2.2.1
        have hb23 := hTb.1 z_539 (by omega) (by omega)
        have hat := J_464_6.at (by omega) hw_537.1
        obtain ⟨_, hc_540⟩ := hO.cell h_a (by decide) (ci := 11) rfl
        refine th_callv (va_runV (As := [.int (I 1), .int (I (dp + 1)), .ref (ad E a 61), .int (I (-1)), .ref (ad E a 1), .int (I z_539)]) (rest := []) ⟨hx, hb, hml, hown, hts⟩ (m_rowC l G y b0 σ_s_522 E hO a h_a 1 (show rng 1 from (show rng 1 from ⟨by decide, by decide⟩)) (by omega) (by omega) (dp + 1) (show rng (dp + 1) from ⟨by omega, by omega⟩) (by omega) (by omega) (-1) (show rng (-1) from (show rng (-1) from ⟨by decide, by decide⟩)) (by omega) (by omega) z_539 (show rng z_539 from rz_539) (by omega) (by omega) w f1 e_526 f61 e_527 F39q456 e_528 F40q457 e_529 F42q458 e_530 F43q459 e_531 F44q460 e_532 F45q461 e_533 F46q462 e_534 (by omega) (by omega) (J_464_3) (by omega) (by omega) ((hy1.1.sub (by omega) (by omega))) (by omega)) (cwV 6 hts gX11_tellListRows_X11_addRow rfl rfl rfl (by decide +kernel) ⟨(by first | (simp only [headSpec]; omega) | omega | (dsimp only; omega)), (by first | (simp only [headSpec]; omega) | omega | (dsimp only; omega))⟩) (th_PV hK hH rfl hc_540) rfl rfl hl.1 rfl (lv_room (Nat.le_of_ble_eq_true rfl)) dX11_tellListRows_115 ⟨(by first | (simp only [headSpec]; omega) | omega | (dsimp only; omega)), (by first | (simp only [headSpec]; omega) | omega | (dsimp only; omega))⟩) hS (fun σ_s_542 H locs hw_541 hH hS => ?_)
        obtain ⟨hO9, hF9, hM9, hw_541⟩ := hw_541
        replace hM := hM.tu hM9 (by decide)
        replace hF := hF.tu hF9 (by decide)
        have e_543 : gI σ_s_542 a 48 = a480 := (hM9.i (by decide)).trans e_525
        have e_544 : aF σ_s_542 (ad E a 1) = f1 := (hM9.a (by decide) (by decide)).trans e_526
        have e_545 : aF σ_s_542 (ad E a 61) = f61 := (hM9.a (by decide) (by decide)).trans e_527
        have e_546 : aF σ_s_542 (ad E a 47) = g_535 := (hM9.a (by decide) (by decide)).trans ef_536
        replace hO := hO9
        generalize ef_548 : aF σ_s_542 (ad E a 39) = g_547 at hw_541
        generalize ef_550 : aF σ_s_542 (ad E a 40) = g_549 at hw_541
        generalize ef_552 : aF σ_s_542 (ad E a 42) = g_551 at hw_541
        generalize ef_554 : aF σ_s_542 (ad E a 43) = g_553 at hw_541
        generalize ef_556 : aF σ_s_542 (ad E a 44) = g_555 at hw_541
        generalize ef_558 : aF σ_s_542 (ad E a 45) = g_557 at hw_541
        generalize ef_560 : aF σ_s_542 (ad E a 46) = g_559 at hw_541
        have hw_541 : rws w g_547 g_549 g_551 g_553 g_555 ((F45q461 w.toNat).toInt + 1) ((F46q462 w.toNat).toInt + mS f1 z_539) ∧ (g_557 w.toNat).toInt = (F45q461 w.toNat).toInt + 1 ∧ (g_559 w.toNat).toInt = (F46q462 w.toNat).toInt + mS f1 z_539 ∧ hall w F39q456 F40q457 F42q458 F43q459 F44q460 F45q461 F46q462 g_547 g_549 g_551 g_553 g_555 g_557 g_559 := hw_541
        refine lv_iinc (v := I (v8q463 + 1)) (lv' := [(8, .int (I (v8q463 + 1))), (0, .ref a), (1, .ref (ad E a 61)), (2, .int (I i)), (3, .ref (ad E a 1)), (4, .int (I j)), (5, .int (I dp)), (6, .int (I z_3)), (7, .int (I z_6))]) hx hb dX11_tellListRows_118 hl (k := 8) rfl (I_add _ _) (by decide) rfl (fun ls hl => ?_)
        refine lv_goto (tgt := 79) hx hb dX11_tellListRows_121 (by decide) ?_
        exact ihJ_464 (v8q463 + 1, g_547, g_549, g_551, g_553, g_555, g_557, g_559) σ_s_542 _ _ _ (by first | (dsimp only; omega) | omega) ⟨hO, hF, hM, hH, hS, lv_sub hl [1, 2, 3, 4, 5, 6, 7, 8, 0] rfl, ⟨by first | (dsimp only; omega) | omega, by first | (dsimp only; omega) | omega⟩, by first | (dsimp only; omega) | omega, by first | (dsimp only; omega) | omega, by first | (dsimp only; omega) | omega, (by have h9 := hw_541.1; have h8 := hw_541.2.1; have h7 := hw_541.2.2.1; rw [h8, h7]; exact h9), by first | (dsimp only; omega) | omega, (J_464_5.tr hw_541.2.2.2), (J_464_6.step (by omega) hw_537.1 (by omega) (by first | (dsimp only; omega) | omega) (by first | (dsimp only; omega) | omega)), e_543, e_544, e_545, ef_548, ef_550, ef_552, ef_554, ef_556, ef_558, ef_560⟩
    · replace c_455 := mt (I_le (a := z_6) (b := v8q129) rz_6 rv8q129).mpr c_455
      refine lv_aload_n hx hb dX11_tellListRows_32 rfl (lv_at hl 0 rfl) ?_
      refine ok.getR hO h_a (by decide) k13_47 (by decide) (fun _ _ he hv kk => th_get (ci := 11) (C := RX11) (T := TX11) (N := 66) hx hb hts inX11 hown hK hH he rfl 47 (by decide) fl0 hv dX11_tellListRows_33 kk) ?_
      refine lv_iload hx hb dX11_tellListRows_36 (lv_at hl 5 rfl) ?_
      refine lv_iload hx hb dX11_tellListRows_38 (lv_at hl 8 rfl) ?_
      refine th_calli (va_runS (As := [.int (I v8q129)]) (rest := [.int (I dp), .ref (ad E a 47)]) ⟨hx, hb, hml, hown, hts⟩ (w_stepOf l G y b0 σ_J_130 E hO v8q129 (show rng v8q129 from rv8q129) (by omega) (by omega)) (va_cwS 1 hts gX11_tellListRows_X11_stepOf rfl rfl rfl (by decide +kernel) ⟨(by first | (simp only [headSpec]; omega) | omega | (dsimp only; omega)), (by first | (simp only [headSpec]; omega) | omega | (dsimp only; omega))⟩) (th_PS hK hH) rfl rfl hl.1 rfl (lv_room (Nat.le_of_ble_eq_true rfl)) dX11_tellListRows_40 ⟨(by first | (simp only [headSpec]; omega) | omega | (dsimp only; omega)), (by first | (simp only [headSpec]; omega) | omega | (dsimp only; omega))⟩) hS (fun z_563 σ_s_562 H locs rz_563 hw_561 hH hS => ?_)
      obtain ⟨e9, hw_561⟩ := hw_561
      replace e9 := e9.symm
      subst e9
      obtain ⟨f_565, ef_566⟩ : ∃ f9, aF σ_J_130 (ad E a 47) = f9 := ⟨_, rfl⟩
      refine m_iast hx hb hK hH hS h00 hO h_a k13_47 isA1 (by decide) ef_566 rdp (by omega) (by omega) rz_563 el1 dX11_tellListRows_43 (fun σ_s_564 H locs hO hF9 hM9 ha9 hH hS => ?_)
      replace hM := hM.tu hM9 (by decide)
      replace hF := hF.tu hF9 (by decide)
      have e_567 : gI σ_s_564 a 48 = a480 := (hM9.i (by decide)).trans J_130_8
      have e_568 : aF σ_s_564 (ad E a 1) = f1 := (hM9.a (by decide) (by decide)).trans J_130_9
      have e_569 : aF σ_s_564 (ad E a 61) = f61 := (hM9.a (by decide) (by decide)).trans J_130_10
      have e_570 : aF σ_s_564 (ad E a 39) = F39q122 := (hM9.a (by decide) (by decide)).trans J_130_11
      have e_571 : aF σ_s_564 (ad E a 40) = F40q123 := (hM9.a (by decide) (by decide)).trans J_130_12
      have e_572 : aF σ_s_564 (ad E a 42) = F42q124 := (hM9.a (by decide) (by decide)).trans J_130_13
      have e_573 : aF σ_s_564 (ad E a 43) = F43q125 := (hM9.a (by decide) (by decide)).trans J_130_14
      have e_574 : aF σ_s_564 (ad E a 44) = F44q126 := (hM9.a (by decide) (by decide)).trans J_130_15
      have e_575 : aF σ_s_564 (ad E a 45) = F45q127 := (hM9.a (by decide) (by decide)).trans J_130_16
      have e_576 : aF σ_s_564 (ad E a 46) = F46q128 := (hM9.a (by decide) (by decide)).trans J_130_17
      obtain ⟨g_577, dg_577⟩ : ∃ g9, g9 = upd f_565 (dp).toNat (I z_563) := ⟨_, rfl⟩
      rw [← dg_577] at ha9
      have ef_578 := ha9
      refine lv_aload_n hx hb dX11_tellListRows_44 rfl (lv_at hl 0 rfl) ?_
      refine lv_aload_n hx hb dX11_tellListRows_45 rfl (lv_at hl 1 rfl) ?_
      refine lv_aload_n hx hb dX11_tellListRows_46 rfl (lv_at hl 1 rfl) ?_
      refine lv_iload_n hx hb dX11_tellListRows_47 rfl (lv_at hl 2 rfl) ?_
      refine lv_iload hx hb dX11_tellListRows_48 (lv_at hl 8 rfl) ?_
      refine th_calli (va_runS (As := [.ref (ad E a 61), .int (I i), .int (I v8q129)]) (rest := [.ref (ad E a 61), .ref a]) ⟨hx, hb, hml, hown, hts⟩ (w_nth l G y b0 σ_s_564 E hO (ad E a 61) 240 f61 (hO.roww h_a k13_61 isA1 e_569 rfl) i (show rng i from ri) (by omega) (by omega) v8q129 (show rng v8q129 from rv8q129) (by first | exact hy0.1.1 | exact (hy0.1.1).sub (by omega) (by omega) | exact hy1.1.1 | exact (hy1.1.1).sub (by omega) (by omega) | exact hTa.1 | exact (hTa.1).sub (by omega) (by omega) | exact hTb.1 | exact (hTb.1).sub (by omega) (by omega)) (by omega) (by omega) (by omega) (jin.mk1 (by omega) hw_1.1 (by omega))) (va_cwS 3 hts gX11_tellListRows_X11_nth rfl rfl rfl (by decide +kernel) ⟨(by first | (simp only [headSpec]; omega) | omega | (dsimp only; omega)), (by first | (simp only [headSpec]; omega) | omega | (dsimp only; omega))⟩) (th_PS hK hH) rfl rfl hl.1 rfl (lv_room (Nat.le_of_ble_eq_true rfl)) dX11_tellListRows_50 ⟨(by first | (simp only [headSpec]; omega) | omega | (dsimp only; omega)), (by first | (simp only [headSpec]; omega) | omega | (dsimp only; omega))⟩) hS (fun z_581 σ_s_580 H locs rz_581 hw_579 hH hS => ?_)
      obtain ⟨e9, hw_579⟩ := hw_579
      replace e9 := e9.symm
      subst e9
      have hw_579 : chn f61 (i + 1) v8q129 z_581 ∧ kid f61 i z_581 := hw_579
      have ha11 := hw_579.2.1
      have ha12 := hw_579.2.2.1
      have ha13 := hTa.1 z_581 (by omega) (by omega)
      refine lv_aload_n hx hb dX11_tellListRows_53 rfl (lv_at hl 3 rfl) ?_
      refine lv_aload_n hx hb dX11_tellListRows_54 rfl (lv_at hl 3 rfl) ?_
      refine lv_iload hx hb dX11_tellListRows_55 (lv_at hl 4 rfl) ?_
      refine lv_iload hx hb dX11_tellListRows_57 (lv_at hl 8 rfl) ?_
      refine th_calli (va_runS (As := [.ref (ad E a 1), .int (I j), .int (I v8q129)]) (rest := [.ref (ad E a 1), .int (I z_581), .ref (ad E a 61), .ref a]) ⟨hx, hb, hml, hown, hts⟩ (w_nth l G y b0 σ_s_564 E hO (ad E a 1) 240 f1 (hO.roww h_a k13_1 isA1 e_568 rfl) j (show rng j from rj) (by omega) (by omega) v8q129 (show rng v8q129 from rv8q129) (by first | exact hy0.1.1 | exact (hy0.1.1).sub (by omega) (by omega) | exact hy1.1.1 | exact (hy1.1.1).sub (by omega) (by omega) | exact hTa.1 | exact (hTa.1).sub (by omega) (by omega) | exact hTb.1 | exact (hTb.1).sub (by omega) (by omega)) (by omega) (by omega) (by omega) (jin.mk1 (by omega) hw_4.1 (by omega))) (va_cwS 3 hts gX11_tellListRows_X11_nth rfl rfl rfl (by decide +kernel) ⟨(by first | (simp only [headSpec]; omega) | omega | (dsimp only; omega)), (by first | (simp only [headSpec]; omega) | omega | (dsimp only; omega))⟩) (th_PS hK hH) rfl rfl hl.1 rfl (lv_room (Nat.le_of_ble_eq_true rfl)) dX11_tellListRows_59 ⟨(by first | (simp only [headSpec]; omega) | omega | (dsimp only; omega)), (by first | (simp only [headSpec]; omega) | omega | (dsimp only; omega))⟩) hS (fun z_584 σ_s_583 H locs rz_584 hw_582 hH hS => ?_)
      obtain ⟨e9, hw_582⟩ := hw_582
      replace e9 := e9.symm
      subst e9
      have hw_582 : chn f1 (j + 1) v8q129 z_584 ∧ kid f1 j z_584 := hw_582
      have hb11 := hw_582.2.1
      have hb12 := hw_582.2.2.1
      have hb13 := hTb.1 z_584 (by omega) (by omega)
      refine lv_iload hx hb dX11_tellListRows_62 (lv_at hl 5 rfl) ?_
      refine lv_iconst (v := I 1) hx hb dX11_tellListRows_64 (by decide) ?_
      refine lv_iadd hx hb dX11_tellListRows_65 ?_
      refine nq_top (I_add _ _) ?_
      have hat := J_130_6.at hw_579.1 hw_582.1
      have hcn := cn_kid (f := f61) (b := mS f61 0) hy0.1.1 (i := i) (j := z_581) (by omega) (by omega) (by omega) (by omega)
      have htr := hy0.at (p := z_581) (by omega) (by omega)
      obtain ⟨_, hc_585⟩ := hO.cell h_a (by decide) (ci := 11) rfl
      refine th_callv (va_runV (As := [.ref (ad E a 61), .int (I z_581), .ref (ad E a 1), .int (I z_584), .int (I (dp + 1))]) (rest := []) ⟨hx, hb, hml, hown, hts⟩ (ih l G y b0 σ_s_564 E hO a h_a z_581 (show rng z_581 from rz_581) (by omega) (by omega) z_584 (show rng z_584 from rz_584) (by omega) (by omega) (dp + 1) (show rng (dp + 1) from ⟨by omega, by omega⟩) (by omega) (by omega) w f1 e_568 f61 e_569 F39q122 e_570 F40q123 e_571 F42q124 e_572 F43q125 e_573 F44q126 e_574 F45q127 e_575 F46q128 e_576 (hy0) (hy1) (by omega) (by omega) ((by omega)) (by omega) (by omega) (J_130_3) (by omega) (by omega) (by omega)) (cwV 5 hts gX11_tellListRows_X11_tellRows rfl rfl rfl (by decide +kernel) ⟨(by first | (simp only [headSpec]; omega) | omega | (dsimp only; omega)), (by first | (simp only [headSpec]; omega) | omega | (dsimp only; omega))⟩) (th_PV hK hH rfl hc_585) rfl rfl hl.1 rfl (lv_room (Nat.le_of_ble_eq_true rfl)) dX11_tellListRows_66 ⟨(by first | (simp only [headSpec]; omega) | omega | (dsimp only; omega)), (by first | (simp only [headSpec]; omega) | omega | (dsimp only; omega))⟩) hS (fun σ_s_587 H locs hw_586 hH hS => ?_)
      obtain ⟨hO9, hF9, hM9, hw_586⟩ := hw_586
      replace hM := hM.tu hM9 (by decide)
      replace hF := hF.tu hF9 (by decide)
      have e_588 : gI σ_s_587 a 48 = a480 := (hM9.i (by decide)).trans e_567
      have e_589 : aF σ_s_587 (ad E a 1) = f1 := (hM9.a (by decide) (by decide)).trans e_568
      have e_590 : aF σ_s_587 (ad E a 61) = f61 := (hM9.a (by decide) (by decide)).trans e_569
      replace hO := hO9
      generalize ef_592 : aF σ_s_587 (ad E a 39) = g_591 at hw_586
      generalize ef_594 : aF σ_s_587 (ad E a 40) = g_593 at hw_586
      generalize ef_596 : aF σ_s_587 (ad E a 42) = g_595 at hw_586
      generalize ef_598 : aF σ_s_587 (ad E a 43) = g_597 at hw_586
      generalize ef_600 : aF σ_s_587 (ad E a 44) = g_599 at hw_586
      generalize ef_602 : aF σ_s_587 (ad E a 45) = g_601 at hw_586
      generalize ef_604 : aF σ_s_587 (ad E a 46) = g_603 at hw_586
      have hw_586 : rws w g_591 g_593 g_595 g_597 g_599 (g_601 w.toNat).toInt (g_603 w.toNat).toInt ∧ 0 ≤ (g_601 w.toNat).toInt ∧ (g_601 w.toNat).toInt ≤ (F45q127 w.toNat).toInt + (mS f61 z_581 + mS f1 z_584) ∧ 0 ≤ (g_603 w.toNat).toInt ∧ (g_603 w.toNat).toInt ≤ (F46q128 w.toNat).toInt + (mS f61 z_581 + mS f1 z_584) ∧ hall w F39q122 F40q123 F42q124 F43q125 F44q126 F45q127 F46q128 g_591 g_593 g_595 g_597 g_599 g_601 g_603 := hw_586
      refine lv_iinc (v := I (v8q129 + 1)) (lv' := [(8, .int (I (v8q129 + 1))), (0, .ref a), (1, .ref (ad E a 61)), (2, .int (I i)), (3, .ref (ad E a 1)), (4, .int (I j)), (5, .int (I dp)), (6, .int (I z_3)), (7, .int (I z_6))]) hx hb dX11_tellListRows_69 hl (k := 8) rfl (I_add _ _) (by decide) rfl (fun ls hl => ?_)
      refine lv_goto (tgt := 18) hx hb dX11_tellListRows_72 (by decide) ?_
      exact ihJ_130 (v8q129 + 1, g_591, g_593, g_595, g_597, g_599, g_601, g_603) σ_s_587 _ _ _ (by first | (dsimp only; omega) | omega) ⟨hO, hF, hM, hH, hS, lv_sub hl [1, 2, 3, 4, 5, 6, 7, 8, 0] rfl, ⟨by first | (dsimp only; omega) | omega, by first | (dsimp only; omega) | omega⟩, by first | (dsimp only; omega) | omega, by first | (dsimp only; omega) | omega, by first | (dsimp only; omega) | omega, hw_586.1, by first | (dsimp only; omega) | omega, (J_130_5.tr hw_586.2.2.2.2.2), (J_130_6.step hw_579.1 hw_582.1 (by omega) (by omega) (by first | (dsimp only; omega) | omega) (by first | (dsimp only; omega) | omega)), by first | (dsimp only; omega) | omega, e_588, e_589, e_590, ef_592, ef_594, ef_596, ef_598, ef_600, ef_602, ef_604⟩
