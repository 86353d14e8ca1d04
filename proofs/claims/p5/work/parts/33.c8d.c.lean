set_option maxHeartbeats 4000000 in
set_option maxRecDepth 100000 in
theorem m_tellRows (n : Nat) : ∀ (l : Launch) (G : va_G) (y : Nat → ClassId) (b0 : Nat) (σ : th_M) (E : th_E) (hO : ok y E σ) (a : Nat) (h_a : kd E a = 13) (i : Int) (ri : rng i) (l_i : 0 ≤ i) (u_i : i ≤ 59) (j : Int) (rj : rng j) (l_j : 0 ≤ j) (u_j : j ≤ 59) (dp : Int) (rdp : rng dp) (l_dp : 0 ≤ dp) (u_dp : dp ≤ 7) (w : Int) (f1 : Nat → Int32) (ef1 : aF σ (ad E a 1) = f1) (f61 : Nat → Int32) (ef61 : aF σ (ad E a 61) = f61) (f39 : Nat → Int32) (ef39 : aF σ (ad E a 39) = f39) (f40 : Nat → Int32) (ef40 : aF σ (ad E a 40) = f40) (f42 : Nat → Int32) (ef42 : aF σ (ad E a 42) = f42) (f43 : Nat → Int32) (ef43 : aF σ (ad E a 43) = f43) (f44 : Nat → Int32) (ef44 : aF σ (ad E a 44) = f44) (f45 : Nat → Int32) (ef45 : aF σ (ad E a 45) = f45) (f46 : Nat → Int32) (ef46 : aF σ (ad E a 46) = f46) (hy0 : tr f61) (hy1 : tr f1) (hy2 : 0 ≤ i ∧ i < mS f61 0) (hy3 : 0 ≤ j ∧ j < mS f1 0) (hy4 : dp ≤ cn f61 i i.toNat) (hy5 : gI σ a 48 = w) (hy6 : 0 ≤ w ∧ w ≤ 1) (hy7 : rws w f39 f40 f42 f43 f44 (f45 w.toNat).toInt (f46 w.toNat).toInt) (hy8 : 0 ≤ (f45 w.toNat).toInt ∧ (f45 w.toNat).toInt + (mS f61 i + mS f1 j) ≤ 130) (hy9 : 0 ≤ (f46 w.toNat).toInt ∧ (f46 w.toNat).toInt + (mS f61 i + mS f1 j) ≤ 150) (hn : (mS f61 i).toNat < n), Met l yX11_tellRows wsX11_tellRows ({ frames := 4*n+140, cells := 0, slots := 0, locals := (160*n+4200) }) (th_P G y b0 σ [.ref a, .ref (ad E a 61), .int (I i), .ref (ad E a 1), .int (I j), .int (I dp)]) (th_Qv G b0 (fun σ1 => ok y E σ1 ∧ fr [13] E σ σ1 ∧ fm [39, 40, 41, 42, 43, 44, 45, 46, 47] E σ σ1 a ∧ (rws w (aF σ1 (ad E a 39)) (aF σ1 (ad E a 40)) (aF σ1 (ad E a 42)) (aF σ1 (ad E a 43)) (aF σ1 (ad E a 44)) ((aF σ1 (ad E a 45)) w.toNat).toInt ((aF σ1 (ad E a 46)) w.toNat).toInt ∧ 0 ≤ ((aF σ1 (ad E a 45)) w.toNat).toInt ∧ ((aF σ1 (ad E a 45)) w.toNat).toInt ≤ (f45 w.toNat).toInt + (mS f61 i + mS f1 j) ∧ 0 ≤ ((aF σ1 (ad E a 46)) w.toNat).toInt ∧ ((aF σ1 (ad E a 46)) w.toNat).toInt ≤ (f46 w.toNat).toInt + (mS f61 i + mS f1 j) ∧ hall w f39 f40 f42 f43 f44 f45 f46 (aF σ1 (ad E a 39)) (aF σ1 (ad E a 40)) (aF σ1 (ad E a 42)) (aF σ1 (ad E a 43)) (aF σ1 (ad E a 44)) (aF σ1 (ad E a 45)) (aF σ1 (ad E a 46))))) 0 0 (th_A b0) := by
  induction n with
  | zero => intro l G y b0 σ E hO a h_a i ri l_i u_i j rj l_j u_j dp rdp l_dp u_dp w f1 ef1 f61 ef61 f39 ef39 f40 ef40 f42 ef42 f43 ef43 f44 ef44 f45 ef45 f46 ef46 hy0 hy1 hy2 hy3 hy4 hy5 hy6 hy7 hy8 hy9 hn; exact absurd hn (Nat.not_lt_zero _)
  | succ n ih =>
    intro l G y b0 σ E hO a h_a i ri l_i u_i j rj l_j u_j dp rdp l_dp u_dp w f1 ef1 f61 ef61 f39 ef39 f40 ef40 f42 ef42 f43 ef43 f44 ef44 f45 ef45 f46 ef46 hy0 hy1 hy2 hy3 hy4 hy5 hy6 hy7 hy8 hy9 hn
    refine Met.ofW (cc := cX11_tellRows) (maxL := 8) (ret := none) (by decide) rfl ?_
    intro p e s m args below meth c s₁ B hml hv
    obtain ⟨rfl, hH, hK⟩ := hv
    have hx := B.exec
    have hb := B.bytes
    have hr := B.returns
    have hts := atoms_spec (ws := wsX11_tellRows) B.pre
    have hown : s.vm.findClass RX11 = some m.cls := findClass_of_methodNamed B.named
    have hlocks := B.notSynchronized
    have h00 : b0 ≤ s.heap.size := hH.1
    have hS : va_S (th_A b0) s.heap s.heap [] := va_S.rf
    have hF : fr [13] E σ σ := fr.rf
    have hM : fm [39, 40, 41, 42, 43, 44, 45, 46, 47] E σ σ a := fm.rf
    have hka := hy0.1.1 i (by omega) (by omega)
    have hkb := hy1.1.1 j (by omega) (by omega)
    have hza := hy0.2.2.1
    have hzb := hy1.2.2.1
    have hTa : mT f61 i (i + mS f61 i) := hy0.1.sub (by omega) (by omega)
    have hTb : mT f1 j (j + mS f1 j) := hy1.1.sub (by omega) (by omega)
    have hda := hy0.at (p := i) (by omega) (by omega)
    have inX11 : ∀ w ∈ wsX110, w ∈ wsX11_tellRows := by decide +kernel
    have fl0 := hts (.fieldLink RX11 75 "NestQueryModel" "way" "[I") (by decide +kernel)
    have hl := lv_entry ([.ref a, .ref (ad E a 61), .int (I i), .ref (ad E a 1), .int (I j), .int (I dp)]) (n := 8) (Nat.le_of_ble_eq_true rfl)
    rw [lg_entry_eq]
    generalize (lg_sl ([.ref a, .ref (ad E a 61), .int (I i), .ref (ad E a 1), .int (I j), .int (I dp)]) ++ List.replicate (8 - (lg_sl ([.ref a, .ref (ad E a 61), .int (I i), .ref (ad E a 1), .int (I j), .int (I dp)])).length) Slot.unset).toArray = ls at hl ⊢
    have hl : lv_has ls 8 [(0, .ref a), (1, .ref (ad E a 61)), (2, .int (I i)), (3, .ref (ad E a 1)), (4, .int (I j)), (5, .int (I dp))] := hl
    obtain ⟨a480, ea480, ra480, la480, ua480⟩ := hO.gi h_a (by decide) k13_48
    refine lv_aload_n hx hb dX11_tellRows_0 rfl (lv_at hl 1 rfl) ?_
    refine lv_iload_n hx hb dX11_tellRows_1 rfl (lv_at hl 2 rfl) ?_
    refine lv_aload_n hx hb dX11_tellRows_2 rfl (lv_at hl 3 rfl) ?_
    refine lv_iload hx hb dX11_tellRows_3 (lv_at hl 4 rfl) ?_
    refine th_calli (va_runS (As := [.ref (ad E a 61), .int (I i), .ref (ad E a 1), .int (I j)]) (rest := []) ⟨hx, hb, hml, hown, hts⟩ (w_areLike 61 l G y b0 σ E hO (ad E a 61) 240 f61 (hO.roww h_a k13_61 isA1 ef61 rfl) i (show rng i from ri) (by omega) (by omega) (ad E a 1) 240 f1 (hO.roww h_a k13_1 isA1 ef1 rfl) j (show rng j from rj) (by omega) (by omega) (by first | exact hy0.1.1 | exact (hy0.1.1).sub (by omega) (by omega) | exact hy1.1.1 | exact (hy1.1.1).sub (by omega) (by omega) | exact hTa.1 | exact (hTa.1).sub (by omega) (by omega) | exact hTb.1 | exact (hTb.1).sub (by omega) (by omega)) (by omega) (by omega) (by omega) (by first | exact hy0.1.1 | exact (hy0.1.1).sub (by omega) (by omega) | exact hy1.1.1 | exact (hy1.1.1).sub (by omega) (by omega) | exact hTa.1 | exact (hTa.1).sub (by omega) (by omega) | exact hTb.1 | exact (hTb.1).sub (by omega) (by omega)) (by omega) (by omega) (by omega) (by omega)) (va_cwS 4 hts gX11_tellRows_X11_areLike rfl rfl rfl (by decide +kernel) ⟨(by first | (simp only [headSpec]; omega) | omega | (dsimp only; omega)), (by first | (simp only [headSpec]; omega) | omega | (dsimp only; omega))⟩) (th_PS hK hH) rfl rfl hl.1 rfl (lv_room (Nat.le_of_ble_eq_true rfl)) dX11_tellRows_5 ⟨(by first | (simp only [headSpec]; omega) | omega | (dsimp only; omega)), (by first | (simp only [headSpec]; omega) | omega | (dsimp only; omega))⟩) hS (fun z_3 σ_s_2 H locs rz_3 hw_1 hH hS => ?_)
    obtain ⟨e9, bhw_1, hw_1⟩ := hw_1
    replace e9 := e9.symm
    subst e9
    refine lv_if_eq (tgt := 12) hx hb dX11_tellRows_8 (by decide) (fun c_4 => ?_) (fun c_4 => ?_)
    · replace c_4 := (I_eq (a := z_3) (b := 0) rz_3 (show rng 0 from ⟨by decide, by decide⟩)).mp c_4
      refine lv_aload_n hx hb dX11_tellRows_12 rfl (lv_at hl 1 rfl) ?_
      refine lv_iload_n hx hb dX11_tellRows_13 rfl (lv_at hl 2 rfl) ?_
      refine th_calli (va_runS (As := [.ref (ad E a 61), .int (I i)]) (rest := []) ⟨hx, hb, hml, hown, hts⟩ (w_kind l G y b0 σ E hO (ad E a 61) 240 f61 (hO.roww h_a k13_61 isA1 ef61 rfl) i (show rng i from ri) (by omega) (by omega) (by omega)) (va_cwS 2 hts gX11_tellRows_X11_kind rfl rfl rfl (by decide +kernel) ⟨(by first | (simp only [headSpec]; omega) | omega | (dsimp only; omega)), (by first | (simp only [headSpec]; omega) | omega | (dsimp only; omega))⟩) (th_PS hK hH) rfl rfl hl.1 rfl (lv_room (Nat.le_of_ble_eq_true rfl)) dX11_tellRows_14 ⟨(by first | (simp only [headSpec]; omega) | omega | (dsimp only; omega)), (by first | (simp only [headSpec]; omega) | omega | (dsimp only; omega))⟩) hS (fun z_7 σ_s_6 H locs rz_7 hw_5 hH hS => ?_)
      obtain ⟨e9, hw_5⟩ := hw_5
      replace e9 := e9.symm
      subst e9
      have hw_5 : z_7 = mK f61 i := hw_5
      refine lv_iconst (v := I 3) hx hb dX11_tellRows_17 (by decide) ?_
      refine lv_icmp_ne (tgt := 213) hx hb dX11_tellRows_18 (by decide) (fun c_8 => ?_) (fun c_8 => ?_)
      · replace c_8 := mt (I_eq (a := z_7) (b := 3) rz_7 (show rng 3 from ⟨by decide, by decide⟩)).mpr c_8
        refine lv_aload_n hx hb dX11_tellRows_213 rfl (lv_at hl 1 rfl) ?_
        refine lv_iload_n hx hb dX11_tellRows_214 rfl (lv_at hl 2 rfl) ?_
        refine th_calli (va_runS (As := [.ref (ad E a 61), .int (I i)]) (rest := []) ⟨hx, hb, hml, hown, hts⟩ (w_kind l G y b0 σ E hO (ad E a 61) 240 f61 (hO.roww h_a k13_61 isA1 ef61 rfl) i (show rng i from ri) (by omega) (by omega) (by omega)) (va_cwS 2 hts gX11_tellRows_X11_kind rfl rfl rfl (by decide +kernel) ⟨(by first | (simp only [headSpec]; omega) | omega | (dsimp only; omega)), (by first | (simp only [headSpec]; omega) | omega | (dsimp only; omega))⟩) (th_PS hK hH) rfl rfl hl.1 rfl (lv_room (Nat.le_of_ble_eq_true rfl)) dX11_tellRows_215 ⟨(by first | (simp only [headSpec]; omega) | omega | (dsimp only; omega)), (by first | (simp only [headSpec]; omega) | omega | (dsimp only; omega))⟩) hS (fun z_11 σ_s_10 H locs rz_11 hw_9 hH hS => ?_)
        obtain ⟨e9, hw_9⟩ := hw_9
        replace e9 := e9.symm
        subst e9
        have hw_9 : z_11 = mK f61 i := hw_9
        refine lv_iconst (v := I 2) hx hb dX11_tellRows_218 (by decide) ?_
        refine lv_icmp_ne (tgt := 246) hx hb dX11_tellRows_219 (by decide) (fun c_12 => ?_) (fun c_12 => ?_)
        · replace c_12 := mt (I_eq (a := z_11) (b := 2) rz_11 (show rng 2 from ⟨by decide, by decide⟩)).mpr c_12
          refine lv_aload_n hx hb dX11_tellRows_246 rfl (lv_at hl 0 rfl) ?_
          refine lv_iconst (v := I 3) hx hb dX11_tellRows_247 (by decide) ?_
          refine lv_iload hx hb dX11_tellRows_248 (lv_at hl 5 rfl) ?_
          refine lv_aload_n hx hb dX11_tellRows_250 rfl (lv_at hl 1 rfl) ?_
          refine lv_iload_n hx hb dX11_tellRows_251 rfl (lv_at hl 2 rfl) ?_
          refine lv_aload_n hx hb dX11_tellRows_252 rfl (lv_at hl 3 rfl) ?_
          refine lv_iload hx hb dX11_tellRows_253 (lv_at hl 4 rfl) ?_
          obtain ⟨_, hc_13⟩ := hO.cell h_a (by decide) (ci := 11) rfl
          refine th_callv (va_runV (As := [.int (I 3), .int (I dp), .ref (ad E a 61), .int (I i), .ref (ad E a 1), .int (I j)]) (rest := []) ⟨hx, hb, hml, hown, hts⟩ (m_rowB l G y b0 σ E hO a h_a 3 (show rng 3 from (show rng 3 from ⟨by decide, by decide⟩)) (by omega) (by omega) dp (show rng dp from rdp) (by omega) (by omega) i (show rng i from ri) (by omega) (by omega) j (show rng j from rj) (by omega) (by omega) w f1 ef1 f61 ef61 f39 ef39 f40 ef40 f42 ef42 f43 ef43 f44 ef44 f45 ef45 f46 ef46 (by omega) (by omega) (hy7) (by omega) (by omega) ((hy0.1.sub (by omega) (by omega))) (by omega) ((hy1.1.sub (by omega) (by omega))) (by omega)) (cwV 6 hts gX11_tellRows_X11_addRow rfl rfl rfl (by decide +kernel) ⟨(by first | (simp only [headSpec]; omega) | omega | (dsimp only; omega)), (by first | (simp only [headSpec]; omega) | omega | (dsimp only; omega))⟩) (th_PV hK hH rfl hc_13) rfl rfl hl.1 rfl (lv_room (Nat.le_of_ble_eq_true rfl)) dX11_tellRows_255 ⟨(by first | (simp only [headSpec]; omega) | omega | (dsimp only; omega)), (by first | (simp only [headSpec]; omega) | omega | (dsimp only; omega))⟩) hS (fun σ_s_15 H locs hw_14 hH hS => ?_)
          obtain ⟨hO9, hF9, hM9, hw_14⟩ := hw_14
          replace hM := hM.tu hM9 (by decide)
          replace hF := hF.tu hF9 (by decide)
          have e_16 : aF σ_s_15 (ad E a 1) = f1 := (hM9.a (by decide) (by decide)).trans ef1
          have e_17 : aF σ_s_15 (ad E a 61) = f61 := (hM9.a (by decide) (by decide)).trans ef61
          have e_18 : gI σ_s_15 a 48 = a480 := (hM9.i (by decide)).trans ea480
          replace hO := hO9
          generalize ef_20 : aF σ_s_15 (ad E a 39) = g_19 at hw_14
          generalize ef_22 : aF σ_s_15 (ad E a 40) = g_21 at hw_14
          generalize ef_24 : aF σ_s_15 (ad E a 42) = g_23 at hw_14
          generalize ef_26 : aF σ_s_15 (ad E a 43) = g_25 at hw_14
          generalize ef_28 : aF σ_s_15 (ad E a 44) = g_27 at hw_14
          generalize ef_30 : aF σ_s_15 (ad E a 45) = g_29 at hw_14
          generalize ef_32 : aF σ_s_15 (ad E a 46) = g_31 at hw_14
          have hw_14 : rws w g_19 g_21 g_23 g_25 g_27 ((f45 w.toNat).toInt + 1) ((f46 w.toNat).toInt + (mS f61 i + mS f1 j)) ∧ (g_29 w.toNat).toInt = (f45 w.toNat).toInt + 1 ∧ (g_31 w.toNat).toInt = (f46 w.toNat).toInt + (mS f61 i + mS f1 j) ∧ hall w f39 f40 f42 f43 f44 f45 f46 g_19 g_21 g_23 g_25 g_27 g_29 g_31 := hw_14
          exact th_vret hx hb hr hlocks hH hS ⟨hO, hF, hM, by rw [show aF σ_s_15 (ad E a 39) = g_19 from ef_20, show aF σ_s_15 (ad E a 40) = g_21 from ef_22, show aF σ_s_15 (ad E a 42) = g_23 from ef_24, show aF σ_s_15 (ad E a 43) = g_25 from ef_26, show aF σ_s_15 (ad E a 44) = g_27 from ef_28, show aF σ_s_15 (ad E a 45) = g_29 from ef_30, show aF σ_s_15 (ad E a 46) = g_31 from ef_32]; have h9 := hw_14.1; have h8 := hw_14.2.1; have h7 := hw_14.2.2.1; rw [← h8, ← h7] at h9; exact ⟨h9, by omega, by omega, by omega, by omega, hw_14.2.2.2⟩⟩ dX11_tellRows_258
        · replace c_12 := (I_eq (a := z_11) (b := 2) rz_11 (show rng 2 from ⟨by decide, by decide⟩)).mp c_12
          refine lv_aload_n hx hb dX11_tellRows_222 rfl (lv_at hl 3 rfl) ?_
          refine lv_iload hx hb dX11_tellRows_223 (lv_at hl 4 rfl) ?_
          refine th_calli (va_runS (As := [.ref (ad E a 1), .int (I j)]) (rest := []) ⟨hx, hb, hml, hown, hts⟩ (w_kind l G y b0 σ E hO (ad E a 1) 240 f1 (hO.roww h_a k13_1 isA1 ef1 rfl) j (show rng j from rj) (by omega) (by omega) (by omega)) (va_cwS 2 hts gX11_tellRows_X11_kind rfl rfl rfl (by decide +kernel) ⟨(by first | (simp only [headSpec]; omega) | omega | (dsimp only; omega)), (by first | (simp only [headSpec]; omega) | omega | (dsimp only; omega))⟩) (th_PS hK hH) rfl rfl hl.1 rfl (lv_room (Nat.le_of_ble_eq_true rfl)) dX11_tellRows_225 ⟨(by first | (simp only [headSpec]; omega) | omega | (dsimp only; omega)), (by first | (simp only [headSpec]; omega) | omega | (dsimp only; omega))⟩) hS (fun z_35 σ_s_34 H locs rz_35 hw_33 hH hS => ?_)
          obtain ⟨e9, hw_33⟩ := hw_33
          replace e9 := e9.symm
          subst e9
          have hw_33 : z_35 = mK f1 j := hw_33
          refine lv_iconst (v := I 2) hx hb dX11_tellRows_228 (by decide) ?_
          refine lv_icmp_ne (tgt := 246) hx hb dX11_tellRows_229 (by decide) (fun c_36 => ?_) (fun c_36 => ?_)
          · replace c_36 := mt (I_eq (a := z_35) (b := 2) rz_35 (show rng 2 from ⟨by decide, by decide⟩)).mpr c_36
            refine lv_aload_n hx hb dX11_tellRows_246 rfl (lv_at hl 0 rfl) ?_
            refine lv_iconst (v := I 3) hx hb dX11_tellRows_247 (by decide) ?_
            refine lv_iload hx hb dX11_tellRows_248 (lv_at hl 5 rfl) ?_
            refine lv_aload_n hx hb dX11_tellRows_250 rfl (lv_at hl 1 rfl) ?_
            refine lv_iload_n hx hb dX11_tellRows_251 rfl (lv_at hl 2 rfl) ?_
            refine lv_aload_n hx hb dX11_tellRows_252 rfl (lv_at hl 3 rfl) ?_
            refine lv_iload hx hb dX11_tellRows_253 (lv_at hl 4 rfl) ?_
            obtain ⟨_, hc_37⟩ := hO.cell h_a (by decide) (ci := 11) rfl
            refine th_callv (va_runV (As := [.int (I 3), .int (I dp), .ref (ad E a 61), .int (I i), .ref (ad E a 1), .int (I j)]) (rest := []) ⟨hx, hb, hml, hown, hts⟩ (m_rowB l G y b0 σ E hO a h_a 3 (show rng 3 from (show rng 3 from ⟨by decide, by decide⟩)) (by omega) (by omega) dp (show rng dp from rdp) (by omega) (by omega) i (show rng i from ri) (by omega) (by omega) j (show rng j from rj) (by omega) (by omega) w f1 ef1 f61 ef61 f39 ef39 f40 ef40 f42 ef42 f43 ef43 f44 ef44 f45 ef45 f46 ef46 (by omega) (by omega) (hy7) (by omega) (by omega) ((hy0.1.sub (by omega) (by omega))) (by omega) ((hy1.1.sub (by omega) (by omega))) (by omega)) (cwV 6 hts gX11_tellRows_X11_addRow rfl rfl rfl (by decide +kernel) ⟨(by first | (simp only [headSpec]; omega) | omega | (dsimp only; omega)), (by first | (simp only [headSpec]; omega) | omega | (dsimp only; omega))⟩) (th_PV hK hH rfl hc_37) rfl rfl hl.1 rfl (lv_room (Nat.le_of_ble_eq_true rfl)) dX11_tellRows_255 ⟨(by first | (simp only [headSpec]; omega) | omega | (dsimp only; omega)), (by first | (simp only [headSpec]; omega) | omega | (dsimp only; omega))⟩) hS (fun σ_s_39 H locs hw_38 hH hS => ?_)
            obtain ⟨hO9, hF9, hM9, hw_38⟩ := hw_38
            replace hM := hM.tu hM9 (by decide)
            replace hF := hF.tu hF9 (by decide)
            have e_40 : aF σ_s_39 (ad E a 1) = f1 := (hM9.a (by decide) (by decide)).trans ef1
            have e_41 : aF σ_s_39 (ad E a 61) = f61 := (hM9.a (by decide) (by decide)).trans ef61
            have e_42 : gI σ_s_39 a 48 = a480 := (hM9.i (by decide)).trans ea480
            replace hO := hO9
            generalize ef_44 : aF σ_s_39 (ad E a 39) = g_43 at hw_38
            generalize ef_46 : aF σ_s_39 (ad E a 40) = g_45 at hw_38
            generalize ef_48 : aF σ_s_39 (ad E a 42) = g_47 at hw_38
            generalize ef_50 : aF σ_s_39 (ad E a 43) = g_49 at hw_38
            generalize ef_52 : aF σ_s_39 (ad E a 44) = g_51 at hw_38
            generalize ef_54 : aF σ_s_39 (ad E a 45) = g_53 at hw_38
            generalize ef_56 : aF σ_s_39 (ad E a 46) = g_55 at hw_38
            have hw_38 : rws w g_43 g_45 g_47 g_49 g_51 ((f45 w.toNat).toInt + 1) ((f46 w.toNat).toInt + (mS f61 i + mS f1 j)) ∧ (g_53 w.toNat).toInt = (f45 w.toNat).toInt + 1 ∧ (g_55 w.toNat).toInt = (f46 w.toNat).toInt + (mS f61 i + mS f1 j) ∧ hall w f39 f40 f42 f43 f44 f45 f46 g_43 g_45 g_47 g_49 g_51 g_53 g_55 := hw_38
            exact th_vret hx hb hr hlocks hH hS ⟨hO, hF, hM, by rw [show aF σ_s_39 (ad E a 39) = g_43 from ef_44, show aF σ_s_39 (ad E a 40) = g_45 from ef_46, show aF σ_s_39 (ad E a 42) = g_47 from ef_48, show aF σ_s_39 (ad E a 43) = g_49 from ef_50, show aF σ_s_39 (ad E a 44) = g_51 from ef_52, show aF σ_s_39 (ad E a 45) = g_53 from ef_54, show aF σ_s_39 (ad E a 46) = g_55 from ef_56]; have h9 := hw_38.1; have h8 := hw_38.2.1; have h7 := hw_38.2.2.1; rw [← h8, ← h7] at h9; exact ⟨h9, by omega, by omega, by omega, by omega, hw_38.2.2.2⟩⟩ dX11_tellRows_258
          · replace c_36 := (I_eq (a := z_35) (b := 2) rz_35 (show rng 2 from ⟨by decide, by decide⟩)).mp c_36
            refine lv_aload_n hx hb dX11_tellRows_232 rfl (lv_at hl 0 rfl) ?_
            refine lv_aload_n hx hb dX11_tellRows_233 rfl (lv_at hl 1 rfl) ?_
            refine lv_iload_n hx hb dX11_tellRows_234 rfl (lv_at hl 2 rfl) ?_
            refine lv_aload_n hx hb dX11_tellRows_235 rfl (lv_at hl 3 rfl) ?_
            refine lv_iload hx hb dX11_tellRows_236 (lv_at hl 4 rfl) ?_
            refine lv_iload hx hb dX11_tellRows_238 (lv_at hl 5 rfl) ?_
            obtain ⟨_, hc_57⟩ := hO.cell h_a (by decide) (ci := 11) rfl
            refine th_callv (va_runV (As := [.ref (ad E a 61), .int (I i), .ref (ad E a 1), .int (I j), .int (I dp)]) (rest := []) ⟨hx, hb, hml, hown, hts⟩ (m_tellListRows n ih l G y b0 σ E hO a h_a i (show rng i from ri) (by omega) (by omega) j (show rng j from rj) (by omega) (by omega) dp (show rng dp from rdp) (by omega) (by omega) w f1 ef1 f61 ef61 f39 ef39 f40 ef40 f42 ef42 f43 ef43 f44 ef44 f45 ef45 f46 ef46 (hy0) (hy1) (by omega) (by omega) (hy4) (by omega) (by omega) (hy7) (by omega) (by omega) (by omega)) (cwV 5 hts gX11_tellRows_X11_tellListRows rfl rfl rfl (by decide +kernel) ⟨(by first | (simp only [headSpec]; omega) | omega | (dsimp only; omega)), (by first | (simp only [headSpec]; omega) | omega | (dsimp only; omega))⟩) (th_PV hK hH rfl hc_57) rfl rfl hl.1 rfl (lv_room (Nat.le_of_ble_eq_true rfl)) dX11_tellRows_240 ⟨(by first | (simp only [headSpec]; omega) | omega | (dsimp only; omega)), (by first | (simp only [headSpec]; omega) | omega | (dsimp only; omega))⟩) hS (fun σ_s_59 H locs hw_58 hH hS => ?_)
            obtain ⟨hO9, hF9, hM9, hw_58⟩ := hw_58
            replace hM := hM.tu hM9 (by decide)
            replace hF := hF.tu hF9 (by decide)
            have e_60 : aF σ_s_59 (ad E a 1) = f1 := (hM9.a (by decide) (by decide)).trans ef1
            have e_61 : aF σ_s_59 (ad E a 61) = f61 := (hM9.a (by decide) (by decide)).trans ef61
            have e_62 : gI σ_s_59 a 48 = a480 := (hM9.i (by decide)).trans ea480
            replace hO := hO9
            generalize ef_64 : aF σ_s_59 (ad E a 39) = g_63 at hw_58
            generalize ef_66 : aF σ_s_59 (ad E a 40) = g_65 at hw_58
            generalize ef_68 : aF σ_s_59 (ad E a 42) = g_67 at hw_58
            generalize ef_70 : aF σ_s_59 (ad E a 43) = g_69 at hw_58
            generalize ef_72 : aF σ_s_59 (ad E a 44) = g_71 at hw_58
            generalize ef_74 : aF σ_s_59 (ad E a 45) = g_73 at hw_58
            generalize ef_76 : aF σ_s_59 (ad E a 46) = g_75 at hw_58
            have hw_58 : rws w g_63 g_65 g_67 g_69 g_71 (g_73 w.toNat).toInt (g_75 w.toNat).toInt ∧ 0 ≤ (g_73 w.toNat).toInt ∧ (g_73 w.toNat).toInt ≤ (f45 w.toNat).toInt + (mS f61 i + mS f1 j) ∧ 0 ≤ (g_75 w.toNat).toInt ∧ (g_75 w.toNat).toInt ≤ (f46 w.toNat).toInt + (mS f61 i + mS f1 j) ∧ hall w f39 f40 f42 f43 f44 f45 f46 g_63 g_65 g_67 g_69 g_71 g_73 g_75 := hw_58
            refine lv_goto (tgt := 258) hx hb dX11_tellRows_243 (by decide) ?_
            exact th_vret hx hb hr hlocks hH hS ⟨hO, hF, hM, by rw [show aF σ_s_59 (ad E a 39) = g_63 from ef_64, show aF σ_s_59 (ad E a 40) = g_65 from ef_66, show aF σ_s_59 (ad E a 42) = g_67 from ef_68, show aF σ_s_59 (ad E a 43) = g_69 from ef_70, show aF σ_s_59 (ad E a 44) = g_71 from ef_72, show aF σ_s_59 (ad E a 45) = g_73 from ef_74, show aF σ_s_59 (ad E a 46) = g_75 from ef_76]; exact hw_58⟩ dX11_tellRows_258
      · replace c_8 := (I_eq (a := z_7) (b := 3) rz_7 (show rng 3 from ⟨by decide, by decide⟩)).mp c_8
        refine lv_aload_n hx hb dX11_tellRows_21 rfl (lv_at hl 3 rfl) ?_
        refine lv_iload hx hb dX11_tellRows_22 (lv_at hl 4 rfl) ?_
        refine th_calli (va_runS (As := [.ref (ad E a 1), .int (I j)]) (rest := []) ⟨hx, hb, hml, hown, hts⟩ (w_kind l G y b0 σ E hO (ad E a 1) 240 f1 (hO.roww h_a k13_1 isA1 ef1 rfl) j (show rng j from rj) (by omega) (by omega) (by omega)) (va_cwS 2 hts gX11_tellRows_X11_kind rfl rfl rfl (by decide +kernel) ⟨(by first | (simp only [headSpec]; omega) | omega | (dsimp only; omega)), (by first | (simp only [headSpec]; omega) | omega | (dsimp only; omega))⟩) (th_PS hK hH) rfl rfl hl.1 rfl (lv_room (Nat.le_of_ble_eq_true rfl)) dX11_tellRows_24 ⟨(by first | (simp only [headSpec]; omega) | omega | (dsimp only; omega)), (by first | (simp only [headSpec]; omega) | omega | (dsimp only; omega))⟩) hS (fun z_79 σ_s_78 H locs rz_79 hw_77 hH hS => ?_)
        obtain ⟨e9, hw_77⟩ := hw_77
        replace e9 := e9.symm
        subst e9
        have hw_77 : z_79 = mK f1 j := hw_77
        refine lv_iconst (v := I 3) hx hb dX11_tellRows_27 (by decide) ?_
        refine lv_icmp_ne (tgt := 213) hx hb dX11_tellRows_28 (by decide) (fun c_80 => ?_) (fun c_80 => ?_)
        · replace c_80 := mt (I_eq (a := z_79) (b := 3) rz_79 (show rng 3 from ⟨by decide, by decide⟩)).mpr c_80
          refine lv_aload_n hx hb dX11_tellRows_213 rfl (lv_at hl 1 rfl) ?_
          refine lv_iload_n hx hb dX11_tellRows_214 rfl (lv_at hl 2 rfl) ?_
          refine th_calli (va_runS (As := [.ref (ad E a 61), .int (I i)]) (rest := []) ⟨hx, hb, hml, hown, hts⟩ (w_kind l G y b0 σ E hO (ad E a 61) 240 f61 (hO.roww h_a k13_61 isA1 ef61 rfl) i (show rng i from ri) (by omega) (by omega) (by omega)) (va_cwS 2 hts gX11_tellRows_X11_kind rfl rfl rfl (by decide +kernel) ⟨(by first | (simp only [headSpec]; omega) | omega | (dsimp only; omega)), (by first | (simp only [headSpec]; omega) | omega | (dsimp only; omega))⟩) (th_PS hK hH) rfl rfl hl.1 rfl (lv_room (Nat.le_of_ble_eq_true rfl)) dX11_tellRows_215 ⟨(by first | (simp only [headSpec]; omega) | omega | (dsimp only; omega)), (by first | (simp only [headSpec]; omega) | omega | (dsimp only; omega))⟩) hS (fun z_83 σ_s_82 H locs rz_83 hw_81 hH hS => ?_)
          obtain ⟨e9, hw_81⟩ := hw_81
          replace e9 := e9.symm
          subst e9
          have hw_81 : z_83 = mK f61 i := hw_81
          refine lv_iconst (v := I 2) hx hb dX11_tellRows_218 (by decide) ?_
          refine lv_icmp_ne (tgt := 246) hx hb dX11_tellRows_219 (by decide) (fun c_84 => ?_) (fun c_84 => ?_)
          · replace c_84 := mt (I_eq (a := z_83) (b := 2) rz_83 (show rng 2 from ⟨by decide, by decide⟩)).mpr c_84
            refine lv_aload_n hx hb dX11_tellRows_246 rfl (lv_at hl 0 rfl) ?_
            refine lv_iconst (v := I 3) hx hb dX11_tellRows_247 (by decide) ?_
            refine lv_iload hx hb dX11_tellRows_248 (lv_at hl 5 rfl) ?_
            refine lv_aload_n hx hb dX11_tellRows_250 rfl (lv_at hl 1 rfl) ?_
            refine lv_iload_n hx hb dX11_tellRows_251 rfl (lv_at hl 2 rfl) ?_
            refine lv_aload_n hx hb dX11_tellRows_252 rfl (lv_at hl 3 rfl) ?_
            refine lv_iload hx hb dX11_tellRows_253 (lv_at hl 4 rfl) ?_
            obtain ⟨_, hc_85⟩ := hO.cell h_a (by decide) (ci := 11) rfl
            refine th_callv (va_runV (As := [.int (I 3), .int (I dp), .ref (ad E a 61), .int (I i), .ref (ad E a 1), .int (I j)]) (rest := []) ⟨hx, hb, hml, hown, hts⟩ (m_rowB l G y b0 σ E hO a h_a 3 (show rng 3 from (show rng 3 from ⟨by decide, by decide⟩)) (by omega) (by omega) dp (show rng dp from rdp) (by omega) (by omega) i (show rng i from ri) (by omega) (by omega) j (show rng j from rj) (by omega) (by omega) w f1 ef1 f61 ef61 f39 ef39 f40 ef40 f42 ef42 f43 ef43 f44 ef44 f45 ef45 f46 ef46 (by omega) (by omega) (hy7) (by omega) (by omega) ((hy0.1.sub (by omega) (by omega))) (by omega) ((hy1.1.sub (by omega) (by omega))) (by omega)) (cwV 6 hts gX11_tellRows_X11_addRow rfl rfl rfl (by decide +kernel) ⟨(by first | (simp only [headSpec]; omega) | omega | (dsimp only; omega)), (by first | (simp only [headSpec]; omega) | omega | (dsimp only; omega))⟩) (th_PV hK hH rfl hc_85) rfl rfl hl.1 rfl (lv_room (Nat.le_of_ble_eq_true rfl)) dX11_tellRows_255 ⟨(by first | (simp only [headSpec]; omega) | omega | (dsimp only; omega)), (by first | (simp only [headSpec]; omega) | omega | (dsimp only; omega))⟩) hS (fun σ_s_87 H locs hw_86 hH hS => ?_)
            obtain ⟨hO9, hF9, hM9, hw_86⟩ := hw_86
            replace hM := hM.tu hM9 (by decide)
            replace hF := hF.tu hF9 (by decide)
            have e_88 : aF σ_s_87 (ad E a 1) = f1 := (hM9.a (by decide) (by decide)).trans ef1
            have e_89 : aF σ_s_87 (ad E a 61) = f61 := (hM9.a (by decide) (by decide)).trans ef61
            have e_90 : gI σ_s_87 a 48 = a480 := (hM9.i (by decide)).trans ea480
            replace hO := hO9
            generalize ef_92 : aF σ_s_87 (ad E a 39) = g_91 at hw_86
            generalize ef_94 : aF σ_s_87 (ad E a 40) = g_93 at hw_86
            generalize ef_96 : aF σ_s_87 (ad E a 42) = g_95 at hw_86
            generalize ef_98 : aF σ_s_87 (ad E a 43) = g_97 at hw_86
            generalize ef_100 : aF σ_s_87 (ad E a 44) = g_99 at hw_86
            generalize ef_102 : aF σ_s_87 (ad E a 45) = g_101 at hw_86
            generalize ef_104 : aF σ_s_87 (ad E a 46) = g_103 at hw_86
            have hw_86 : rws w g_91 g_93 g_95 g_97 g_99 ((f45 w.toNat).toInt + 1) ((f46 w.toNat).toInt + (mS f61 i + mS f1 j)) ∧ (g_101 w.toNat).toInt = (f45 w.toNat).toInt + 1 ∧ (g_103 w.toNat).toInt = (f46 w.toNat).toInt + (mS f61 i + mS f1 j) ∧ hall w f39 f40 f42 f43 f44 f45 f46 g_91 g_93 g_95 g_97 g_99 g_101 g_103 := hw_86
            exact th_vret hx hb hr hlocks hH hS ⟨hO, hF, hM, by rw [show aF σ_s_87 (ad E a 39) = g_91 from ef_92, show aF σ_s_87 (ad E a 40) = g_93 from ef_94, show aF σ_s_87 (ad E a 42) = g_95 from ef_96, show aF σ_s_87 (ad E a 43) = g_97 from ef_98, show aF σ_s_87 (ad E a 44) = g_99 from ef_100, show aF σ_s_87 (ad E a 45) = g_101 from ef_102, show aF σ_s_87 (ad E a 46) = g_103 from ef_104]; have h9 := hw_86.1; have h8 := hw_86.2.1; have h7 := hw_86.2.2.1; rw [← h8, ← h7] at h9; exact ⟨h9, by omega, by omega, by omega, by omega, hw_86.2.2.2⟩⟩ dX11_tellRows_258
          · replace c_84 := (I_eq (a := z_83) (b := 2) rz_83 (show rng 2 from ⟨by decide, by decide⟩)).mp c_84
            refine lv_aload_n hx hb dX11_tellRows_222 rfl (lv_at hl 3 rfl) ?_
            refine lv_iload hx hb dX11_tellRows_223 (lv_at hl 4 rfl) ?_
            refine th_calli (va_runS (As := [.ref (ad E a 1), .int (I j)]) (rest := []) ⟨hx, hb, hml, hown, hts⟩ (w_kind l G y b0 σ E hO (ad E a 1) 240 f1 (hO.roww h_a k13_1 isA1 ef1 rfl) j (show rng j from rj) (by omega) (by omega) (by omega)) (va_cwS 2 hts gX11_tellRows_X11_kind rfl rfl rfl (by decide +kernel) ⟨(by first | (simp only [headSpec]; omega) | omega | (dsimp only; omega)), (by first | (simp only [headSpec]; omega) | omega | (dsimp only; omega))⟩) (th_PS hK hH) rfl rfl hl.1 rfl (lv_room (Nat.le_of_ble_eq_true rfl)) dX11_tellRows_225 ⟨(by first | (simp only [headSpec]; omega) | omega | (dsimp only; omega)), (by first | (simp only [headSpec]; omega) | omega | (dsimp only; omega))⟩) hS (fun z_107 σ_s_106 H locs rz_107 hw_105 hH hS => ?_)
            obtain ⟨e9, hw_105⟩ := hw_105
            replace e9 := e9.symm
            subst e9
            have hw_105 : z_107 = mK f1 j := hw_105
            refine lv_iconst (v := I 2) hx hb dX11_tellRows_228 (by decide) ?_
            refine lv_icmp_ne (tgt := 246) hx hb dX11_tellRows_229 (by decide) (fun c_108 => ?_) (fun c_108 => ?_)
            · replace c_108 := mt (I_eq (a := z_107) (b := 2) rz_107 (show rng 2 from ⟨by decide, by decide⟩)).mpr c_108
              refine lv_aload_n hx hb dX11_tellRows_246 rfl (lv_at hl 0 rfl) ?_
              refine lv_iconst (v := I 3) hx hb dX11_tellRows_247 (by decide) ?_
              refine lv_iload hx hb dX11_tellRows_248 (lv_at hl 5 rfl) ?_
              refine lv_aload_n hx hb dX11_tellRows_250 rfl (lv_at hl 1 rfl) ?_
              refine lv_iload_n hx hb dX11_tellRows_251 rfl (lv_at hl 2 rfl) ?_
              refine lv_aload_n hx hb dX11_tellRows_252 rfl (lv_at hl 3 rfl) ?_
              refine lv_iload hx hb dX11_tellRows_253 (lv_at hl 4 rfl) ?_
              obtain ⟨_, hc_109⟩ := hO.cell h_a (by decide) (ci := 11) rfl
              refine th_callv (va_runV (As := [.int (I 3), .int (I dp), .ref (ad E a 61), .int (I i), .ref (ad E a 1), .int (I j)]) (rest := []) ⟨hx, hb, hml, hown, hts⟩ (m_rowB l G y b0 σ E hO a h_a 3 (show rng 3 from (show rng 3 from ⟨by decide, by decide⟩)) (by omega) (by omega) dp (show rng dp from rdp) (by omega) (by omega) i (show rng i from ri) (by omega) (by omega) j (show rng j from rj) (by omega) (by omega) w f1 ef1 f61 ef61 f39 ef39 f40 ef40 f42 ef42 f43 ef43 f44 ef44 f45 ef45 f46 ef46 (by omega) (by omega) (hy7) (by omega) (by omega) ((hy0.1.sub (by omega) (by omega))) (by omega) ((hy1.1.sub (by omega) (by omega))) (by omega)) (cwV 6 hts gX11_tellRows_X11_addRow rfl rfl rfl (by decide +kernel) ⟨(by first | (simp only [headSpec]; omega) | omega | (dsimp only; omega)), (by first | (simp only [headSpec]; omega) | omega | (dsimp only; omega))⟩) (th_PV hK hH rfl hc_109) rfl rfl hl.1 rfl (lv_room (Nat.le_of_ble_eq_true rfl)) dX11_tellRows_255 ⟨(by first | (simp only [headSpec]; omega) | omega | (dsimp only; omega)), (by first | (simp only [headSpec]; omega) | omega | (dsimp only; omega))⟩) hS (fun σ_s_111 H locs hw_110 hH hS => ?_)
              obtain ⟨hO9, hF9, hM9, hw_110⟩ := hw_110
              replace hM := hM.tu hM9 (by decide)
              replace hF := hF.tu hF9 (by decide)
              have e_112 : aF σ_s_111 (ad E a 1) = f1 := (hM9.a (by decide) (by decide)).trans ef1
              have e_113 : aF σ_s_111 (ad E a 61) = f61 := (hM9.a (by decide) (by decide)).trans ef61
              have e_114 : gI σ_s_111 a 48 = a480 := (hM9.i (by decide)).trans ea480
              replace hO := hO9
              generalize ef_116 : aF σ_s_111 (ad E a 39) = g_115 at hw_110
              generalize ef_118 : aF σ_s_111 (ad E a 40) = g_117 at hw_110
              generalize ef_120 : aF σ_s_111 (ad E a 42) = g_119 at hw_110
              generalize ef_122 : aF σ_s_111 (ad E a 43) = g_121 at hw_110
              generalize ef_124 : aF σ_s_111 (ad E a 44) = g_123 at hw_110
              generalize ef_126 : aF σ_s_111 (ad E a 45) = g_125 at hw_110
              generalize ef_128 : aF σ_s_111 (ad E a 46) = g_127 at hw_110
              have hw_110 : rws w g_115 g_117 g_119 g_121 g_123 ((f45 w.toNat).toInt + 1) ((f46 w.toNat).toInt + (mS f61 i + mS f1 j)) ∧ (g_125 w.toNat).toInt = (f45 w.toNat).toInt + 1 ∧ (g_127 w.toNat).toInt = (f46 w.toNat).toInt + (mS f61 i + mS f1 j) ∧ hall w f39 f40 f42 f43 f44 f45 f46 g_115 g_117 g_119 g_121 g_123 g_125 g_127 := hw_110
              exact th_vret hx hb hr hlocks hH hS ⟨hO, hF, hM, by rw [show aF σ_s_111 (ad E a 39) = g_115 from ef_116, show aF σ_s_111 (ad E a 40) = g_117 from ef_118, show aF σ_s_111 (ad E a 42) = g_119 from ef_120, show aF σ_s_111 (ad E a 43) = g_121 from ef_122, show aF σ_s_111 (ad E a 44) = g_123 from ef_124, show aF σ_s_111 (ad E a 45) = g_125 from ef_126, show aF σ_s_111 (ad E a 46) = g_127 from ef_128]; have h9 := hw_110.1; have h8 := hw_110.2.1; have h7 := hw_110.2.2.1; rw [← h8, ← h7] at h9; exact ⟨h9, by omega, by omega, by omega, by omega, hw_110.2.2.2⟩⟩ dX11_tellRows_258
            · replace c_108 := (I_eq (a := z_107) (b := 2) rz_107 (show rng 2 from ⟨by decide, by decide⟩)).mp c_108
              refine lv_aload_n hx hb dX11_tellRows_232 rfl (lv_at hl 0 rfl) ?_
              refine lv_aload_n hx hb dX11_tellRows_233 rfl (lv_at hl 1 rfl) ?_
              refine lv_iload_n hx hb dX11_tellRows_234 rfl (lv_at hl 2 rfl) ?_
              refine lv_aload_n hx hb dX11_tellRows_235 rfl (lv_at hl 3 rfl) ?_
              refine lv_iload hx hb dX11_tellRows_236 (lv_at hl 4 rfl) ?_
              refine lv_iload hx hb dX11_tellRows_238 (lv_at hl 5 rfl) ?_
              obtain ⟨_, hc_129⟩ := hO.cell h_a (by decide) (ci := 11) rfl
              refine th_callv (va_runV (As := [.ref (ad E a 61), .int (I i), .ref (ad E a 1), .int (I j), .int (I dp)]) (rest := []) ⟨hx, hb, hml, hown, hts⟩ (m_tellListRows n ih l G y b0 σ E hO a h_a i (show rng i from ri) (by omega) (by omega) j (show rng j from rj) (by omega) (by omega) dp (show rng dp from rdp) (by omega) (by omega) w f1 ef1 f61 ef61 f39 ef39 f40 ef40 f42 ef42 f43 ef43 f44 ef44 f45 ef45 f46 ef46 (hy0) (hy1) (by omega) (by omega) (hy4) (by omega) (by omega) (hy7) (by omega) (by omega) (by omega)) (cwV 5 hts gX11_tellRows_X11_tellListRows rfl rfl rfl (by decide +kernel) ⟨(by first | (simp only [headSpec]; omega) | omega | (dsimp only; omega)), (by first | (simp only [headSpec]; omega) | omega | (dsimp only; omega))⟩) (th_PV hK hH rfl hc_129) rfl rfl hl.1 rfl (lv_room (Nat.le_of_ble_eq_true rfl)) dX11_tellRows_240 ⟨(by first | (simp only [headSpec]; omega) | omega | (dsimp only; omega)), (by first | (simp only [headSpec]; omega) | omega | (dsimp only; omega))⟩) hS (fun σ_s_131 H locs hw_130 hH hS => ?_)
              obtain ⟨hO9, hF9, hM9, hw_130⟩ := hw_130
              replace hM := hM.tu hM9 (by decide)
              replace hF := hF.tu hF9 (by decide)
              have e_132 : aF σ_s_131 (ad E a 1) = f1 := (hM9.a (by decide) (by decide)).trans ef1
              have e_133 : aF σ_s_131 (ad E a 61) = f61 := (hM9.a (by decide) (by decide)).trans ef61
              have e_134 : gI σ_s_131 a 48 = a480 := (hM9.i (by decide)).trans ea480
              replace hO := hO9
              generalize ef_136 : aF σ_s_131 (ad E a 39) = g_135 at hw_130
              generalize ef_138 : aF σ_s_131 (ad E a 40) = g_137 at hw_130
              generalize ef_140 : aF σ_s_131 (ad E a 42) = g_139 at hw_130
              generalize ef_142 : aF σ_s_131 (ad E a 43) = g_141 at hw_130
              generalize ef_144 : aF σ_s_131 (ad E a 44) = g_143 at hw_130
              generalize ef_146 : aF σ_s_131 (ad E a 45) = g_145 at hw_130
              generalize ef_148 : aF σ_s_131 (ad E a 46) = g_147 at hw_130
              have hw_130 : rws w g_135 g_137 g_139 g_141 g_143 (g_145 w.toNat).toInt (g_147 w.toNat).toInt ∧ 0 ≤ (g_145 w.toNat).toInt ∧ (g_145 w.toNat).toInt ≤ (f45 w.toNat).toInt + (mS f61 i + mS f1 j) ∧ 0 ≤ (g_147 w.toNat).toInt ∧ (g_147 w.toNat).toInt ≤ (f46 w.toNat).toInt + (mS f61 i + mS f1 j) ∧ hall w f39 f40 f42 f43 f44 f45 f46 g_135 g_137 g_139 g_141 g_143 g_145 g_147 := hw_130
              refine lv_goto (tgt := 258) hx hb dX11_tellRows_243 (by decide) ?_
              exact th_vret hx hb hr hlocks hH hS ⟨hO, hF, hM, by rw [show aF σ_s_131 (ad E a 39) = g_135 from ef_136, show aF σ_s_131 (ad E a 40) = g_137 from ef_138, show aF σ_s_131 (ad E a 42) = g_139 from ef_140, show aF σ_s_131 (ad E a 43) = g_141 from ef_142, show aF σ_s_131 (ad E a 44) = g_143 from ef_144, show aF σ_s_131 (ad E a 45) = g_145 from ef_146, show aF σ_s_131 (ad E a 46) = g_147 from ef_148]; exact hw_130⟩ dX11_tellRows_258
        · replace c_80 := (I_eq (a := z_79) (b := 3) rz_79 (show rng 3 from ⟨by decide, by decide⟩)).mp c_80
          refine lv_iload_n hx hb dX11_tellRows_31 rfl (lv_at hl 2 rfl) ?_
          refine lv_iconst (v := I 1) hx hb dX11_tellRows_32 (by decide) ?_
          refine lv_iadd hx hb dX11_tellRows_33 ?_
          refine nq_top (I_add _ _) ?_
          refine lv_istore (lv' := [(6, .int (I (i + 1))), (0, .ref a), (1, .ref (ad E a 61)), (2, .int (I i)), (3, .ref (ad E a 1)), (4, .int (I j)), (5, .int (I dp))]) hx hb dX11_tellRows_34 hl (by decide) rfl (fun ls hl => ?_)
          refine th_loop (α := Int × (Nat → Int32) × (Nat → Int32) × (Nat → Int32) × (Nat → Int32) × (Nat → Int32) × (Nat → Int32) × (Nat → Int32)) (pc := 36) (fun x9 => (i + mS f61 i - x9.1).toNat) (fun x9 σ9 H9 l9 ls9 => ok y E σ9 ∧ fr [13] E σ σ9 ∧ fm [39, 40, 41, 42, 43, 44, 45, 46, 47] E σ σ9 a ∧ th_H G b0 σ9 H9 ∧ va_S (th_A b0) s.heap H9 l9 ∧ lv_has ls9 8 [(0, .ref a), (1, .ref (ad E a 61)), (2, .int (I i)), (3, .ref (ad E a 1)), (4, .int (I j)), (5, .int (I dp)), (6, .int (I x9.1))] ∧ rng x9.1 ∧ (i + 1 ≤ x9.1) ∧ (x9.1 ≤ i + mS f61 i) ∧ (0 ≤ x9.1) ∧ (x9.1 ≤ 60) ∧ (rws w x9.2.1 x9.2.2.1 x9.2.2.2.1 x9.2.2.2.2.1 x9.2.2.2.2.2.1 (x9.2.2.2.2.2.2.1 w.toNat).toInt (x9.2.2.2.2.2.2.2 w.toNat).toInt) ∧ (0 ≤ (x9.2.2.2.2.2.2.1 w.toNat).toInt ∧ 0 ≤ (x9.2.2.2.2.2.2.2 w.toNat).toInt) ∧ (hall w f39 f40 f42 f43 f44 f45 f46 x9.2.1 x9.2.2.1 x9.2.2.2.1 x9.2.2.2.2.1 x9.2.2.2.2.2.1 x9.2.2.2.2.2.2.1 x9.2.2.2.2.2.2.2) ∧ (bm1 f61 f1 i j x9.1 (f45 w.toNat).toInt (x9.2.2.2.2.2.2.1 w.toNat).toInt (f46 w.toNat).toInt (x9.2.2.2.2.2.2.2 w.toNat).toInt) ∧ (gI σ9 a 48 = a480) ∧ (aF σ9 (ad E a 1) = f1) ∧ (aF σ9 (ad E a 61) = f61) ∧ (aF σ9 (ad E a 39) = x9.2.1) ∧ (aF σ9 (ad E a 40) = x9.2.2.1) ∧ (aF σ9 (ad E a 42) = x9.2.2.2.1) ∧ (aF σ9 (ad E a 43) = x9.2.2.2.2.1) ∧ (aF σ9 (ad E a 44) = x9.2.2.2.2.2.1) ∧ (aF σ9 (ad E a 45) = x9.2.2.2.2.2.2.1) ∧ (aF σ9 (ad E a 46) = x9.2.2.2.2.2.2.2)) ?_ (i + 1, f39, f40, f42, f43, f44, f45, f46) σ _ _ _ ⟨hO, hF, hM, hH, hS, lv_sub hl [1, 2, 3, 4, 5, 6, 0] rfl, ⟨by first | (dsimp only; omega) | omega, by first | (dsimp only; omega) | omega⟩, by first | (dsimp only; omega) | omega, by first | (dsimp only; omega) | omega, by first | (dsimp only; omega) | omega, by first | (dsimp only; omega) | omega, hy7, by first | (dsimp only; omega) | omega, hall.rf, (bm1.zero hTb.1 (by omega) (by first | (dsimp only; omega) | omega) (by first | (dsimp only; omega) | omega) (by first | (dsimp only; omega) | omega)), ea480, ef1, ef61, ef39, ef40, ef42, ef43, ef44, ef45, ef46⟩
          intro x9 σ_J_348 H locs ls hI9 ihJ_348
          obtain ⟨v6q347, F39q340, F40q341, F42q342, F43q343, F44q344, F45q345, F46q346⟩ := x9
          obtain ⟨hO, hF, hM, hH, hS, hl, rv6q347, J_348_0, J_348_1, J_348_2, J_348_3, J_348_4, J_348_5, J_348_6, J_348_7, J_348_8, J_348_9, J_348_10, J_348_11, J_348_12, J_348_13, J_348_14, J_348_15, J_348_16, J_348_17⟩ := hI9
          have hl : lv_has ls 8 [(0, .ref a), (1, .ref (ad E a 61)), (2, .int (I i)), (3, .ref (ad E a 1)), (4, .int (I j)), (5, .int (I dp)), (6, .int (I v6q347))] := hl
          have rv6q347 : rng v6q347 := rv6q347
          have J_348_0 : i + 1 ≤ v6q347 := J_348_0
          have J_348_1 : v6q347 ≤ i + mS f61 i := J_348_1
          have J_348_2 : 0 ≤ v6q347 := J_348_2
          have J_348_3 : v6q347 ≤ 60 := J_348_3
          have J_348_4 : rws w F39q340 F40q341 F42q342 F43q343 F44q344 (F45q345 w.toNat).toInt (F46q346 w.toNat).toInt := J_348_4
          have J_348_5 : 0 ≤ (F45q345 w.toNat).toInt ∧ 0 ≤ (F46q346 w.toNat).toInt := J_348_5
          have J_348_6 : hall w f39 f40 f42 f43 f44 f45 f46 F39q340 F40q341 F42q342 F43q343 F44q344 F45q345 F46q346 := J_348_6
          have J_348_7 : bm1 f61 f1 i j v6q347 (f45 w.toNat).toInt (F45q345 w.toNat).toInt (f46 w.toNat).toInt (F46q346 w.toNat).toInt := J_348_7
          have J_348_8 : gI σ_J_348 a 48 = a480 := J_348_8
          have J_348_9 : aF σ_J_348 (ad E a 1) = f1 := J_348_9
          have J_348_10 : aF σ_J_348 (ad E a 61) = f61 := J_348_10
          have J_348_11 : aF σ_J_348 (ad E a 39) = F39q340 := J_348_11
          have J_348_12 : aF σ_J_348 (ad E a 40) = F40q341 := J_348_12
          have J_348_13 : aF σ_J_348 (ad E a 42) = F42q342 := J_348_13
          have J_348_14 : aF σ_J_348 (ad E a 43) = F43q343 := J_348_14
          have J_348_15 : aF σ_J_348 (ad E a 44) = F44q344 := J_348_15
          have J_348_16 : aF σ_J_348 (ad E a 45) = F45q345 := J_348_16
          have J_348_17 : aF σ_J_348 (ad E a 46) = F46q346 := J_348_17
          refine lv_iload hx hb dX11_tellRows_36 (lv_at hl 6 rfl) ?_
          refine lv_iload_n hx hb dX11_tellRows_38 rfl (lv_at hl 2 rfl) ?_
          refine lv_aload_n hx hb dX11_tellRows_39 rfl (lv_at hl 1 rfl) ?_
          refine lv_iload_n hx hb dX11_tellRows_40 rfl (lv_at hl 2 rfl) ?_
          refine th_calli (va_runS (As := [.ref (ad E a 61), .int (I i)]) (rest := [.int (I i), .int (I v6q347)]) ⟨hx, hb, hml, hown, hts⟩ (w_size l G y b0 σ_J_348 E hO (ad E a 61) 240 f61 (hO.roww h_a k13_61 isA1 J_348_10 rfl) i (show rng i from ri) (by omega) (by omega) (by omega)) (va_cwS 2 hts gX11_tellRows_X11_size rfl rfl rfl (by decide +kernel) ⟨(by first | (simp only [headSpec]; omega) | omega | (dsimp only; omega)), (by first | (simp only [headSpec]; omega) | omega | (dsimp only; omega))⟩) (th_PS hK hH) rfl rfl hl.1 rfl (lv_room (Nat.le_of_ble_eq_true rfl)) dX11_tellRows_41 ⟨(by first | (simp only [headSpec]; omega) | omega | (dsimp only; omega)), (by first | (simp only [headSpec]; omega) | omega | (dsimp only; omega))⟩) hS (fun z_351 σ_s_350 H locs rz_351 hw_349 hH hS => ?_)
          obtain ⟨e9, hw_349⟩ := hw_349
          replace e9 := e9.symm
          subst e9
          have hw_349 : z_351 = mS f61 i := hw_349
          refine lv_iadd hx hb dX11_tellRows_44 ?_
          refine th_addo (fun z_352 rz_352 hz_352 => ?_)
          refine lv_icmp_ge (tgt := 130) hx hb dX11_tellRows_45 (by decide) (fun c_353 => ?_) (fun c_353 => ?_)
          · replace c_353 := (I_le (a := z_352) (b := v6q347) rz_352 rv6q347).mp c_353
            refine lv_iload hx hb dX11_tellRows_130 (lv_at hl 4 rfl) ?_
            refine lv_iconst (v := I 1) hx hb dX11_tellRows_132 (by decide) ?_
            refine lv_iadd hx hb dX11_tellRows_133 ?_
            refine nq_top (I_add _ _) ?_
            refine lv_istore (lv' := [(6, .int (I (j + 1))), (0, .ref a), (1, .ref (ad E a 61)), (2, .int (I i)), (3, .ref (ad E a 1)), (4, .int (I j)), (5, .int (I dp))]) hx hb dX11_tellRows_134 hl (by decide) rfl (fun ls hl => ?_)
            refine th_loop (α := Int × (Nat → Int32) × (Nat → Int32) × (Nat → Int32) × (Nat → Int32) × (Nat → Int32) × (Nat → Int32) × (Nat → Int32)) (pc := 136) (fun x9 => (j + mS f1 j - x9.1).toNat) (fun x9 σ9 H9 l9 ls9 => ok y E σ9 ∧ fr [13] E σ σ9 ∧ fm [39, 40, 41, 42, 43, 44, 45, 46, 47] E σ σ9 a ∧ th_H G b0 σ9 H9 ∧ va_S (th_A b0) s.heap H9 l9 ∧ lv_has ls9 8 [(0, .ref a), (1, .ref (ad E a 61)), (2, .int (I i)), (3, .ref (ad E a 1)), (4, .int (I j)), (5, .int (I dp)), (6, .int (I x9.1))] ∧ rng x9.1 ∧ (j + 1 ≤ x9.1) ∧ (x9.1 ≤ j + mS f1 j) ∧ (0 ≤ x9.1) ∧ (x9.1 ≤ 60) ∧ (rws w x9.2.1 x9.2.2.1 x9.2.2.2.1 x9.2.2.2.2.1 x9.2.2.2.2.2.1 (x9.2.2.2.2.2.2.1 w.toNat).toInt (x9.2.2.2.2.2.2.2 w.toNat).toInt) ∧ (0 ≤ (x9.2.2.2.2.2.2.1 w.toNat).toInt ∧ 0 ≤ (x9.2.2.2.2.2.2.2 w.toNat).toInt) ∧ (hall w f39 f40 f42 f43 f44 f45 f46 x9.2.1 x9.2.2.1 x9.2.2.2.1 x9.2.2.2.2.1 x9.2.2.2.2.2.1 x9.2.2.2.2.2.2.1 x9.2.2.2.2.2.2.2) ∧ (bm2 f61 f1 i j x9.1 (f45 w.toNat).toInt (x9.2.2.2.2.2.2.1 w.toNat).toInt (f46 w.toNat).toInt (x9.2.2.2.2.2.2.2 w.toNat).toInt) ∧ (gI σ9 a 48 = a480) ∧ (aF σ9 (ad E a 1) = f1) ∧ (aF σ9 (ad E a 61) = f61) ∧ (aF σ9 (ad E a 39) = x9.2.1) ∧ (aF σ9 (ad E a 40) = x9.2.2.1) ∧ (aF σ9 (ad E a 42) = x9.2.2.2.1) ∧ (aF σ9 (ad E a 43) = x9.2.2.2.2.1) ∧ (aF σ9 (ad E a 44) = x9.2.2.2.2.2.1) ∧ (aF σ9 (ad E a 45) = x9.2.2.2.2.2.2.1) ∧ (aF σ9 (ad E a 46) = x9.2.2.2.2.2.2.2)) ?_ (j + 1, F39q340, F40q341, F42q342, F43q343, F44q344, F45q345, F46q346) σ_J_348 _ _ _ ⟨hO, hF, hM, hH, hS, lv_sub hl [1, 2, 3, 4, 5, 6, 0] rfl, ⟨by first | (dsimp only; omega) | omega, by first | (dsimp only; omega) | omega⟩, by first | (dsimp only; omega) | omega, by first | (dsimp only; omega) | omega, by first | (dsimp only; omega) | omega, by first | (dsimp only; omega) | omega, J_348_4, by first | (dsimp only; omega) | omega, J_348_6, (bm2.zero J_348_7 (by first | (dsimp only; omega) | omega) (by first | (dsimp only; omega) | omega)), J_348_8, J_348_9, J_348_10, J_348_11, J_348_12, J_348_13, J_348_14, J_348_15, J_348_16, J_348_17⟩
            intro x9 σ_J_497 H locs ls hI9 ihJ_497
            obtain ⟨v6q496, F39q489, F40q490, F42q491, F43q492, F44q493, F45q494, F46q495⟩ := x9
            obtain ⟨hO, hF, hM, hH, hS, hl, rv6q496, J_497_0, J_497_1, J_497_2, J_497_3, J_497_4, J_497_5, J_497_6, J_497_7, J_497_8, J_497_9, J_497_10, J_497_11, J_497_12, J_497_13, J_497_14, J_497_15, J_497_16, J_497_17⟩ := hI9
            have hl : lv_has ls 8 [(0, .ref a), (1, .ref (ad E a 61)), (2, .int (I i)), (3, .ref (ad E a 1)), (4, .int (I j)), (5, .int (I dp)), (6, .int (I v6q496))] := hl
            have rv6q496 : rng v6q496 := rv6q496
            have J_497_0 : j + 1 ≤ v6q496 := J_497_0
            have J_497_1 : v6q496 ≤ j + mS f1 j := J_497_1
            have J_497_2 : 0 ≤ v6q496 := J_497_2
            have J_497_3 : v6q496 ≤ 60 := J_497_3
            have J_497_4 : rws w F39q489 F40q490 F42q491 F43q492 F44q493 (F45q494 w.toNat).toInt (F46q495 w.toNat).toInt := J_497_4
            have J_497_5 : 0 ≤ (F45q494 w.toNat).toInt ∧ 0 ≤ (F46q495 w.toNat).toInt := J_497_5
            have J_497_6 : hall w f39 f40 f42 f43 f44 f45 f46 F39q489 F40q490 F42q491 F43q492 F44q493 F45q494 F46q495 := J_497_6
            have J_497_7 : bm2 f61 f1 i j v6q496 (f45 w.toNat).toInt (F45q494 w.toNat).toInt (f46 w.toNat).toInt (F46q495 w.toNat).toInt := J_497_7
            have J_497_8 : gI σ_J_497 a 48 = a480 := J_497_8
            have J_497_9 : aF σ_J_497 (ad E a 1) = f1 := J_497_9
            have J_497_10 : aF σ_J_497 (ad E a 61) = f61 := J_497_10
            have J_497_11 : aF σ_J_497 (ad E a 39) = F39q489 := J_497_11
            have J_497_12 : aF σ_J_497 (ad E a 40) = F40q490 := J_497_12
            have J_497_13 : aF σ_J_497 (ad E a 42) = F42q491 := J_497_13
            have J_497_14 : aF σ_J_497 (ad E a 43) = F43q492 := J_497_14
            have J_497_15 : aF σ_J_497 (ad E a 44) = F44q493 := J_497_15
            have J_497_16 : aF σ_J_497 (ad E a 45) = F45q494 := J_497_16
            have J_497_17 : aF σ_J_497 (ad E a 46) = F46q495 := J_497_17
            refine lv_iload hx hb dX11_tellRows_136 (lv_at hl 6 rfl) ?_
            refine lv_iload hx hb dX11_tellRows_138 (lv_at hl 4 rfl) ?_
            refine lv_aload_n hx hb dX11_tellRows_140 rfl (lv_at hl 3 rfl) ?_
            refine lv_iload hx hb dX11_tellRows_141 (lv_at hl 4 rfl) ?_
            refine th_calli (va_runS (As := [.ref (ad E a 1), .int (I j)]) (rest := [.int (I j), .int (I v6q496)]) ⟨hx, hb, hml, hown, hts⟩ (w_size l G y b0 σ_J_497 E hO (ad E a 1) 240 f1 (hO.roww h_a k13_1 isA1 J_497_9 rfl) j (show rng j from rj) (by omega) (by omega) (by omega)) (va_cwS 2 hts gX11_tellRows_X11_size rfl rfl rfl (by decide +kernel) ⟨(by first | (simp only [headSpec]; omega) | omega | (dsimp only; omega)), (by first | (simp only [headSpec]; omega) | omega | (dsimp only; omega))⟩) (th_PS hK hH) rfl rfl hl.1 rfl (lv_room (Nat.le_of_ble_eq_true rfl)) dX11_tellRows_143 ⟨(by first | (simp only [headSpec]; omega) | omega | (dsimp only; omega)), (by first | (simp only [headSpec]; omega) | omega | (dsimp only; omega))⟩) hS (fun z_500 σ_s_499 H locs rz_500 hw_498 hH hS => ?_)
            obtain ⟨e9, hw_498⟩ := hw_498
            replace e9 := e9.symm
            subst e9
            have hw_498 : z_500 = mS f1 j := hw_498
            refine lv_iadd hx hb dX11_tellRows_146 ?_
            refine th_addo (fun z_501 rz_501 hz_501 => ?_)
            refine lv_icmp_ge (tgt := 210) hx hb dX11_tellRows_147 (by decide) (fun c_502 => ?_) (fun c_502 => ?_)
            · replace c_502 := (I_le (a := z_501) (b := v6q496) rz_501 rv6q496).mp c_502
              refine lv_goto (tgt := 258) hx hb dX11_tellRows_210 (by decide) ?_
              exact th_vret hx hb hr hlocks hH hS ⟨hO, hF, hM, by rw [show aF σ_J_497 (ad E a 39) = F39q489 from J_497_11, show aF σ_J_497 (ad E a 40) = F40q490 from J_497_12, show aF σ_J_497 (ad E a 42) = F42q491 from J_497_13, show aF σ_J_497 (ad E a 43) = F43q492 from J_497_14, show aF σ_J_497 (ad E a 44) = F44q493 from J_497_15, show aF σ_J_497 (ad E a 45) = F45q494 from J_497_16, show aF σ_J_497 (ad E a 46) = F46q495 from J_497_17]; have hq9 := J_497_7.room hTb.1 (by omega) (by omega); exact ⟨J_497_4, by omega, by omega, by omega, by omega, J_497_6⟩⟩ dX11_tellRows_258
            · replace c_502 := mt (I_le (a := z_501) (b := v6q496) rz_501 rv6q496).mpr c_502
              have hk6 := hTb.1 v6q496 (by omega) (by omega)
              refine lv_aload_n hx hb dX11_tellRows_150 rfl (lv_at hl 0 rfl) ?_
              refine ok.getR hO h_a (by decide) k13_47 (by decide) (fun _ _ he hv kk => th_get (ci := 11) (C := RX11) (T := TX11) (N := 66) hx hb hts inX11 hown hK hH he rfl 47 (by decide) fl0 hv dX11_tellRows_151 kk) ?_
              refine lv_iload hx hb dX11_tellRows_154 (lv_at hl 5 rfl) ?_
              refine lv_aload_n hx hb dX11_tellRows_156 rfl (lv_at hl 3 rfl) ?_
              refine lv_iconst (v := I 4) hx hb dX11_tellRows_157 (by decide) ?_
              refine lv_iload hx hb dX11_tellRows_158 (lv_at hl 6 rfl) ?_
              refine lv_imul hx hb dX11_tellRows_160 ?_
              refine nq_top (I_mul _ _) ?_
              refine lv_iconst (v := I 2) hx hb dX11_tellRows_161 (by decide) ?_
              refine lv_iadd hx hb dX11_tellRows_162 ?_
              refine nq_top (I_add _ _) ?_
              refine m_iald hx hb hK hH hO h_a k13_1 isA1 J_497_9 ⟨by omega, by omega⟩ (by omega) (by omega) dX11_tellRows_163 (fun z_503 ez_503 rz_503 elx9 => ?_)
              obtain ⟨f_505, ef_506⟩ : ∃ f9, aF σ_J_497 (ad E a 47) = f9 := ⟨_, rfl⟩
              refine m_iast hx hb hK hH hS h00 hO h_a k13_47 isA1 (by decide) ef_506 rdp (by omega) (by omega) rz_503 el1 dX11_tellRows_164 (fun σ_s_504 H locs hO hF9 hM9 ha9 hH hS => ?_)
              replace hM := hM.tu hM9 (by decide)
              replace hF := hF.tu hF9 (by decide)
              have e_507 : gI σ_s_504 a 48 = a480 := (hM9.i (by decide)).trans J_497_8
              have e_508 : aF σ_s_504 (ad E a 1) = f1 := (hM9.a (by decide) (by decide)).trans J_497_9
              have e_509 : aF σ_s_504 (ad E a 61) = f61 := (hM9.a (by decide) (by decide)).trans J_497_10
              have e_510 : aF σ_s_504 (ad E a 39) = F39q489 := (hM9.a (by decide) (by decide)).trans J_497_11
              have e_511 : aF σ_s_504 (ad E a 40) = F40q490 := (hM9.a (by decide) (by decide)).trans J_497_12
              have e_512 : aF σ_s_504 (ad E a 42) = F42q491 := (hM9.a (by decide) (by decide)).trans J_497_13
              have e_513 : aF σ_s_504 (ad E a 43) = F43q492 := (hM9.a (by decide) (by decide)).trans J_497_14
              have e_514 : aF σ_s_504 (ad E a 44) = F44q493 := (hM9.a (by decide) (by decide)).trans J_497_15
              have e_515 : aF σ_s_504 (ad E a 45) = F45q494 := (hM9.a (by decide) (by decide)).trans J_497_16
              have e_516 : aF σ_s_504 (ad E a 46) = F46q495 := (hM9.a (by decide) (by decide)).trans J_497_17
              obtain ⟨g_517, dg_517⟩ : ∃ g9, g9 = upd f_505 (dp).toNat (I z_503) := ⟨_, rfl⟩
              rw [← dg_517] at ha9
              have ef_518 := ha9
              refine lv_aload_n hx hb dX11_tellRows_165 rfl (lv_at hl 1 rfl) ?_
              refine lv_iload_n hx hb dX11_tellRows_166 rfl (lv_at hl 2 rfl) ?_
              refine lv_aload_n hx hb dX11_tellRows_167 rfl (lv_at hl 3 rfl) ?_
              refine lv_iconst (v := I 4) hx hb dX11_tellRows_168 (by decide) ?_
              refine lv_iload hx hb dX11_tellRows_169 (lv_at hl 6 rfl) ?_
              refine lv_imul hx hb dX11_tellRows_171 ?_
              refine nq_top (I_mul _ _) ?_
              refine lv_iconst (v := I 2) hx hb dX11_tellRows_172 (by decide) ?_
              refine lv_iadd hx hb dX11_tellRows_173 ?_
              refine nq_top (I_add _ _) ?_
              refine m_iald hx hb hK hH hO h_a k13_1 isA1 e_508 ⟨by omega, by omega⟩ (by omega) (by omega) dX11_tellRows_174 (fun z_519 ez_519 rz_519 elx9 => ?_)
              refine th_calli (va_runS (As := [.ref (ad E a 61), .int (I i), .int (I z_519)]) (rest := []) ⟨hx, hb, hml, hown, hts⟩ (w_byKey l G y b0 σ_s_504 E hO (ad E a 61) 240 f61 (hO.roww h_a k13_61 isA1 e_509 rfl) i (show rng i from ri) (by omega) (by omega) z_519 (show rng z_519 from rz_519) (by first | exact hy0.1.1 | exact (hy0.1.1).sub (by omega) (by omega) | exact hy1.1.1 | exact (hy1.1.1).sub (by omega) (by omega) | exact hTa.1 | exact (hTa.1).sub (by omega) (by omega) | exact hTb.1 | exact (hTb.1).sub (by omega) (by omega)) (by omega) (by omega) (by omega)) (va_cwS 3 hts gX11_tellRows_X11_byKey rfl rfl rfl (by decide +kernel) ⟨(by first | (simp only [headSpec]; omega) | omega | (dsimp only; omega)), (by first | (simp only [headSpec]; omega) | omega | (dsimp only; omega))⟩) (th_PS hK hH) rfl rfl hl.1 rfl (lv_room (Nat.le_of_ble_eq_true rfl)) dX11_tellRows_175 ⟨(by first | (simp only [headSpec]; omega) | omega | (dsimp only; omega)), (by first | (simp only [headSpec]; omega) | omega | (dsimp only; omega))⟩) hS (fun z_522 σ_s_521 H locs rz_522 hw_520 hH hS => ?_)
              obtain ⟨e9, hw_520⟩ := hw_520
              replace e9 := e9.symm
              subst e9
              have hw_520 : (z_522 = -1 ∧ nok f61 (i + 1) (i + mS f61 i) z_519) ∨ (kid f61 i z_522 ∧ mY f61 z_522 = z_519 ∧ i < z_522 ∧ z_522 < i + mS f61 i) := hw_520
              refine lv_iconst (v := I (-1)) hx hb dX11_tellRows_178 (by decide) ?_
              refine lv_icmp_ne (tgt := 196) hx hb dX11_tellRows_179 (by decide) (fun c_523 => ?_) (fun c_523 => ?_)
              · replace c_523 := mt (I_eq (a := z_522) (b := (-1)) rz_522 (show rng (-1) from ⟨by decide, by decide⟩)).mpr c_523
                refine lv_iload hx hb dX11_tellRows_196 (lv_at hl 6 rfl) ?_
                refine lv_aload_n hx hb dX11_tellRows_198 rfl (lv_at hl 3 rfl) ?_
                refine lv_iload hx hb dX11_tellRows_199 (lv_at hl 6 rfl) ?_
                refine th_calli (va_runS (As := [.ref (ad E a 1), .int (I v6q496)]) (rest := [.int (I v6q496)]) ⟨hx, hb, hml, hown, hts⟩ (w_size l G y b0 σ_s_504 E hO (ad E a 1) 240 f1 (hO.roww h_a k13_1 isA1 e_508 rfl) v6q496 (show rng v6q496 from rv6q496) (by omega) (by omega) (by omega)) (va_cwS 2 hts gX11_tellRows_X11_size rfl rfl rfl (by decide +kernel) ⟨(by first | (simp only [headSpec]; omega) | omega | (dsimp only; omega)), (by first | (simp only [headSpec]; omega) | omega | (dsimp only; omega))⟩) (th_PS hK hH) rfl rfl hl.1 rfl (lv_room (Nat.le_of_ble_eq_true rfl)) dX11_tellRows_201 ⟨(by first | (simp only [headSpec]; omega) | omega | (dsimp only; omega)), (by first | (simp only [headSpec]; omega) | omega | (dsimp only; omega))⟩) hS (fun z_526 σ_s_525 H locs rz_526 hw_524 hH hS => ?_)
                obtain ⟨e9, hw_524⟩ := hw_524
                replace e9 := e9.symm
                subst e9
                have hw_524 : z_526 = mS f1 v6q496 := hw_524
                refine lv_iadd hx hb dX11_tellRows_204 ?_
                refine th_addo (fun z_527 rz_527 hz_527 => ?_)
                refine lv_istore (lv' := [(6, .int (I z_527)), (0, .ref a), (1, .ref (ad E a 61)), (2, .int (I i)), (3, .ref (ad E a 1)), (4, .int (I j)), (5, .int (I dp))]) hx hb dX11_tellRows_205 hl (by decide) rfl (fun ls hl => ?_)
                refine lv_goto (tgt := 136) hx hb dX11_tellRows_207 (by decide) ?_
                exact ihJ_497 (z_527, F39q489, F40q490, F42q491, F43q492, F44q493, F45q494, F46q495) σ_s_504 _ _ _ (by first | (dsimp only; omega) | omega) ⟨hO, hF, hM, hH, hS, lv_sub hl [1, 2, 3, 4, 5, 6, 0] rfl, rz_527, by first | (dsimp only; omega) | omega, by first | (dsimp only; omega) | omega, by first | (dsimp only; omega) | omega, by first | (dsimp only; omega) | omega, J_497_4, by first | (dsimp only; omega) | omega, J_497_6, (J_497_7.skip (by omega) (by first | (dsimp only; omega) | omega)), e_507, e_508, e_509, e_510, e_511, e_512, e_513, e_514, e_515, e_516⟩
              · replace c_523 := (I_eq (a := z_522) (b := (-1)) rz_522 (show rng (-1) from ⟨by decide, by decide⟩)).mp c_523
                have hkn_528 : nok f61 (i + 1) (i + mS f61 i) (mY f1 v6q496) := (by rw [show mY f1 v6q496 = z_519 from (by unfold mY; exact ez_519)]; exact (hw_520.resolve_right (fun h9 => by have h8 := h9.2.2.1; omega)).2)
                have hrm := J_497_7.roomC hTb.1 (by omega) (by omega) hkn_528
                refine lv_aload_n hx hb dX11_tellRows_182 rfl (lv_at hl 0 rfl) ?_
                refine lv_iconst (v := I 1) hx hb dX11_tellRows_183 (by decide) ?_
                refine lv_iload hx hb dX11_tellRows_184 (lv_at hl 5 rfl) ?_
                refine lv_iconst (v := I 1) hx hb dX11_tellRows_186 (by decide) ?_
                refine lv_iadd hx hb dX11_tellRows_187 ?_
                refine nq_top (I_add _ _) ?_
                refine lv_aload_n hx hb dX11_tellRows_188 rfl (lv_at hl 1 rfl) ?_
                refine lv_iconst (v := I (-1)) hx hb dX11_tellRows_189 (by decide) ?_
                refine lv_aload_n hx hb dX11_tellRows_190 rfl (lv_at hl 3 rfl) ?_
                refine lv_iload hx hb dX11_tellRows_191 (lv_at hl 6 rfl) ?_
                obtain ⟨_, hc_529⟩ := hO.cell h_a (by decide) (ci := 11) rfl
                refine th_callv (va_runV (As := [.int (I 1), .int (I (dp + 1)), .ref (ad E a 61), .int (I (-1)), .ref (ad E a 1), .int (I v6q496)]) (rest := []) ⟨hx, hb, hml, hown, hts⟩ (m_rowC l G y b0 σ_s_504 E hO a h_a 1 (show rng 1 from (show rng 1 from ⟨by decide, by decide⟩)) (by omega) (by omega) (dp + 1) (show rng (dp + 1) from ⟨by omega, by omega⟩) (by omega) (by omega) (-1) (show rng (-1) from (show rng (-1) from ⟨by decide, by decide⟩)) (by omega) (by omega) v6q496 (show rng v6q496 from rv6q496) (by omega) (by omega) w f1 e_508 f61 e_509 F39q489 e_510 F40q490 e_511 F42q491 e_512 F43q492 e_513 F44q493 e_514 F45q494 e_515 F46q495 e_516 (by omega) (by omega) (J_497_4) (by omega) (by omega) ((hy1.1.sub (by omega) (by omega))) (by omega)) (cwV 6 hts gX11_tellRows_X11_addRow rfl rfl rfl (by decide +kernel) ⟨(by first | (simp only [headSpec]; omega) | omega | (dsimp only; omega)), (by first | (simp only [headSpec]; omega) | omega | (dsimp only; omega))⟩) (th_PV hK hH rfl hc_529) rfl rfl hl.1 rfl (lv_room (Nat.le_of_ble_eq_true rfl)) dX11_tellRows_193 ⟨(by first | (simp only [headSpec]; omega) | omega | (dsimp only; omega)), (by first | (simp only [headSpec]; omega) | omega | (dsimp only; omega))⟩) hS (fun σ_s_531 H locs hw_530 hH hS => ?_)
                obtain ⟨hO9, hF9, hM9, hw_530⟩ := hw_530
                replace hM := hM.tu hM9 (by decide)
                replace hF := hF.tu hF9 (by decide)
                have e_532 : gI σ_s_531 a 48 = a480 := (hM9.i (by decide)).trans e_507
                have e_533 : aF σ_s_531 (ad E a 1) = f1 := (hM9.a (by decide) (by decide)).trans e_508
                have e_534 : aF σ_s_531 (ad E a 61) = f61 := (hM9.a (by decide) (by decide)).trans e_509
                have e_535 : aF σ_s_531 (ad E a 47) = g_517 := (hM9.a (by decide) (by decide)).trans ef_518
                replace hO := hO9
                generalize ef_537 : aF σ_s_531 (ad E a 39) = g_536 at hw_530
                generalize ef_539 : aF σ_s_531 (ad E a 40) = g_538 at hw_530
                generalize ef_541 : aF σ_s_531 (ad E a 42) = g_540 at hw_530
                generalize ef_543 : aF σ_s_531 (ad E a 43) = g_542 at hw_530
                generalize ef_545 : aF σ_s_531 (ad E a 44) = g_544 at hw_530
                generalize ef_547 : aF σ_s_531 (ad E a 45) = g_546 at hw_530
                generalize ef_549 : aF σ_s_531 (ad E a 46) = g_548 at hw_530
                have hw_530 : rws w g_536 g_538 g_540 g_542 g_544 ((F45q494 w.toNat).toInt + 1) ((F46q495 w.toNat).toInt + mS f1 v6q496) ∧ (g_546 w.toNat).toInt = (F45q494 w.toNat).toInt + 1 ∧ (g_548 w.toNat).toInt = (F46q495 w.toNat).toInt + mS f1 v6q496 ∧ hall w F39q489 F40q490 F42q491 F43q492 F44q493 F45q494 F46q495 g_536 g_538 g_540 g_542 g_544 g_546 g_548 := hw_530
                refine lv_iload hx hb dX11_tellRows_196 (lv_at hl 6 rfl) ?_
                refine lv_aload_n hx hb dX11_tellRows_198 rfl (lv_at hl 3 rfl) ?_
                refine lv_iload hx hb dX11_tellRows_199 (lv_at hl 6 rfl) ?_
                refine th_calli (va_runS (As := [.ref (ad E a 1), .int (I v6q496)]) (rest := [.int (I v6q496)]) ⟨hx, hb, hml, hown, hts⟩ (w_size l G y b0 σ_s_531 E hO (ad E a 1) 240 f1 (hO.roww h_a k13_1 isA1 e_533 rfl) v6q496 (show rng v6q496 from rv6q496) (by omega) (by omega) (by omega)) (va_cwS 2 hts gX11_tellRows_X11_size rfl rfl rfl (by decide +kernel) ⟨(by first | (simp only [headSpec]; omega) | omega | (dsimp only; omega)), (by first | (simp only [headSpec]; omega) | omega | (dsimp only; omega))⟩) (th_PS hK hH) rfl rfl hl.1 rfl (lv_room (Nat.le_of_ble_eq_true rfl)) dX11_tellRows_201 ⟨(by first | (simp only [headSpec]; omega) | omega | (dsimp only; omega)), (by first | (simp only [headSpec]; omega) | omega | (dsimp only; omega))⟩) hS (fun z_552 σ_s_551 H locs rz_552 hw_550 hH hS => ?_)
                obtain ⟨e9, hw_550⟩ := hw_550
                replace e9 := e9.symm
                subst e9
                have hw_550 : z_552 = mS f1 v6q496 := hw_550
                refine lv_iadd hx hb dX11_tellRows_204 ?_
                refine th_addo (fun z_553 rz_553 hz_553 => ?_)
                refine lv_istore (lv' := [(6, .int (I z_553)), (0, .ref a), (1, .ref (ad E a 61)), (2, .int (I i)), (3, .ref (ad E a 1)), (4, .int (I j)), (5, .int (I dp))]) hx hb dX11_tellRows_205 hl (by decide) rfl (fun ls hl => ?_)
                refine lv_goto (tgt := 136) hx hb dX11_tellRows_207 (by decide) ?_
                exact ihJ_497 (z_553, g_536, g_538, g_540, g_542, g_544, g_546, g_548) σ_s_531 _ _ _ (by first | (dsimp only; omega) | omega) ⟨hO, hF, hM, hH, hS, lv_sub hl [1, 2, 3, 4, 5, 6, 0] rfl, rz_553, by first | (dsimp only; omega) | omega, by first | (dsimp only; omega) | omega, by first | (dsimp only; omega) | omega, by first | (dsimp only; omega) | omega, (by have h9 := hw_530.1; have h8 := hw_530.2.1; have h7 := hw_530.2.2.1; rw [h8, h7]; exact h9), by first | (dsimp only; omega) | omega, (J_497_6.tr hw_530.2.2.2), (J_497_7.comes (by omega) hkn_528 (by first | (dsimp only; omega) | omega) (by first | (dsimp only; omega) | omega) (by first | (dsimp only; omega) | omega)), e_532, e_533, e_534, ef_537, ef_539, ef_541, ef_543, ef_545, ef_547, ef_549⟩
          · replace c_353 := mt (I_le (a := z_352) (b := v6q347) rz_352 rv6q347).mpr c_353
            have hk6 := hTa.1 v6q347 (by omega) (by omega)
            have hr1 := J_348_7.room
            refine lv_aload_n hx hb dX11_tellRows_48 rfl (lv_at hl 3 rfl) ?_
            refine lv_iload hx hb dX11_tellRows_49 (lv_at hl 4 rfl) ?_
            refine lv_aload_n hx hb dX11_tellRows_51 rfl (lv_at hl 1 rfl) ?_
            refine lv_iconst (v := I 4) hx hb dX11_tellRows_52 (by decide) ?_
            refine lv_iload hx hb dX11_tellRows_53 (lv_at hl 6 rfl) ?_
            refine lv_imul hx hb dX11_tellRows_55 ?_
            refine nq_top (I_mul _ _) ?_
            refine lv_iconst (v := I 2) hx hb dX11_tellRows_56 (by decide) ?_
            refine lv_iadd hx hb dX11_tellRows_57 ?_
            refine nq_top (I_add _ _) ?_
            refine m_iald hx hb hK hH hO h_a k13_61 isA1 J_348_10 ⟨by omega, by omega⟩ (by omega) (by omega) dX11_tellRows_58 (fun z_554 ez_554 rz_554 elx9 => ?_)
            have hY_555 : mY f61 v6q347 = z_554 := (by unfold mY; exact ez_554)
            refine th_calli (va_runS (As := [.ref (ad E a 1), .int (I j), .int (I z_554)]) (rest := []) ⟨hx, hb, hml, hown, hts⟩ (w_byKey l G y b0 σ_J_348 E hO (ad E a 1) 240 f1 (hO.roww h_a k13_1 isA1 J_348_9 rfl) j (show rng j from rj) (by omega) (by omega) z_554 (show rng z_554 from rz_554) (by first | exact hy0.1.1 | exact (hy0.1.1).sub (by omega) (by omega) | exact hy1.1.1 | exact (hy1.1.1).sub (by omega) (by omega) | exact hTa.1 | exact (hTa.1).sub (by omega) (by omega) | exact hTb.1 | exact (hTb.1).sub (by omega) (by omega)) (by omega) (by omega) (by omega)) (va_cwS 3 hts gX11_tellRows_X11_byKey rfl rfl rfl (by decide +kernel) ⟨(by first | (simp only [headSpec]; omega) | omega | (dsimp only; omega)), (by first | (simp only [headSpec]; omega) | omega | (dsimp only; omega))⟩) (th_PS hK hH) rfl rfl hl.1 rfl (lv_room (Nat.le_of_ble_eq_true rfl)) dX11_tellRows_59 ⟨(by first | (simp only [headSpec]; omega) | omega | (dsimp only; omega)), (by first | (simp only [headSpec]; omega) | omega | (dsimp only; omega))⟩) hS (fun z_558 σ_s_557 H locs rz_558 hw_556 hH hS => ?_)
            obtain ⟨e9, hw_556⟩ := hw_556
            replace e9 := e9.symm
            subst e9
            have hw_556 : (z_558 = -1 ∧ nok f1 (j + 1) (j + mS f1 j) z_554) ∨ (kid f1 j z_558 ∧ mY f1 z_558 = z_554 ∧ j < z_558 ∧ z_558 < j + mS f1 j) := hw_556
            refine lv_istore (lv' := [(7, .int (I z_558)), (0, .ref a), (1, .ref (ad E a 61)), (2, .int (I i)), (3, .ref (ad E a 1)), (4, .int (I j)), (5, .int (I dp)), (6, .int (I v6q347))]) hx hb dX11_tellRows_62 hl (by decide) rfl (fun ls hl => ?_)
            refine lv_aload_n hx hb dX11_tellRows_64 rfl (lv_at hl 1 rfl) ?_
            refine ok.getR hO h_a (by decide) k13_47 (by decide) (fun _ _ he hv kk => th_get (ci := 11) (C := RX11) (T := TX11) (N := 66) hx hb hts inX11 hown hK hH he rfl 47 (by decide) fl0 hv dX11_tellRows_65 kk) ?_
            refine lv_iload hx hb dX11_tellRows_68 (lv_at hl 6 rfl) ?_
            refine lv_aload_n hx hb dX11_tellRows_70 rfl (lv_at hl 2 rfl) ?_
            refine lv_iconst (v := I 4) hx hb dX11_tellRows_71 (by decide) ?_
            refine lv_iload hx hb dX11_tellRows_72 (lv_at hl 7 rfl) ?_
            refine lv_imul hx hb dX11_tellRows_74 ?_
            refine nq_top (I_mul _ _) ?_
            refine lv_iconst (v := I 2) hx hb dX11_tellRows_75 (by decide) ?_
            refine lv_iadd hx hb dX11_tellRows_76 ?_
            refine nq_top (I_add _ _) ?_
            refine m_iald hx hb hK hH hO h_a k13_61 isA1 J_348_10 ⟨by omega, by omega⟩ (by omega) (by omega) dX11_tellRows_77 (fun z_559 ez_559 rz_559 elx9 => ?_)
            obtain ⟨f_561, ef_562⟩ : ∃ f9, aF σ_J_348 (ad E a 47) = f9 := ⟨_, rfl⟩
            refine m_iast hx hb hK hH hS h00 hO h_a k13_47 isA1 (by decide) ef_562 rdp (by omega) (by omega) rz_559 el1 dX11_tellRows_78 (fun σ_s_560 H locs hO hF9 hM9 ha9 hH hS => ?_)
            replace hM := hM.tu hM9 (by decide)
            replace hF := hF.tu hF9 (by decide)
            have e_563 : gI σ_s_560 a 48 = a480 := (hM9.i (by decide)).trans J_348_8
            have e_564 : aF σ_s_560 (ad E a 1) = f1 := (hM9.a (by decide) (by decide)).trans J_348_9
            have e_565 : aF σ_s_560 (ad E a 61) = f61 := (hM9.a (by decide) (by decide)).trans J_348_10
            have e_566 : aF σ_s_560 (ad E a 39) = F39q340 := (hM9.a (by decide) (by decide)).trans J_348_11
            have e_567 : aF σ_s_560 (ad E a 40) = F40q341 := (hM9.a (by decide) (by decide)).trans J_348_12
            have e_568 : aF σ_s_560 (ad E a 42) = F42q342 := (hM9.a (by decide) (by decide)).trans J_348_13
            have e_569 : aF σ_s_560 (ad E a 43) = F43q343 := (hM9.a (by decide) (by decide)).trans J_348_14
            have e_570 : aF σ_s_560 (ad E a 44) = F44q344 := (hM9.a (by decide) (by decide)).trans J_348_15
            have e_571 : aF σ_s_560 (ad E a 45) = F45q345 := (hM9.a (by decide) (by decide)).trans J_348_16
            have e_572 : aF σ_s_560 (ad E a 46) = F46q346 := (hM9.a (by decide) (by decide)).trans J_348_17
            obtain ⟨g_573, dg_573⟩ : ∃ g9, g9 = upd f_561 (dp).toNat (I z_559) := ⟨_, rfl⟩
            rw [← dg_573] at ha9
            have ef_574 := ha9
            refine lv_iload hx hb dX11_tellRows_79 (lv_at hl 0 rfl) ?_
            refine lv_iconst (v := I (-1)) hx hb dX11_tellRows_81 (by decide) ?_
            refine lv_icmp_ne (tgt := 102) hx hb dX11_tellRows_82 (by decide) (fun c_575 => ?_) (fun c_575 => ?_)
            · replace c_575 := mt (I_eq (a := z_558) (b := (-1)) rz_558 (show rng (-1) from ⟨by decide, by decide⟩)).mpr c_575
              have hko_576 := (hw_556.resolve_left (fun h9 => by omega))
              have ho1 := hko_576.2.2
              have hkb2 := hTb.1 z_558 (by omega) (by omega)
              have hro := (J_348_7.both (n1 := (F45q345 w.toNat).toInt + mS f61 v6q347 + mS f1 z_558) (m1 := (F46q346 w.toNat).toInt + mS f61 v6q347 + mS f1 z_558) hTa hTb.1 (by omega) (by omega) (by omega) (by omega) hko_576.1 (by have h9 := hko_576.2.1; rw [h9]; exact hY_555.symm) (Int.le_refl _) (Int.le_refl _) rfl).room
              have hcn := cn_kid (f := f61) (b := mS f61 0) hy0.1.1 (i := i) (j := v6q347) (by omega) (by omega) (by omega) (by omega)
              have htr := hy0.at (p := v6q347) (by omega) (by omega)
              refine lv_aload_n hx hb dX11_tellRows_102 rfl (lv_at hl 1 rfl) ?_
              refine lv_aload_n hx hb dX11_tellRows_103 rfl (lv_at hl 2 rfl) ?_
              refine lv_iload hx hb dX11_tellRows_104 (lv_at hl 7 rfl) ?_
              refine lv_aload_n hx hb dX11_tellRows_106 rfl (lv_at hl 4 rfl) ?_
              refine lv_iload hx hb dX11_tellRows_107 (lv_at hl 0 rfl) ?_
              refine lv_iload hx hb dX11_tellRows_109 (lv_at hl 6 rfl) ?_
              refine lv_iconst (v := I 1) hx hb dX11_tellRows_111 (by decide) ?_
              refine lv_iadd hx hb dX11_tellRows_112 ?_
              refine nq_top (I_add _ _) ?_
              obtain ⟨_, hc_577⟩ := hO.cell h_a (by decide) (ci := 11) rfl
              refine th_callv (va_runV (As := [.ref (ad E a 61), .int (I v6q347), .ref (ad E a 1), .int (I z_558), .int (I (dp + 1))]) (rest := []) ⟨hx, hb, hml, hown, hts⟩ (ih l G y b0 σ_s_560 E hO a h_a v6q347 (show rng v6q347 from rv6q347) (by omega) (by omega) z_558 (show rng z_558 from rz_558) (by omega) (by omega) (dp + 1) (show rng (dp + 1) from ⟨by omega, by omega⟩) (by omega) (by omega) w f1 e_564 f61 e_565 F39q340 e_566 F40q341 e_567 F42q342 e_568 F43q343 e_569 F44q344 e_570 F45q345 e_571 F46q346 e_572 (hy0) (hy1) (by omega) (by omega) ((by omega)) (by omega) (by omega) (J_348_4) (by omega) (by omega) (by omega)) (cwV 5 hts gX11_tellRows_X11_tellRows rfl rfl rfl (by decide +kernel) ⟨(by first | (simp only [headSpec]; omega) | omega | (dsimp only; omega)), (by first | (simp only [headSpec]; omega) | omega | (dsimp only; omega))⟩) (th_PV hK hH rfl hc_577) rfl rfl hl.1 rfl (lv_room (Nat.le_of_ble_eq_true rfl)) dX11_tellRows_113 ⟨(by first | (simp only [headSpec]; omega) | omega | (dsimp only; omega)), (by first | (simp only [headSpec]; omega) | omega | (dsimp only; omega))⟩) hS (fun σ_s_579 H locs hw_578 hH hS => ?_)
              obtain ⟨hO9, hF9, hM9, hw_578⟩ := hw_578
              replace hM := hM.tu hM9 (by decide)
              replace hF := hF.tu hF9 (by decide)
              have e_580 : gI σ_s_579 a 48 = a480 := (hM9.i (by decide)).trans e_563
              have e_581 : aF σ_s_579 (ad E a 1) = f1 := (hM9.a (by decide) (by decide)).trans e_564
              have e_582 : aF σ_s_579 (ad E a 61) = f61 := (hM9.a (by decide) (by decide)).trans e_565
              replace hO := hO9
              generalize ef_584 : aF σ_s_579 (ad E a 39) = g_583 at hw_578
              generalize ef_586 : aF σ_s_579 (ad E a 40) = g_585 at hw_578
              generalize ef_588 : aF σ_s_579 (ad E a 42) = g_587 at hw_578
              generalize ef_590 : aF σ_s_579 (ad E a 43) = g_589 at hw_578
              generalize ef_592 : aF σ_s_579 (ad E a 44) = g_591 at hw_578
              generalize ef_594 : aF σ_s_579 (ad E a 45) = g_593 at hw_578
              generalize ef_596 : aF σ_s_579 (ad E a 46) = g_595 at hw_578
              have hw_578 : rws w g_583 g_585 g_587 g_589 g_591 (g_593 w.toNat).toInt (g_595 w.toNat).toInt ∧ 0 ≤ (g_593 w.toNat).toInt ∧ (g_593 w.toNat).toInt ≤ (F45q345 w.toNat).toInt + (mS f61 v6q347 + mS f1 z_558) ∧ 0 ≤ (g_595 w.toNat).toInt ∧ (g_595 w.toNat).toInt ≤ (F46q346 w.toNat).toInt + (mS f61 v6q347 + mS f1 z_558) ∧ hall w F39q340 F40q341 F42q342 F43q343 F44q344 F45q345 F46q346 g_583 g_585 g_587 g_589 g_591 g_593 g_595 := hw_578
              refine lv_iload hx hb dX11_tellRows_116 (lv_at hl 7 rfl) ?_
              refine lv_aload_n hx hb dX11_tellRows_118 rfl (lv_at hl 2 rfl) ?_
              refine lv_iload hx hb dX11_tellRows_119 (lv_at hl 7 rfl) ?_
              refine th_calli (va_runS (As := [.ref (ad E a 61), .int (I v6q347)]) (rest := [.int (I v6q347)]) ⟨hx, hb, hml, hown, hts⟩ (w_size l G y b0 σ_s_579 E hO (ad E a 61) 240 f61 (hO.roww h_a k13_61 isA1 e_582 rfl) v6q347 (show rng v6q347 from rv6q347) (by omega) (by omega) (by omega)) (va_cwS 2 hts gX11_tellRows_X11_size rfl rfl rfl (by decide +kernel) ⟨(by first | (simp only [headSpec]; omega) | omega | (dsimp only; omega)), (by first | (simp only [headSpec]; omega) | omega | (dsimp only; omega))⟩) (th_PS hK hH) rfl rfl hl.1 rfl (lv_room (Nat.le_of_ble_eq_true rfl)) dX11_tellRows_121 ⟨(by first | (simp only [headSpec]; omega) | omega | (dsimp only; omega)), (by first | (simp only [headSpec]; omega) | omega | (dsimp only; omega))⟩) hS (fun z_599 σ_s_598 H locs rz_599 hw_597 hH hS => ?_)
              obtain ⟨e9, hw_597⟩ := hw_597
              replace e9 := e9.symm
              subst e9
              have hw_597 : z_599 = mS f61 v6q347 := hw_597
              refine lv_iadd hx hb dX11_tellRows_124 ?_
              refine th_addo (fun z_600 rz_600 hz_600 => ?_)
              refine lv_istore (lv' := [(6, .int (I z_600)), (7, .int (I z_558)), (0, .ref a), (1, .ref (ad E a 61)), (2, .int (I i)), (3, .ref (ad E a 1)), (4, .int (I j)), (5, .int (I dp))]) hx hb dX11_tellRows_125 hl (by decide) rfl (fun ls hl => ?_)
              refine lv_goto (tgt := 36) hx hb dX11_tellRows_127 (by decide) ?_
              replace hl : lv_has ls 8 [(6, .int (I z_600)), (0, .ref a), (1, .ref (ad E a 61)), (2, .int (I i)), (3, .ref (ad E a 1)), (4, .int (I j)), (5, .int (I dp))] := lv_sub hl [0, 2, 3, 4, 5, 6, 7] rfl
              exact ihJ_348 (z_600, g_583, g_585, g_587, g_589, g_591, g_593, g_595) σ_s_579 _ _ _ (by first | (dsimp only; omega) | omega) ⟨hO, hF, hM, hH, hS, lv_sub hl [1, 2, 3, 4, 5, 6, 0] rfl, rz_600, by first | (dsimp only; omega) | omega, by first | (dsimp only; omega) | omega, by first | (dsimp only; omega) | omega, by first | (dsimp only; omega) | omega, hw_578.1, by first | (dsimp only; omega) | omega, (J_348_6.tr hw_578.2.2.2.2.2), (J_348_7.both hTa hTb.1 (by omega) (by omega) (by omega) (by omega) hko_576.1 (by have h9 := hko_576.2.1; rw [h9]; exact hY_555.symm) (by first | (dsimp only; omega) | omega) (by first | (dsimp only; omega) | omega) (by first | (dsimp only; omega) | omega)), e_580, e_581, e_582, ef_584, ef_586, ef_588, ef_590, ef_592, ef_594, ef_596⟩
            · replace c_575 := (I_eq (a := z_558) (b := (-1)) rz_558 (show rng (-1) from ⟨by decide, by decide⟩)).mp c_575
              refine lv_aload_n hx hb dX11_tellRows_85 rfl (lv_at hl 1 rfl) ?_
              refine lv_iconst (v := I 2) hx hb dX11_tellRows_86 (by decide) ?_
              refine lv_iload hx hb dX11_tellRows_87 (lv_at hl 6 rfl) ?_
              refine lv_iconst (v := I 1) hx hb dX11_tellRows_89 (by decide) ?_
              refine lv_iadd hx hb dX11_tellRows_90 ?_
              refine nq_top (I_add _ _) ?_
              refine lv_aload_n hx hb dX11_tellRows_91 rfl (lv_at hl 2 rfl) ?_
              refine lv_iload hx hb dX11_tellRows_92 (lv_at hl 7 rfl) ?_
              refine lv_aload_n hx hb dX11_tellRows_94 rfl (lv_at hl 4 rfl) ?_
              refine lv_iconst (v := I (-1)) hx hb dX11_tellRows_95 (by decide) ?_
              obtain ⟨_, hc_601⟩ := hO.cell h_a (by decide) (ci := 11) rfl
              refine th_callv (va_runV (As := [.int (I 2), .int (I (dp + 1)), .ref (ad E a 61), .int (I v6q347), .ref (ad E a 1), .int (I (-1))]) (rest := []) ⟨hx, hb, hml, hown, hts⟩ (m_rowG l G y b0 σ_s_560 E hO a h_a 2 (show rng 2 from (show rng 2 from ⟨by decide, by decide⟩)) (by omega) (by omega) (dp + 1) (show rng (dp + 1) from ⟨by omega, by omega⟩) (by omega) (by omega) v6q347 (show rng v6q347 from rv6q347) (by omega) (by omega) (-1) (show rng (-1) from (show rng (-1) from ⟨by decide, by decide⟩)) (by omega) (by omega) w f1 e_564 f61 e_565 F39q340 e_566 F40q341 e_567 F42q342 e_568 F43q343 e_569 F44q344 e_570 F45q345 e_571 F46q346 e_572 (by omega) (by omega) (J_348_4) (by omega) (by omega) ((hy0.1.sub (by omega) (by omega))) (by omega)) (cwV 6 hts gX11_tellRows_X11_addRow rfl rfl rfl (by decide +kernel) ⟨(by first | (simp only [headSpec]; omega) | omega | (dsimp only; omega)), (by first | (simp only [headSpec]; omega) | omega | (dsimp only; omega))⟩) (th_PV hK hH rfl hc_601) rfl rfl hl.1 rfl (lv_room (Nat.le_of_ble_eq_true rfl)) dX11_tellRows_96 ⟨(by first | (simp only [headSpec]; omega) | omega | (dsimp only; omega)), (by first | (simp only [headSpec]; omega) | omega | (dsimp only; omega))⟩) hS (fun σ_s_603 H locs hw_602 hH hS => ?_)
              obtain ⟨hO9, hF9, hM9, hw_602⟩ := hw_602
              replace hM := hM.tu hM9 (by decide)
              replace hF := hF.tu hF9 (by decide)
              have e_604 : gI σ_s_603 a 48 = a480 := (hM9.i (by decide)).trans e_563
              have e_605 : aF σ_s_603 (ad E a 1) = f1 := (hM9.a (by decide) (by decide)).trans e_564
              have e_606 : aF σ_s_603 (ad E a 61) = f61 := (hM9.a (by decide) (by decide)).trans e_565
              have e_607 : aF σ_s_603 (ad E a 47) = g_573 := (hM9.a (by decide) (by decide)).trans ef_574
              replace hO := hO9
              generalize ef_609 : aF σ_s_603 (ad E a 39) = g_608 at hw_602
              generalize ef_611 : aF σ_s_603 (ad E a 40) = g_610 at hw_602
              generalize ef_613 : aF σ_s_603 (ad E a 42) = g_612 at hw_602
              generalize ef_615 : aF σ_s_603 (ad E a 43) = g_614 at hw_602
              generalize ef_617 : aF σ_s_603 (ad E a 44) = g_616 at hw_602
              generalize ef_619 : aF σ_s_603 (ad E a 45) = g_618 at hw_602
              generalize ef_621 : aF σ_s_603 (ad E a 46) = g_620 at hw_602
              have hw_602 : rws w g_608 g_610 g_612 g_614 g_616 ((F45q345 w.toNat).toInt + 1) ((F46q346 w.toNat).toInt + mS f61 v6q347) ∧ (g_618 w.toNat).toInt = (F45q345 w.toNat).toInt + 1 ∧ (g_620 w.toNat).toInt = (F46q346 w.toNat).toInt + mS f61 v6q347 ∧ hall w F39q340 F40q341 F42q342 F43q343 F44q344 F45q345 F46q346 g_608 g_610 g_612 g_614 g_616 g_618 g_620 := hw_602
              refine lv_goto (tgt := 116) hx hb dX11_tellRows_99 (by decide) ?_
              refine lv_iload hx hb dX11_tellRows_116 (lv_at hl 7 rfl) ?_
              refine lv_aload_n hx hb dX11_tellRows_118 rfl (lv_at hl 2 rfl) ?_
              refine lv_iload hx hb dX11_tellRows_119 (lv_at hl 7 rfl) ?_
              refine th_calli (va_runS (As := [.ref (ad E a 61), .int (I v6q347)]) (rest := [.int (I v6q347)]) ⟨hx, hb, hml, hown, hts⟩ (w_size l G y b0 σ_s_603 E hO (ad E a 61) 240 f61 (hO.roww h_a k13_61 isA1 e_606 rfl) v6q347 (show rng v6q347 from rv6q347) (by omega) (by omega) (by omega)) (va_cwS 2 hts gX11_tellRows_X11_size rfl rfl rfl (by decide +kernel) ⟨(by first | (simp only [headSpec]; omega) | omega | (dsimp only; omega)), (by first | (simp only [headSpec]; omega) | omega | (dsimp only; omega))⟩) (th_PS hK hH) rfl rfl hl.1 rfl (lv_room (Nat.le_of_ble_eq_true rfl)) dX11_tellRows_121 ⟨(by first | (simp only [headSpec]; omega) | omega | (dsimp only; omega)), (by first | (simp only [headSpec]; omega) | omega | (dsimp only; omega))⟩) hS (fun z_624 σ_s_623 H locs rz_624 hw_622 hH hS => ?_)
              obtain ⟨e9, hw_622⟩ := hw_622
              replace e9 := e9.symm
              subst e9
              have hw_622 : z_624 = mS f61 v6q347 := hw_622
              refine lv_iadd hx hb dX11_tellRows_124 ?_
              refine th_addo (fun z_625 rz_625 hz_625 => ?_)
              refine lv_istore (lv' := [(6, .int (I z_625)), (7, .int (I z_558)), (0, .ref a), (1, .ref (ad E a 61)), (2, .int (I i)), (3, .ref (ad E a 1)), (4, .int (I j)), (5, .int (I dp))]) hx hb dX11_tellRows_125 hl (by decide) rfl (fun ls hl => ?_)
              refine lv_goto (tgt := 36) hx hb dX11_tellRows_127 (by decide) ?_
              replace hl : lv_has ls 8 [(6, .int (I z_625)), (0, .ref a), (1, .ref (ad E a 61)), (2, .int (I i)), (3, .ref (ad E a 1)), (4, .int (I j)), (5, .int (I dp))] := lv_sub hl [0, 2, 3, 4, 5, 6, 7] rfl
              exact ihJ_348 (z_625, g_608, g_610, g_612, g_614, g_616, g_618, g_620) σ_s_603 _ _ _ (by first | (dsimp only; omega) | omega) ⟨hO, hF, hM, hH, hS, lv_sub hl [1, 2, 3, 4, 5, 6, 0] rfl, rz_625, by first | (dsimp only; omega) | omega, by first | (dsimp only; omega) | omega, by first | (dsimp only; omega) | omega, by first | (dsimp only; omega) | omega, (by have h9 := hw_602.1; have h8 := hw_602.2.1; have h7 := hw_602.2.2.1; rw [h8, h7]; exact h9), by first | (dsimp only; omega) | omega, (J_348_6.tr hw_602.2.2.2), (J_348_7.goes (by omega) (by first | (dsimp only; omega) | omega) (by first | (dsimp only; omega) | omega) (by first | (dsimp only; omega) | omega)), e_604, e_605, e_606, ef_609, ef_611, ef_613, ef_615, ef_617, ef_619, ef_621⟩
    · replace c_4 := mt (I_eq (a := z_3) (b := 0) rz_3 (show rng 0 from ⟨by decide, by decide⟩)).mpr c_4
      exact th_vret hx hb hr hlocks hH hS ⟨hO, hF, hM, by rw [show aF σ (ad E a 39) = f39 from ef39, show aF σ (ad E a 40) = f40 from ef40, show aF σ (ad E a 42) = f42 from ef42, show aF σ (ad E a 43) = f43 from ef43, show aF σ (ad E a 44) = f44 from ef44, show aF σ (ad E a 45) = f45 from ef45, show aF σ (ad E a 46) = f46 from ef46]; exact ⟨hy7, by omega, by omega, by omega, by omega, hall.rf⟩⟩ dX11_tellRows_11
