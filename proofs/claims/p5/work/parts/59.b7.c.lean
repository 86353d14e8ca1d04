theorem x_must (l : Launch) (hl0 : l.stackTraces = false) (G : va_G) (y : Nat → ClassId) (b0 : Nat) (σ : th_M) (E : th_E) (hO : ok y E σ) (a : Nat) (h_a : kd E a = 12) (i : Int) (ri : rng i) : vx_Met l yX10_mustBeThere wsX10_mustBeThere ({ frames := 6, cells := 1, slots := 6, locals := 100 }) (th_PX G y b0 σ [.ref a, .int (I i)]) (th_Qv G b0 (fun σ1 => ok y E σ1 ∧ fr [] E σ σ1 ∧ (0 ≤ i ∧ i ≤ 59))) (th_XX G b0 (fun X σ1 => ok y E σ1 ∧ fr [] E σ σ1 ∧ (X = nq_NSE ∧ True))) 1 6 (th_A b0) := by
  sorry
theorem x_ofText (l : Launch) (hl0 : l.stackTraces = false) (G : va_G) (y : Nat → ClassId) (b0 : Nat) (σ : th_M) (E : th_E) (hO : ok y E σ) (a : Nat) (h_a : kd E a = 12) (i : Int) (ri : rng i) : vx_Met l yX10_ofText wsX10_ofText ({ frames := 6, cells := 1, slots := 6, locals := 100 }) (th_PX G y b0 σ [.ref a, .int (I i)]) (th_Qi G b0 (fun r σ1 => ok y E σ1 ∧ fr [] E σ σ1 ∧ (True))) (th_XX G b0 (fun X σ1 => ok y E σ1 ∧ fr [] E σ σ1 ∧ (X = nq_NSE ∧ True))) 1 6 (th_A b0) := by
  sorry
set_option maxHeartbeats 1000000 in
set_option maxRecDepth 100000 in
theorem x_count (l : Launch) (hl0 : l.stackTraces = false) (G : va_G) (y : Nat → ClassId) (b0 : Nat) (σ : th_M) (E : th_E) (hO : ok y E σ) (a : Nat) (h_a : kd E a = 12) (i : Int) (ri : rng i) : vx_Met l yX10_count wsX10_count ({ frames := 144, cells := 1, slots := 6, locals := 4214 }) (th_PX G y b0 σ [.ref a, .int (I i)]) (th_Qi G b0 (fun r σ1 => ok y E σ1 ∧ fr [12, 7, 1] E σ σ1 ∧ ((gI σ1 a 2 = gI σ a 2 ∧ gI σ1 a 1 = gI σ a 1) ∧ aF σ1 (ad E a 0) = aF σ (ad E a 0) ∧ aQ σ1 (ad E a 3) = aQ σ (ad E a 3)))) (th_XX G b0 (fun X σ1 => ok y E σ1 ∧ fr [12, 7, 1] E σ σ1 ∧ ((X = nq_NSE ∧ gI σ1 a 1 = gI σ a 1 ∧ gI σ1 a 2 = gI σ a 2) ∧ aF σ1 (ad E a 0) = aF σ (ad E a 0) ∧ aQ σ1 (ad E a 3) = aQ σ (ad E a 3)))) 1 6 (th_A b0) := by
  refine vx_ofW (cc := cX10_count) (maxL := 2) (ret := (some .int)) (by decide) rfl ?_
  intro p e s m args below meth c s₁ B hml htab hv
  obtain ⟨rfl, hH, hK, hXs⟩ := hv
  have hx := B.exec
  have hb := B.bytes
  have hr := B.returns
  have hts := atoms_spec (ws := wsX10_count) B.pre
  have hown : s.vm.findClass RX10 = some m.cls := findClass_of_methodNamed B.named
  have hlocks := B.notSynchronized
  have h00 : b0 ≤ s.heap.size := hH.1
  have hS : va_S (th_A b0) s.heap s.heap [] := va_S.rf
  have hF : fr [12, 7, 1] E σ σ := fr.rf
  have inX10 : ∀ w ∈ wsX100, w ∈ wsX10_count := by decide +kernel
  have inX3 : ∀ w ∈ wsX30, w ∈ wsX10_count := by decide +kernel
  have inX6 : ∀ w ∈ wsX60, w ∈ wsX10_count := by decide +kernel
  have inX9 : ∀ w ∈ wsX90, w ∈ wsX10_count := by decide +kernel
  have fl0 := hts (.fieldLink RX10 63 "NestQuery" "now" "LNestQuery$State;") (by decide +kernel)
  have fl1 := hts (.fieldLink RX10 82 "NestQuery" "kept" "LNestQuery$Patch;") (by decide +kernel)
  have fl2 := hts (.fieldLink RX10 145 "NestQuery" "imageThere" "Z") (by decide +kernel)
  have fl3 := hts (.fieldLink RX10 86 "NestQuery" "sinceImage" "LNestQuery$Patch;") (by decide +kernel)
  have fl4 := hts (.fieldLink RX10 67 "NestQuery" "imaged" "LNestQuery$State;") (by decide +kernel)
  have fl5 := hts (.fieldLink RX10 114 "NestQuery" "tapeCount" "I") (by decide +kernel)
  have hl := lv_entry ([.ref a, .int (I i)]) (n := 2) (Nat.le_of_ble_eq_true rfl)
  rw [lg_entry_eq]
  generalize (lg_sl ([.ref a, .int (I i)]) ++ List.replicate (2 - (lg_sl ([.ref a, .int (I i)])).length) Slot.unset).toArray = ls at hl ⊢
  have hl : lv_has ls 2 [(0, .ref a), (1, .int (I i))] := hl
  obtain ⟨a10, ea10, ra10, la10, ua10⟩ := hO.gi h_a (by decide) k12_1
  obtain ⟨a20, ea20, ra20, la20, ua20⟩ := hO.gi h_a (by decide) k12_2
  obtain ⟨f_1, ef_2⟩ : ∃ f9, aF σ (ad E a 0) = f9 := ⟨_, rfl⟩
  have h0row := ef_2
  obtain ⟨f_3, eq_4⟩ : ∃ f9, aQ σ (ad E a 3) = f9 := ⟨_, rfl⟩
  have h0q := eq_4
  refine lv_iload_n hx hb dX10_count_0 rfl (lv_at hl 1 rfl) ?_
  refine th_case (a := i) (n := 0) (fun c_5_0 => ?_) (fun c_5_0 => ?_)
  · refine th_topeq c_5_0 ?_
    refine lv_tableIn (tgt := 88) hx hb dX10_count_1 (by decide) (by decide) (by rfl) (by decide) ?_
    refine lv_aload_n hx hb dX10_count_88 rfl (lv_at hl 0 rfl) ?_
    have hp_6 : kd E (ad E a 9) = 5 := ok.pk hO h_a (by decide) k12_9 rfl
    refine ok.getR hO h_a (by decide) k12_9 (by decide) (fun _ _ he hv kk => th_get (ci := 10) (C := RX10) (T := TX10) (N := 18) hx hb hts inX10 hown hK hH he rfl 9 (by decide) fl0 hv dX10_count_89 kk) ?_
    have hp_7 : kd E (ad E (ad E a 9) 0) = 1 := ok.pk hO hp_6 (by decide) k5_0 rfl
    refine ok.getR hO hp_6 (by decide) k5_0 (by decide) (fun _ _ he hv kk => th_getN (ci := 6) (C := RX6) (T := TX6) (N := 7) hx hb hts inX6 hown hK hH he rfl 0 (by decide) (nl_13 hK) hv dX10_count_92 kk) ?_
    refine ok.getI hO hp_7 (by decide) k1_4 (fun _ _ he hv kk => th_getN (ci := 9) (C := RX9) (T := TX9) (N := 5) hx hb hts inX9 hown hK hH he rfl 4 (by decide) (nl_11 hK) hv dX10_count_95 kk) (fun z_8 e_9 rz_8 lz_8 uz_8 => ?_)
    refine vx_ret ?_
    refine W.widen (k := 1) (n := 6) (Nat.le_of_ble_eq_true rfl) (Nat.le_of_ble_eq_true rfl) ?_
    exact th_iret hx hb hr hlocks hH hS (z := z_8) rz_8 ⟨hO, hF, ⟨by omega, (ef_2.trans h0row.symm), (eq_4.trans h0q.symm)⟩⟩ dX10_count_98
  · refine th_case (a := i) (n := 1) (fun c_5_1 => ?_) (fun c_5_1 => ?_)
    · refine th_topeq c_5_1 ?_
      refine lv_tableIn (tgt := 99) hx hb dX10_count_1 (by decide) (by decide) (by rfl) (by decide) ?_
      refine lv_aload_n hx hb dX10_count_99 rfl (lv_at hl 0 rfl) ?_
      have hp_10 : kd E (ad E a 9) = 5 := ok.pk hO h_a (by decide) k12_9 rfl
      refine ok.getR hO h_a (by decide) k12_9 (by decide) (fun _ _ he hv kk => th_get (ci := 10) (C := RX10) (T := TX10) (N := 18) hx hb hts inX10 hown hK hH he rfl 9 (by decide) fl0 hv dX10_count_100 kk) ?_
      have hp_11 : kd E (ad E (ad E a 9) 0) = 1 := ok.pk hO hp_10 (by decide) k5_0 rfl
      refine ok.getR hO hp_10 (by decide) k5_0 (by decide) (fun _ _ he hv kk => th_getN (ci := 6) (C := RX6) (T := TX6) (N := 7) hx hb hts inX6 hown hK hH he rfl 0 (by decide) (nl_13 hK) hv dX10_count_103 kk) ?_
      refine lv_iload_n hx hb dX10_count_106 rfl (lv_at hl 1 rfl) ?_
      refine lv_iconst (v := I 1) hx hb dX10_count_107 (by decide) ?_
      refine lv_isub hx hb dX10_count_108 ?_
      refine th_subo (fun z_12 rz_12 hz_12 => ?_)
      obtain ⟨z_13, e_14, rz_13, lz_13, uz_13⟩ := hO.gi hp_11 (by decide) k1_4
      obtain ⟨_, hc_15⟩ := hO.cell hp_11 (by decide) (ci := 9) rfl
      refine th_calli (va_runV (As := [.int (I z_12)]) (rest := []) ⟨hx, hb, hml, hown, hts⟩ (t_countKind l G y b0 σ (ad E (ad E a 9) 0) (tvE E σ (ad E (ad E a 9) 0) 60) z_12 (hO.isT1 hp_11) (show rng z_12 from rz_12)) (cwV 1 hts gX10_count_X9_countKind rfl rfl rfl (by decide +kernel) ⟨Nat.le_of_ble_eq_true rfl, Nat.le_of_ble_eq_true rfl⟩) (th_PV hK hH rfl hc_15) rfl rfl hl.1 rfl (lv_room (Nat.le_of_ble_eq_true rfl)) dX10_count_109 ⟨Nat.le_of_ble_eq_true rfl, Nat.le_of_ble_eq_true rfl⟩) hS (fun z_18 σ_s_17 H locs rz_18 hw_16 hH hS => ?_)
      obtain ⟨e9, hw_16⟩ := hw_16
      replace e9 := e9.symm
      subst e9
      replace hw_16 : 0 ≤ z_18 ∧ z_18 ≤ (gI σ (ad E (ad E a 9) 0) 4) := hw_16
      refine vx_ret ?_
      refine W.widen (k := 1) (n := 6) (Nat.le_of_ble_eq_true rfl) (Nat.le_of_ble_eq_true rfl) ?_
      exact th_iret hx hb hr hlocks hH hS (z := z_18) rz_18 ⟨hO, hF, ⟨by omega, (ef_2.trans h0row.symm), (eq_4.trans h0q.symm)⟩⟩ dX10_count_112
    · refine th_case (a := i) (n := 2) (fun c_5_2 => ?_) (fun c_5_2 => ?_)
      · refine th_topeq c_5_2 ?_
        refine lv_tableIn (tgt := 99) hx hb dX10_count_1 (by decide) (by decide) (by rfl) (by decide) ?_
        refine lv_aload_n hx hb dX10_count_99 rfl (lv_at hl 0 rfl) ?_
        have hp_19 : kd E (ad E a 9) = 5 := ok.pk hO h_a (by decide) k12_9 rfl
        refine ok.getR hO h_a (by decide) k12_9 (by decide) (fun _ _ he hv kk => th_get (ci := 10) (C := RX10) (T := TX10) (N := 18) hx hb hts inX10 hown hK hH he rfl 9 (by decide) fl0 hv dX10_count_100 kk) ?_
        have hp_20 : kd E (ad E (ad E a 9) 0) = 1 := ok.pk hO hp_19 (by decide) k5_0 rfl
        refine ok.getR hO hp_19 (by decide) k5_0 (by decide) (fun _ _ he hv kk => th_getN (ci := 6) (C := RX6) (T := TX6) (N := 7) hx hb hts inX6 hown hK hH he rfl 0 (by decide) (nl_13 hK) hv dX10_count_103 kk) ?_
        refine lv_iload_n hx hb dX10_count_106 rfl (lv_at hl 1 rfl) ?_
        refine lv_iconst (v := I 1) hx hb dX10_count_107 (by decide) ?_
        refine lv_isub hx hb dX10_count_108 ?_
        refine th_subo (fun z_21 rz_21 hz_21 => ?_)
        obtain ⟨z_22, e_23, rz_22, lz_22, uz_22⟩ := hO.gi hp_20 (by decide) k1_4
        obtain ⟨_, hc_24⟩ := hO.cell hp_20 (by decide) (ci := 9) rfl
        refine th_calli (va_runV (As := [.int (I z_21)]) (rest := []) ⟨hx, hb, hml, hown, hts⟩ (t_countKind l G y b0 σ (ad E (ad E a 9) 0) (tvE E σ (ad E (ad E a 9) 0) 60) z_21 (hO.isT1 hp_20) (show rng z_21 from rz_21)) (cwV 1 hts gX10_count_X9_countKind rfl rfl rfl (by decide +kernel) ⟨Nat.le_of_ble_eq_true rfl, Nat.le_of_ble_eq_true rfl⟩) (th_PV hK hH rfl hc_24) rfl rfl hl.1 rfl (lv_room (Nat.le_of_ble_eq_true rfl)) dX10_count_109 ⟨Nat.le_of_ble_eq_true rfl, Nat.le_of_ble_eq_true rfl⟩) hS (fun z_27 σ_s_26 H locs rz_27 hw_25 hH hS => ?_)
        obtain ⟨e9, hw_25⟩ := hw_25
        replace e9 := e9.symm
        subst e9
        replace hw_25 : 0 ≤ z_27 ∧ z_27 ≤ (gI σ (ad E (ad E a 9) 0) 4) := hw_25
        refine vx_ret ?_
        refine W.widen (k := 1) (n := 6) (Nat.le_of_ble_eq_true rfl) (Nat.le_of_ble_eq_true rfl) ?_
        exact th_iret hx hb hr hlocks hH hS (z := z_27) rz_27 ⟨hO, hF, ⟨by omega, (ef_2.trans h0row.symm), (eq_4.trans h0q.symm)⟩⟩ dX10_count_112
      · refine th_case (a := i) (n := 3) (fun c_5_3 => ?_) (fun c_5_3 => ?_)
        · refine th_topeq c_5_3 ?_
          refine lv_tableIn (tgt := 99) hx hb dX10_count_1 (by decide) (by decide) (by rfl) (by decide) ?_
          refine lv_aload_n hx hb dX10_count_99 rfl (lv_at hl 0 rfl) ?_
          have hp_28 : kd E (ad E a 9) = 5 := ok.pk hO h_a (by decide) k12_9 rfl
          refine ok.getR hO h_a (by decide) k12_9 (by decide) (fun _ _ he hv kk => th_get (ci := 10) (C := RX10) (T := TX10) (N := 18) hx hb hts inX10 hown hK hH he rfl 9 (by decide) fl0 hv dX10_count_100 kk) ?_
          have hp_29 : kd E (ad E (ad E a 9) 0) = 1 := ok.pk hO hp_28 (by decide) k5_0 rfl
          refine ok.getR hO hp_28 (by decide) k5_0 (by decide) (fun _ _ he hv kk => th_getN (ci := 6) (C := RX6) (T := TX6) (N := 7) hx hb hts inX6 hown hK hH he rfl 0 (by decide) (nl_13 hK) hv dX10_count_103 kk) ?_
          refine lv_iload_n hx hb dX10_count_106 rfl (lv_at hl 1 rfl) ?_
          refine lv_iconst (v := I 1) hx hb dX10_count_107 (by decide) ?_
          refine lv_isub hx hb dX10_count_108 ?_
          refine th_subo (fun z_30 rz_30 hz_30 => ?_)
          obtain ⟨z_31, e_32, rz_31, lz_31, uz_31⟩ := hO.gi hp_29 (by decide) k1_4
          obtain ⟨_, hc_33⟩ := hO.cell hp_29 (by decide) (ci := 9) rfl
          refine th_calli (va_runV (As := [.int (I z_30)]) (rest := []) ⟨hx, hb, hml, hown, hts⟩ (t_countKind l G y b0 σ (ad E (ad E a 9) 0) (tvE E σ (ad E (ad E a 9) 0) 60) z_30 (hO.isT1 hp_29) (show rng z_30 from rz_30)) (cwV 1 hts gX10_count_X9_countKind rfl rfl rfl (by decide +kernel) ⟨Nat.le_of_ble_eq_true rfl, Nat.le_of_ble_eq_true rfl⟩) (th_PV hK hH rfl hc_33) rfl rfl hl.1 rfl (lv_room (Nat.le_of_ble_eq_true rfl)) dX10_count_109 ⟨Nat.le_of_ble_eq_true rfl, Nat.le_of_ble_eq_true rfl⟩) hS (fun z_36 σ_s_35 H locs rz_36 hw_34 hH hS => ?_)
          obtain ⟨e9, hw_34⟩ := hw_34
          replace e9 := e9.symm
          subst e9
          replace hw_34 : 0 ≤ z_36 ∧ z_36 ≤ (gI σ (ad E (ad E a 9) 0) 4) := hw_34
          refine vx_ret ?_
          refine W.widen (k := 1) (n := 6) (Nat.le_of_ble_eq_true rfl) (Nat.le_of_ble_eq_true rfl) ?_
          exact th_iret hx hb hr hlocks hH hS (z := z_36) rz_36 ⟨hO, hF, ⟨by omega, (ef_2.trans h0row.symm), (eq_4.trans h0q.symm)⟩⟩ dX10_count_112
        · refine th_case (a := i) (n := 4) (fun c_5_4 => ?_) (fun c_5_4 => ?_)
          · refine th_topeq c_5_4 ?_
            refine lv_tableIn (tgt := 99) hx hb dX10_count_1 (by decide) (by decide) (by rfl) (by decide) ?_
            refine lv_aload_n hx hb dX10_count_99 rfl (lv_at hl 0 rfl) ?_
            have hp_37 : kd E (ad E a 9) = 5 := ok.pk hO h_a (by decide) k12_9 rfl
            refine ok.getR hO h_a (by decide) k12_9 (by decide) (fun _ _ he hv kk => th_get (ci := 10) (C := RX10) (T := TX10) (N := 18) hx hb hts inX10 hown hK hH he rfl 9 (by decide) fl0 hv dX10_count_100 kk) ?_
            have hp_38 : kd E (ad E (ad E a 9) 0) = 1 := ok.pk hO hp_37 (by decide) k5_0 rfl
            refine ok.getR hO hp_37 (by decide) k5_0 (by decide) (fun _ _ he hv kk => th_getN (ci := 6) (C := RX6) (T := TX6) (N := 7) hx hb hts inX6 hown hK hH he rfl 0 (by decide) (nl_13 hK) hv dX10_count_103 kk) ?_
            refine lv_iload_n hx hb dX10_count_106 rfl (lv_at hl 1 rfl) ?_
            refine lv_iconst (v := I 1) hx hb dX10_count_107 (by decide) ?_
            refine lv_isub hx hb dX10_count_108 ?_
            refine th_subo (fun z_39 rz_39 hz_39 => ?_)
            obtain ⟨z_40, e_41, rz_40, lz_40, uz_40⟩ := hO.gi hp_38 (by decide) k1_4
            obtain ⟨_, hc_42⟩ := hO.cell hp_38 (by decide) (ci := 9) rfl
            refine th_calli (va_runV (As := [.int (I z_39)]) (rest := []) ⟨hx, hb, hml, hown, hts⟩ (t_countKind l G y b0 σ (ad E (ad E a 9) 0) (tvE E σ (ad E (ad E a 9) 0) 60) z_39 (hO.isT1 hp_38) (show rng z_39 from rz_39)) (cwV 1 hts gX10_count_X9_countKind rfl rfl rfl (by decide +kernel) ⟨Nat.le_of_ble_eq_true rfl, Nat.le_of_ble_eq_true rfl⟩) (th_PV hK hH rfl hc_42) rfl rfl hl.1 rfl (lv_room (Nat.le_of_ble_eq_true rfl)) dX10_count_109 ⟨Nat.le_of_ble_eq_true rfl, Nat.le_of_ble_eq_true rfl⟩) hS (fun z_45 σ_s_44 H locs rz_45 hw_43 hH hS => ?_)
            obtain ⟨e9, hw_43⟩ := hw_43
            replace e9 := e9.symm
            subst e9
            replace hw_43 : 0 ≤ z_45 ∧ z_45 ≤ (gI σ (ad E (ad E a 9) 0) 4) := hw_43
            refine vx_ret ?_
            refine W.widen (k := 1) (n := 6) (Nat.le_of_ble_eq_true rfl) (Nat.le_of_ble_eq_true rfl) ?_
            exact th_iret hx hb hr hlocks hH hS (z := z_45) rz_45 ⟨hO, hF, ⟨by omega, (ef_2.trans h0row.symm), (eq_4.trans h0q.symm)⟩⟩ dX10_count_112
          · refine th_case (a := i) (n := 5) (fun c_5_5 => ?_) (fun c_5_5 => ?_)
            · refine th_topeq c_5_5 ?_
              refine lv_tableIn (tgt := 113) hx hb dX10_count_1 (by decide) (by decide) (by rfl) (by decide) ?_
              refine lv_aload_n hx hb dX10_count_113 rfl (lv_at hl 0 rfl) ?_
              have hp_46 : kd E (ad E a 9) = 5 := ok.pk hO h_a (by decide) k12_9 rfl
              refine ok.getR hO h_a (by decide) k12_9 (by decide) (fun _ _ he hv kk => th_get (ci := 10) (C := RX10) (T := TX10) (N := 18) hx hb hts inX10 hown hK hH he rfl 9 (by decide) fl0 hv dX10_count_114 kk) ?_
              have hp_47 : kd E (ad E (ad E a 9) 0) = 1 := ok.pk hO hp_46 (by decide) k5_0 rfl
              refine ok.getR hO hp_46 (by decide) k5_0 (by decide) (fun _ _ he hv kk => th_getN (ci := 6) (C := RX6) (T := TX6) (N := 7) hx hb hts inX6 hown hK hH he rfl 0 (by decide) (nl_13 hK) hv dX10_count_117 kk) ?_
              obtain ⟨_, hc_48⟩ := hO.cell hp_47 (by decide) (ci := 9) rfl
              refine th_calli (va_runV (As := []) (rest := []) ⟨hx, hb, hml, hown, hts⟩ (t1_deepest l G y b0 σ E hO (ad E (ad E a 9) 0) hp_47) (cwV 0 hts gX10_count_X9_deepest rfl rfl rfl (by decide +kernel) ⟨Nat.le_of_ble_eq_true rfl, Nat.le_of_ble_eq_true rfl⟩) (th_PV hK hH rfl hc_48) rfl rfl hl.1 rfl (lv_room (Nat.le_of_ble_eq_true rfl)) dX10_count_120 ⟨Nat.le_of_ble_eq_true rfl, Nat.le_of_ble_eq_true rfl⟩) hS (fun z_51 σ_s_50 H locs rz_51 hw_49 hH hS => ?_)
              obtain ⟨e9, hw_49⟩ := hw_49
              replace e9 := e9.symm
              subst e9
              replace hw_49 : 0 ≤ z_51 := hw_49
              refine vx_ret ?_
              refine W.widen (k := 1) (n := 6) (Nat.le_of_ble_eq_true rfl) (Nat.le_of_ble_eq_true rfl) ?_
              exact th_iret hx hb hr hlocks hH hS (z := z_51) rz_51 ⟨hO, hF, ⟨by omega, (ef_2.trans h0row.symm), (eq_4.trans h0q.symm)⟩⟩ dX10_count_123
            · refine th_case (a := i) (n := 6) (fun c_5_6 => ?_) (fun c_5_6 => ?_)
              · refine th_topeq c_5_6 ?_
                refine lv_tableIn (tgt := 124) hx hb dX10_count_1 (by decide) (by decide) (by rfl) (by decide) ?_
                refine lv_aload_n hx hb dX10_count_124 rfl (lv_at hl 0 rfl) ?_
                obtain ⟨_, hc_52⟩ := hO.cell h_a (by decide) (ci := 10) rfl
                refine th_calli (va_runV (As := []) (rest := []) ⟨hx, hb, hml, hown, hts⟩ (q_pathsThere l G y b0 σ E hO a h_a) (cwV 0 hts gX10_count_X10_pathsThere rfl rfl rfl (by decide +kernel) ⟨Nat.le_of_ble_eq_true rfl, Nat.le_of_ble_eq_true rfl⟩) (th_PV hK hH rfl hc_52) rfl rfl hl.1 rfl (lv_room (Nat.le_of_ble_eq_true rfl)) dX10_count_125 ⟨Nat.le_of_ble_eq_true rfl, Nat.le_of_ble_eq_true rfl⟩) hS (fun z_55 σ_s_54 H locs rz_55 hw_53 hH hS => ?_)
                obtain ⟨e9, hw_53⟩ := hw_53
                replace e9 := e9.symm
                subst e9
                refine vx_ret ?_
                refine W.widen (k := 1) (n := 6) (Nat.le_of_ble_eq_true rfl) (Nat.le_of_ble_eq_true rfl) ?_
                exact th_iret hx hb hr hlocks hH hS (z := z_55) rz_55 ⟨hO, hF, ⟨by omega, (ef_2.trans h0row.symm), (eq_4.trans h0q.symm)⟩⟩ dX10_count_128
              · refine th_case (a := i) (n := 7) (fun c_5_7 => ?_) (fun c_5_7 => ?_)
                · refine th_topeq c_5_7 ?_
                  refine lv_tableIn (tgt := 129) hx hb dX10_count_1 (by decide) (by decide) (by rfl) (by decide) ?_
                  refine lv_aload_n hx hb dX10_count_129 rfl (lv_at hl 0 rfl) ?_
                  have hp_56 : kd E (ad E a 9) = 5 := ok.pk hO h_a (by decide) k12_9 rfl
                  refine ok.getR hO h_a (by decide) k12_9 (by decide) (fun _ _ he hv kk => th_get (ci := 10) (C := RX10) (T := TX10) (N := 18) hx hb hts inX10 hown hK hH he rfl 9 (by decide) fl0 hv dX10_count_130 kk) ?_
                  have hp_57 : kd E (ad E (ad E a 9) 0) = 1 := ok.pk hO hp_56 (by decide) k5_0 rfl
                  refine ok.getR hO hp_56 (by decide) k5_0 (by decide) (fun _ _ he hv kk => th_getN (ci := 6) (C := RX6) (T := TX6) (N := 7) hx hb hts inX6 hown hK hH he rfl 0 (by decide) (nl_13 hK) hv dX10_count_133 kk) ?_
                  obtain ⟨_, hc_58⟩ := hO.cell hp_57 (by decide) (ci := 9) rfl
                  refine th_calli (va_runV (As := []) (rest := []) ⟨hx, hb, hml, hown, hts⟩ (t1_unlike l G y b0 σ E hO (ad E (ad E a 9) 0) hp_57) (cwV 0 hts gX10_count_X9_unlike rfl rfl rfl (by decide +kernel) ⟨Nat.le_of_ble_eq_true rfl, Nat.le_of_ble_eq_true rfl⟩) (th_PV hK hH rfl hc_58) rfl rfl hl.1 rfl (lv_room (Nat.le_of_ble_eq_true rfl)) dX10_count_136 ⟨Nat.le_of_ble_eq_true rfl, Nat.le_of_ble_eq_true rfl⟩) hS (fun z_61 σ_s_60 H locs rz_61 hw_59 hH hS => ?_)
                  obtain ⟨e9, hw_59⟩ := hw_59
                  replace e9 := e9.symm
                  subst e9
                  refine vx_ret ?_
                  refine W.widen (k := 1) (n := 6) (Nat.le_of_ble_eq_true rfl) (Nat.le_of_ble_eq_true rfl) ?_
                  exact th_iret hx hb hr hlocks hH hS (z := z_61) rz_61 ⟨hO, hF, ⟨by omega, (ef_2.trans h0row.symm), (eq_4.trans h0q.symm)⟩⟩ dX10_count_139
                · refine th_case (a := i) (n := 8) (fun c_5_8 => ?_) (fun c_5_8 => ?_)
                  · refine th_topeq c_5_8 ?_
                    refine lv_tableIn (tgt := 140) hx hb dX10_count_1 (by decide) (by decide) (by rfl) (by decide) ?_
                    refine lv_aload_n hx hb dX10_count_140 rfl (lv_at hl 0 rfl) ?_
                    have hp_62 : kd E (ad E a 13) = 7 := ok.pk hO h_a (by decide) k12_13 rfl
                    refine ok.getR hO h_a (by decide) k12_13 (by decide) (fun _ _ he hv kk => th_get (ci := 10) (C := RX10) (T := TX10) (N := 18) hx hb hts inX10 hown hK hH he rfl 13 (by decide) fl1 hv dX10_count_141 kk) ?_
                    refine ok.getI hO hp_62 (by decide) k7_4 (fun _ _ he hv kk => th_getN (ci := 3) (C := RX3) (T := TX3) (N := 5) hx hb hts inX3 hown hK hH he rfl 4 (by decide) (nl_17 hK) hv dX10_count_144 kk) (fun z_63 e_64 rz_63 lz_63 uz_63 => ?_)
                    refine vx_ret ?_
                    refine W.widen (k := 1) (n := 6) (Nat.le_of_ble_eq_true rfl) (Nat.le_of_ble_eq_true rfl) ?_
                    exact th_iret hx hb hr hlocks hH hS (z := z_63) rz_63 ⟨hO, hF, ⟨by omega, (ef_2.trans h0row.symm), (eq_4.trans h0q.symm)⟩⟩ dX10_count_147
                  · refine th_case (a := i) (n := 9) (fun c_5_9 => ?_) (fun c_5_9 => ?_)
                    · refine th_topeq c_5_9 ?_
                      refine lv_tableIn (tgt := 148) hx hb dX10_count_1 (by decide) (by decide) (by rfl) (by decide) ?_
                      refine lv_aload_n hx hb dX10_count_148 rfl (lv_at hl 0 rfl) ?_
                      refine ok.getI hO h_a (by decide) k12_11 (fun _ _ he hv kk => th_get (ci := 10) (C := RX10) (T := TX10) (N := 18) hx hb hts inX10 hown hK hH he rfl 11 (by decide) fl2 hv dX10_count_149 kk) (fun z_65 e_66 rz_65 lz_65 uz_65 => ?_)
                      refine lv_if_eq (tgt := 179) hx hb dX10_count_152 (by decide) (fun c_67 => ?_) (fun c_67 => ?_)
                      · replace c_67 := (I_eq (a := z_65) (b := 0) rz_65 (show rng 0 from ⟨by decide, by decide⟩)).mp c_67
                        refine lv_iconst (v := I (-1)) hx hb dX10_count_179 (by decide) ?_
                        refine vx_ret ?_
                        refine W.widen (k := 1) (n := 6) (Nat.le_of_ble_eq_true rfl) (Nat.le_of_ble_eq_true rfl) ?_
                        exact th_iret hx hb hr hlocks hH hS (z := (-1)) (show rng (-1) from ⟨by decide, by decide⟩) ⟨hO, hF, ⟨by omega, (ef_2.trans h0row.symm), (eq_4.trans h0q.symm)⟩⟩ dX10_count_180
                      · replace c_67 := mt (I_eq (a := z_65) (b := 0) rz_65 (show rng 0 from ⟨by decide, by decide⟩)).mpr c_67
                        refine lv_aload_n hx hb dX10_count_155 rfl (lv_at hl 0 rfl) ?_
                        have hp_68 : kd E (ad E a 14) = 7 := ok.pk hO h_a (by decide) k12_14 rfl
                        refine ok.getR hO h_a (by decide) k12_14 (by decide) (fun _ _ he hv kk => th_get (ci := 10) (C := RX10) (T := TX10) (N := 18) hx hb hts inX10 hown hK hH he rfl 14 (by decide) fl3 hv dX10_count_156 kk) ?_
                        refine lv_aload_n hx hb dX10_count_159 rfl (lv_at hl 0 rfl) ?_
                        have hp_69 : kd E (ad E a 10) = 5 := ok.pk hO h_a (by decide) k12_10 rfl
                        refine ok.getR hO h_a (by decide) k12_10 (by decide) (fun _ _ he hv kk => th_get (ci := 10) (C := RX10) (T := TX10) (N := 18) hx hb hts inX10 hown hK hH he rfl 10 (by decide) fl4 hv dX10_count_160 kk) ?_
                        have hp_70 : kd E (ad E (ad E a 10) 0) = 1 := ok.pk hO hp_69 (by decide) k5_0 rfl
                        refine ok.getR hO hp_69 (by decide) k5_0 (by decide) (fun _ _ he hv kk => th_getN (ci := 6) (C := RX6) (T := TX6) (N := 7) hx hb hts inX6 hown hK hH he rfl 0 (by decide) (nl_13 hK) hv dX10_count_163 kk) ?_
                        refine lv_aload_n hx hb dX10_count_166 rfl (lv_at hl 0 rfl) ?_
                        have hp_71 : kd E (ad E a 9) = 5 := ok.pk hO h_a (by decide) k12_9 rfl
                        refine ok.getR hO h_a (by decide) k12_9 (by decide) (fun _ _ he hv kk => th_get (ci := 10) (C := RX10) (T := TX10) (N := 18) hx hb hts inX10 hown hK hH he rfl 9 (by decide) fl0 hv dX10_count_167 kk) ?_
                        have hp_72 : kd E (ad E (ad E a 9) 0) = 1 := ok.pk hO hp_71 (by decide) k5_0 rfl
                        refine ok.getR hO hp_71 (by decide) k5_0 (by decide) (fun _ _ he hv kk => th_getN (ci := 6) (C := RX6) (T := TX6) (N := 7) hx hb hts inX6 hown hK hH he rfl 0 (by decide) (nl_13 hK) hv dX10_count_170 kk) ?_
                        obtain ⟨_, hc_73⟩ := hO.cell hp_68 (by decide) (ci := 3) rfl
                        refine th_calli (va_runV (As := [.ref (ad E (ad E a 10) 0), .ref (ad E (ad E a 9) 0)]) (rest := []) ⟨hx, hb, hml, hown, hts⟩ (h_compare l G y b0 σ E hO (ad E a 14) hp_68 (ad E (ad E a 10) 0) hp_70 (ad E (ad E a 9) 0) hp_72) (cwV 2 hts gX10_count_X3_compare rfl rfl rfl (by decide +kernel) ⟨Nat.le_of_ble_eq_true rfl, Nat.le_of_ble_eq_true rfl⟩) (th_PV hK hH rfl hc_73) rfl rfl hl.1 rfl (lv_room (Nat.le_of_ble_eq_true rfl)) dX10_count_173 ⟨Nat.le_of_ble_eq_true rfl, Nat.le_of_ble_eq_true rfl⟩) hS (fun z_76 σ_s_75 H locs rz_76 hw_74 hH hS => ?_)
                        obtain ⟨hO9, hF9, hw_74⟩ := hw_74
                        have e_77 : gI σ_s_75 a 1 = a10 := (fr.ki hO hF9 h_a (by decide) (by decide) _).trans ea10
                        have e_78 : gI σ_s_75 a 2 = a20 := (fr.ki hO hF9 h_a (by decide) (by decide) _).trans ea20
                        have e_79 : gI σ_s_75 a 11 = z_65 := (fr.ki hO hF9 h_a (by decide) (by decide) _).trans e_66
                        have ef_80 : aF σ_s_75 (ad E a 0) = f_1 := (fr.af hO hF9 h_a (by decide) (by decide) k12_0 isA1).trans ef_2
                        have eq_81 : aQ σ_s_75 (ad E a 3) = f_3 := (fr.aq hO hF9 h_a (by decide) (by decide) k12_3).trans eq_4
                        replace hO := hO9
                        replace hF := hF.tu hF9 (by decide)
                        refine lv_goto (tgt := 180) hx hb dX10_count_176 (by decide) ?_
                        refine vx_ret ?_
                        refine W.widen (k := 1) (n := 6) (Nat.le_of_ble_eq_true rfl) (Nat.le_of_ble_eq_true rfl) ?_
                        exact th_iret hx hb hr hlocks hH hS (z := z_76) rz_76 ⟨hO, hF, ⟨by omega, (ef_80.trans h0row.symm), (eq_81.trans h0q.symm)⟩⟩ dX10_count_180
                    · refine th_case (a := i) (n := 10) (fun c_5_10 => ?_) (fun c_5_10 => ?_)
                      · refine th_topeq c_5_10 ?_
                        refine lv_tableIn (tgt := 181) hx hb dX10_count_1 (by decide) (by decide) (by rfl) (by decide) ?_
                        refine lv_aload_n hx hb dX10_count_181 rfl (lv_at hl 0 rfl) ?_
                        have hp_82 : kd E (ad E a 9) = 5 := ok.pk hO h_a (by decide) k12_9 rfl
                        refine ok.getR hO h_a (by decide) k12_9 (by decide) (fun _ _ he hv kk => th_get (ci := 10) (C := RX10) (T := TX10) (N := 18) hx hb hts inX10 hown hK hH he rfl 9 (by decide) fl0 hv dX10_count_182 kk) ?_
                        refine ok.getI hO hp_82 (by decide) k5_2 (fun _ _ he hv kk => th_getN (ci := 6) (C := RX6) (T := TX6) (N := 7) hx hb hts inX6 hown hK hH he rfl 2 (by decide) (nl_15 hK) hv dX10_count_185 kk) (fun z_83 e_84 rz_83 lz_83 uz_83 => ?_)
                        refine vx_ret ?_
                        refine W.widen (k := 1) (n := 6) (Nat.le_of_ble_eq_true rfl) (Nat.le_of_ble_eq_true rfl) ?_
                        exact th_iret hx hb hr hlocks hH hS (z := z_83) rz_83 ⟨hO, hF, ⟨by omega, (ef_2.trans h0row.symm), (eq_4.trans h0q.symm)⟩⟩ dX10_count_188
                      · refine th_case (a := i) (n := 11) (fun c_5_11 => ?_) (fun c_5_11 => ?_)
                        · refine th_topeq c_5_11 ?_
                          refine lv_tableIn (tgt := 189) hx hb dX10_count_1 (by decide) (by decide) (by rfl) (by decide) ?_
                          refine lv_aload_n hx hb dX10_count_189 rfl (lv_at hl 0 rfl) ?_
                          have hp_85 : kd E (ad E a 9) = 5 := ok.pk hO h_a (by decide) k12_9 rfl
                          refine ok.getR hO h_a (by decide) k12_9 (by decide) (fun _ _ he hv kk => th_get (ci := 10) (C := RX10) (T := TX10) (N := 18) hx hb hts inX10 hown hK hH he rfl 9 (by decide) fl0 hv dX10_count_190 kk) ?_
                          refine ok.getI hO hp_85 (by decide) k5_5 (fun _ _ he hv kk => th_getN (ci := 6) (C := RX6) (T := TX6) (N := 7) hx hb hts inX6 hown hK hH he rfl 5 (by decide) (nl_16 hK) hv dX10_count_193 kk) (fun z_86 e_87 rz_86 lz_86 uz_86 => ?_)
                          refine vx_ret ?_
                          refine W.widen (k := 1) (n := 6) (Nat.le_of_ble_eq_true rfl) (Nat.le_of_ble_eq_true rfl) ?_
                          exact th_iret hx hb hr hlocks hH hS (z := z_86) rz_86 ⟨hO, hF, ⟨by omega, (ef_2.trans h0row.symm), (eq_4.trans h0q.symm)⟩⟩ dX10_count_196
                        · refine th_case (a := i) (n := 12) (fun c_5_12 => ?_) (fun c_5_12 => ?_)
                          · refine th_topeq c_5_12 ?_
                            refine lv_tableIn (tgt := 197) hx hb dX10_count_1 (by decide) (by decide) (by rfl) (by decide) ?_
                            refine lv_aload_n hx hb dX10_count_197 rfl (lv_at hl 0 rfl) ?_
                            refine ok.getIc hO h_a (by decide) k12_1 ea10 (fun _ _ he hv kk => th_get (ci := 10) (C := RX10) (T := TX10) (N := 18) hx hb hts inX10 hown hK hH he rfl 1 (by decide) fl5 hv dX10_count_198 kk) ?_
                            refine vx_ret ?_
                            refine W.widen (k := 1) (n := 6) (Nat.le_of_ble_eq_true rfl) (Nat.le_of_ble_eq_true rfl) ?_
                            exact th_iret hx hb hr hlocks hH hS (z := a10) ra10 ⟨hO, hF, ⟨by omega, (ef_2.trans h0row.symm), (eq_4.trans h0q.symm)⟩⟩ dX10_count_201
                          · refine th_case (a := i) (n := 13) (fun c_5_13 => ?_) (fun c_5_13 => ?_)
                            · refine th_topeq c_5_13 ?_
                              refine lv_tableIn (tgt := 202) hx hb dX10_count_1 (by decide) (by decide) (by rfl) (by decide) ?_
                              refine lv_aload_n hx hb dX10_count_202 rfl (lv_at hl 0 rfl) ?_
                              have hp_88 : kd E (ad E a 9) = 5 := ok.pk hO h_a (by decide) k12_9 rfl
                              refine ok.getR hO h_a (by decide) k12_9 (by decide) (fun _ _ he hv kk => th_get (ci := 10) (C := RX10) (T := TX10) (N := 18) hx hb hts inX10 hown hK hH he rfl 9 (by decide) fl0 hv dX10_count_203 kk) ?_
                              refine lv_iload_n hx hb dX10_count_206 rfl (lv_at hl 1 rfl) ?_
                              refine lv_bipush (v := I 13) hx hb dX10_count_207 (by decide) ?_
                              refine lv_isub hx hb dX10_count_209 ?_
                              refine th_subo (fun z_89 rz_89 hz_89 => ?_)
                              obtain ⟨_, hc_90⟩ := hO.cell hp_88 (by decide) (ci := 6) rfl
                              refine th_calli (va_runV (As := [.int (I z_89)]) (rest := []) ⟨hx, hb, hml, hown, hts⟩ (e_refusedOf l G y b0 σ E hO (ad E a 9) hp_88 z_89 (show rng z_89 from rz_89)) (cwV 1 hts gX10_count_X6_refusedOf rfl rfl rfl (by decide +kernel) ⟨Nat.le_of_ble_eq_true rfl, Nat.le_of_ble_eq_true rfl⟩) (th_PV hK hH rfl hc_90) rfl rfl hl.1 rfl (lv_room (Nat.le_of_ble_eq_true rfl)) dX10_count_210 ⟨Nat.le_of_ble_eq_true rfl, Nat.le_of_ble_eq_true rfl⟩) hS (fun z_93 σ_s_92 H locs rz_93 hw_91 hH hS => ?_)
                              obtain ⟨e9, hw_91⟩ := hw_91
                              replace e9 := e9.symm
                              subst e9
                              refine vx_ret ?_
                              refine W.widen (k := 1) (n := 6) (Nat.le_of_ble_eq_true rfl) (Nat.le_of_ble_eq_true rfl) ?_
                              exact th_iret hx hb hr hlocks hH hS (z := z_93) rz_93 ⟨hO, hF, ⟨by omega, (ef_2.trans h0row.symm), (eq_4.trans h0q.symm)⟩⟩ dX10_count_213
                            · refine th_case (a := i) (n := 14) (fun c_5_14 => ?_) (fun c_5_14 => ?_)
                              · refine th_topeq c_5_14 ?_
                                refine lv_tableIn (tgt := 202) hx hb dX10_count_1 (by decide) (by decide) (by rfl) (by decide) ?_
                                refine lv_aload_n hx hb dX10_count_202 rfl (lv_at hl 0 rfl) ?_
                                have hp_94 : kd E (ad E a 9) = 5 := ok.pk hO h_a (by decide) k12_9 rfl
                                refine ok.getR hO h_a (by decide) k12_9 (by decide) (fun _ _ he hv kk => th_get (ci := 10) (C := RX10) (T := TX10) (N := 18) hx hb hts inX10 hown hK hH he rfl 9 (by decide) fl0 hv dX10_count_203 kk) ?_
                                refine lv_iload_n hx hb dX10_count_206 rfl (lv_at hl 1 rfl) ?_
                                refine lv_bipush (v := I 13) hx hb dX10_count_207 (by decide) ?_
                                refine lv_isub hx hb dX10_count_209 ?_
                                refine th_subo (fun z_95 rz_95 hz_95 => ?_)
                                obtain ⟨_, hc_96⟩ := hO.cell hp_94 (by decide) (ci := 6) rfl
                                refine th_calli (va_runV (As := [.int (I z_95)]) (rest := []) ⟨hx, hb, hml, hown, hts⟩ (e_refusedOf l G y b0 σ E hO (ad E a 9) hp_94 z_95 (show rng z_95 from rz_95)) (cwV 1 hts gX10_count_X6_refusedOf rfl rfl rfl (by decide +kernel) ⟨Nat.le_of_ble_eq_true rfl, Nat.le_of_ble_eq_true rfl⟩) (th_PV hK hH rfl hc_96) rfl rfl hl.1 rfl (lv_room (Nat.le_of_ble_eq_true rfl)) dX10_count_210 ⟨Nat.le_of_ble_eq_true rfl, Nat.le_of_ble_eq_true rfl⟩) hS (fun z_99 σ_s_98 H locs rz_99 hw_97 hH hS => ?_)
                                obtain ⟨e9, hw_97⟩ := hw_97
                                replace e9 := e9.symm
                                subst e9
                                refine vx_ret ?_
                                refine W.widen (k := 1) (n := 6) (Nat.le_of_ble_eq_true rfl) (Nat.le_of_ble_eq_true rfl) ?_
                                exact th_iret hx hb hr hlocks hH hS (z := z_99) rz_99 ⟨hO, hF, ⟨by omega, (ef_2.trans h0row.symm), (eq_4.trans h0q.symm)⟩⟩ dX10_count_213
                              · refine th_case (a := i) (n := 15) (fun c_5_15 => ?_) (fun c_5_15 => ?_)
                                · refine th_topeq c_5_15 ?_
                                  refine lv_tableIn (tgt := 202) hx hb dX10_count_1 (by decide) (by decide) (by rfl) (by decide) ?_
                                  refine lv_aload_n hx hb dX10_count_202 rfl (lv_at hl 0 rfl) ?_
                                  have hp_100 : kd E (ad E a 9) = 5 := ok.pk hO h_a (by decide) k12_9 rfl
                                  refine ok.getR hO h_a (by decide) k12_9 (by decide) (fun _ _ he hv kk => th_get (ci := 10) (C := RX10) (T := TX10) (N := 18) hx hb hts inX10 hown hK hH he rfl 9 (by decide) fl0 hv dX10_count_203 kk) ?_
                                  refine lv_iload_n hx hb dX10_count_206 rfl (lv_at hl 1 rfl) ?_
                                  refine lv_bipush (v := I 13) hx hb dX10_count_207 (by decide) ?_
                                  refine lv_isub hx hb dX10_count_209 ?_
                                  refine th_subo (fun z_101 rz_101 hz_101 => ?_)
                                  obtain ⟨_, hc_102⟩ := hO.cell hp_100 (by decide) (ci := 6) rfl
                                  refine th_calli (va_runV (As := [.int (I z_101)]) (rest := []) ⟨hx, hb, hml, hown, hts⟩ (e_refusedOf l G y b0 σ E hO (ad E a 9) hp_100 z_101 (show rng z_101 from rz_101)) (cwV 1 hts gX10_count_X6_refusedOf rfl rfl rfl (by decide +kernel) ⟨Nat.le_of_ble_eq_true rfl, Nat.le_of_ble_eq_true rfl⟩) (th_PV hK hH rfl hc_102) rfl rfl hl.1 rfl (lv_room (Nat.le_of_ble_eq_true rfl)) dX10_count_210 ⟨Nat.le_of_ble_eq_true rfl, Nat.le_of_ble_eq_true rfl⟩) hS (fun z_105 σ_s_104 H locs rz_105 hw_103 hH hS => ?_)
                                  obtain ⟨e9, hw_103⟩ := hw_103
                                  replace e9 := e9.symm
                                  subst e9
                                  refine vx_ret ?_
                                  refine W.widen (k := 1) (n := 6) (Nat.le_of_ble_eq_true rfl) (Nat.le_of_ble_eq_true rfl) ?_
                                  exact th_iret hx hb hr hlocks hH hS (z := z_105) rz_105 ⟨hO, hF, ⟨by omega, (ef_2.trans h0row.symm), (eq_4.trans h0q.symm)⟩⟩ dX10_count_213
                                · refine th_case (a := i) (n := 16) (fun c_5_16 => ?_) (fun c_5_16 => ?_)
                                  · refine th_topeq c_5_16 ?_
                                    refine lv_tableIn (tgt := 214) hx hb dX10_count_1 (by decide) (by decide) (by rfl) (by decide) ?_
                                    refine lv_aload_n hx hb dX10_count_214 rfl (lv_at hl 0 rfl) ?_
                                    have hp_106 : kd E (ad E a 9) = 5 := ok.pk hO h_a (by decide) k12_9 rfl
                                    refine ok.getR hO h_a (by decide) k12_9 (by decide) (fun _ _ he hv kk => th_get (ci := 10) (C := RX10) (T := TX10) (N := 18) hx hb hts inX10 hown hK hH he rfl 9 (by decide) fl0 hv dX10_count_215 kk) ?_
                                    have hp_107 : kd E (ad E (ad E a 9) 0) = 1 := ok.pk hO hp_106 (by decide) k5_0 rfl
                                    refine ok.getR hO hp_106 (by decide) k5_0 (by decide) (fun _ _ he hv kk => th_getN (ci := 6) (C := RX6) (T := TX6) (N := 7) hx hb hts inX6 hown hK hH he rfl 0 (by decide) (nl_13 hK) hv dX10_count_218 kk) ?_
                                    obtain ⟨z_108, e_109, rz_108, lz_108, uz_108⟩ := hO.gi hp_107 (by decide) k1_4
                                    obtain ⟨_, hc_110⟩ := hO.cell hp_107 (by decide) (ci := 9) rfl
                                    refine th_calli (va_runV (As := []) (rest := []) ⟨hx, hb, hml, hown, hts⟩ (t_sum l G y b0 σ (ad E (ad E a 9) 0) (tvE E σ (ad E (ad E a 9) 0) 60)  (hO.isT1 hp_107) ) (cwV 0 hts gX10_count_X9_sum rfl rfl rfl (by decide +kernel) ⟨Nat.le_of_ble_eq_true rfl, Nat.le_of_ble_eq_true rfl⟩) (th_PV hK hH rfl hc_110) rfl rfl hl.1 rfl (lv_room (Nat.le_of_ble_eq_true rfl)) dX10_count_221 ⟨Nat.le_of_ble_eq_true rfl, Nat.le_of_ble_eq_true rfl⟩) hS (fun z_113 σ_s_112 H locs rz_113 hw_111 hH hS => ?_)
                                    obtain ⟨e9, hw_111⟩ := hw_111
                                    replace e9 := e9.symm
                                    subst e9
                                    refine vx_ret ?_
                                    refine W.widen (k := 1) (n := 6) (Nat.le_of_ble_eq_true rfl) (Nat.le_of_ble_eq_true rfl) ?_
                                    exact th_iret hx hb hr hlocks hH hS (z := z_113) rz_113 ⟨hO, hF, ⟨by omega, (ef_2.trans h0row.symm), (eq_4.trans h0q.symm)⟩⟩ dX10_count_224
                                  · refine th_case (a := i) (n := 17) (fun c_5_17 => ?_) (fun c_5_17 => ?_)
                                    · refine th_topeq c_5_17 ?_
                                      refine lv_tableIn (tgt := 225) hx hb dX10_count_1 (by decide) (by decide) (by rfl) (by decide) ?_
                                      refine lv_aload_n hx hb dX10_count_225 rfl (lv_at hl 0 rfl) ?_
                                      obtain ⟨_, hc_114⟩ := hO.cell h_a (by decide) (ci := 10) rfl
                                      refine th_calli (va_runV (As := []) (rest := []) ⟨hx, hb, hml, hown, hts⟩ (q_thatFit l G y b0 σ E hO a h_a) (cwV 0 hts gX10_count_X10_pathsThatFit rfl rfl rfl (by decide +kernel) ⟨Nat.le_of_ble_eq_true rfl, Nat.le_of_ble_eq_true rfl⟩) (th_PV hK hH rfl hc_114) rfl rfl hl.1 rfl (lv_room (Nat.le_of_ble_eq_true rfl)) dX10_count_226 ⟨Nat.le_of_ble_eq_true rfl, Nat.le_of_ble_eq_true rfl⟩) hS (fun z_117 σ_s_116 H locs rz_117 hw_115 hH hS => ?_)
                                      obtain ⟨hO9, hF9, hw_115⟩ := hw_115
                                      replace hO := hO9
                                      replace hF := hF.tu hF9 (by decide)
                                      replace hw_115 : (gI σ_s_116 a 2 = gI σ a 2 ∧ gI σ_s_116 a 1 = gI σ a 1) ∧ aF σ_s_116 (ad E a 0) = aF σ (ad E a 0) ∧ aQ σ_s_116 (ad E a 3) = aQ σ (ad E a 3) := hw_115
                                      have ef_118 : aF σ_s_116 (ad E a 0) = f_1 := (hw_115.2.1).trans ef_2
                                      have eq_119 : aQ σ_s_116 (ad E a 3) = f_3 := (hw_115.2.2).trans eq_4
                                      obtain ⟨z_120, e_121, rz_120, lz_120, uz_120⟩ := hO.gi h_a (by decide) k12_2
                                      refine vx_ret ?_
                                      refine W.widen (k := 1) (n := 6) (Nat.le_of_ble_eq_true rfl) (Nat.le_of_ble_eq_true rfl) ?_
                                      exact th_iret hx hb hr hlocks hH hS (z := z_117) rz_117 ⟨hO, hF, ⟨by omega, (ef_118.trans h0row.symm), (eq_119.trans h0q.symm)⟩⟩ dX10_count_229
                                    · refine th_tableOut (tgt := 230) hx hb ri dX10_count_1 (by omega) (by decide) ?_
                                      exact th_throwN (text := "no such count") hx hb hl0 hown hts (by first | exact fun w h => List.mem_cons_of_mem _ (List.mem_append_right _ h) | exact fun w h => List.mem_cons_of_mem _ (List.mem_append_left _ (List.mem_append_right _ h)) | decide +kernel) (by decide +kernel) (by decide +kernel) hXs hS hH (hl.1.trans hml.symm) htab hlocks (List.mem_of_getElem? (i := 2) rfl) dX10_count_230 dX10_count_233 dX10_count_234 dX10_count_236 dX10_count_239 (Nat.le_of_ble_eq_true rfl) (Nat.le_of_ble_eq_true rfl) (Nat.le_of_ble_eq_true rfl) (Nat.le_of_ble_eq_true rfl) ⟨hO, hF, ⟨⟨rfl, by omega⟩, (ef_2.trans h0row.symm), (eq_4.trans h0q.symm)⟩⟩ (Nat.le_of_ble_eq_true rfl) (Nat.le_of_ble_eq_true rfl)

set_option maxHeartbeats 1000000 in
set_option maxRecDepth 100000 in
theorem x_thing (l : Launch) (hl0 : l.stackTraces = false) (G : va_G) (y : Nat → ClassId) (b0 : Nat) (σ : th_M) (E : th_E) (hO : ok y E σ) (a : Nat) (h_a : kd E a = 12) (i : Int) (ri : rng i) (j : Int) (rj : rng j) : vx_Met l yX10_thing wsX10_thing ({ frames := 62, cells := 2, slots := 12, locals := 1341 }) (th_PX G y b0 σ [.ref a, .int (I i), .int (I j)]) (th_Qi G b0 (fun r σ1 => ok y E σ1 ∧ fr [12] E σ σ1 ∧ ((gI σ1 a 2 = gI σ a 2 ∧ gI σ1 a 1 = gI σ a 1) ∧ aF σ1 (ad E a 0) = aF σ (ad E a 0) ∧ aQ σ1 (ad E a 3) = aQ σ (ad E a 3)))) (th_XX G b0 (fun X σ1 => ok y E σ1 ∧ fr [12] E σ σ1 ∧ ((X = nq_NSE ∧ gI σ1 a 1 = gI σ a 1 ∧ gI σ1 a 2 = gI σ a 2) ∧ aF σ1 (ad E a 0) = aF σ (ad E a 0) ∧ aQ σ1 (ad E a 3) = aQ σ (ad E a 3)))) 2 12 (th_A b0) := by
  refine vx_ofW (cc := cX10_thing) (maxL := 3) (ret := (some .int)) (by decide) rfl ?_
  intro p e s m args below meth c s₁ B hml htab hv
  obtain ⟨rfl, hH, hK, hXs⟩ := hv
  have hx := B.exec
  have hb := B.bytes
  have hr := B.returns
  have hts := atoms_spec (ws := wsX10_thing) B.pre
  have hown : s.vm.findClass RX10 = some m.cls := findClass_of_methodNamed B.named
  have hlocks := B.notSynchronized
  have h00 : b0 ≤ s.heap.size := hH.1
  have hS : va_S (th_A b0) s.heap s.heap [] := va_S.rf
  have hF : fr [12] E σ σ := fr.rf
  have inX10 : ∀ w ∈ wsX100, w ∈ wsX10_thing := by decide +kernel
  have inX6 : ∀ w ∈ wsX60, w ∈ wsX10_thing := by decide +kernel
  have fl0 := hts (.fieldLink RX10 63 "NestQuery" "now" "LNestQuery$State;") (by decide +kernel)
  have hl := lv_entry ([.ref a, .int (I i), .int (I j)]) (n := 3) (Nat.le_of_ble_eq_true rfl)
  rw [lg_entry_eq]
  generalize (lg_sl ([.ref a, .int (I i), .int (I j)]) ++ List.replicate (3 - (lg_sl ([.ref a, .int (I i), .int (I j)])).length) Slot.unset).toArray = ls at hl ⊢
  have hl : lv_has ls 3 [(0, .ref a), (1, .int (I i)), (2, .int (I j))] := hl
  obtain ⟨a10, ea10, ra10, la10, ua10⟩ := hO.gi h_a (by decide) k12_1
  obtain ⟨a20, ea20, ra20, la20, ua20⟩ := hO.gi h_a (by decide) k12_2
  obtain ⟨f_1, ef_2⟩ : ∃ f9, aF σ (ad E a 0) = f9 := ⟨_, rfl⟩
  have h0row := ef_2
  obtain ⟨f_3, eq_4⟩ : ∃ f9, aQ σ (ad E a 3) = f9 := ⟨_, rfl⟩
  have h0q := eq_4
  refine lv_aload_n hx hb dX10_thing_0 rfl (lv_at hl 0 rfl) ?_
  refine lv_iload_n hx hb dX10_thing_1 rfl (lv_at hl 1 rfl) ?_
  obtain ⟨_, hc_5⟩ := hO.cell h_a (by decide) (ci := 10) rfl
  refine th_xcallv (vx_runV (As := [.int (I i)]) (rest := []) ⟨hx, hb, hml, hown, hts⟩ (x_must l hl0 G y b0 σ E hO a h_a i (show rng i from ri)) (cwV 1 hts gX10_thing_X10_mustBeThere rfl rfl rfl (by decide +kernel) ⟨Nat.le_of_ble_eq_true rfl, Nat.le_of_ble_eq_true rfl⟩) (th_PXV hK hXs hS hH rfl hc_5) rfl rfl hl.1 rfl (lv_room (Nat.le_of_ble_eq_true rfl)) dX10_thing_2 ⟨Nat.le_of_ble_eq_true rfl, Nat.le_of_ble_eq_true rfl⟩) hS (fun X9 ce9 q9 σ_s_7 H locs hx_8 hH hS h1 h2 h3 => ?_) (fun σ_s_7 H locs hw_6 hH hS => ?_)
  · obtain ⟨hO9, hF9, hx_8⟩ := hx_8
    have hx_8 : X9 = nq_NSE ∧ True := hx_8
    have e_9 : gI σ_s_7 a 1 = a10 := (fr.ki hO hF9 h_a (by decide) (by decide) _).trans ea10
    have e_10 : gI σ_s_7 a 2 = a20 := (fr.ki hO hF9 h_a (by decide) (by decide) _).trans ea20
    have ef_11 : aF σ_s_7 (ad E a 0) = f_1 := (fr.af hO hF9 h_a (by decide) (by decide) k12_0 isA1).trans ef_2
    have eq_12 : aQ σ_s_7 (ad E a 3) = f_3 := (fr.aq hO hF9 h_a (by decide) (by decide) k12_3).trans eq_4
    replace hO := hO9
    replace hF := hF.tu hF9 (by decide)
    exact th_xout htab hlocks hS hH ⟨hO, hF, ⟨⟨hx_8.1, by omega⟩, (ef_11.trans h0row.symm), (eq_12.trans h0q.symm)⟩⟩ h1 h2 h3 (Nat.le_of_ble_eq_true rfl) (Nat.le_of_ble_eq_true rfl)
  · obtain ⟨hO9, hF9, hw_6⟩ := hw_6
    have e_13 : gI σ_s_7 a 1 = a10 := (fr.ki hO hF9 h_a (by decide) (by decide) _).trans ea10
    have e_14 : gI σ_s_7 a 2 = a20 := (fr.ki hO hF9 h_a (by decide) (by decide) _).trans ea20
    have ef_15 : aF σ_s_7 (ad E a 0) = f_1 := (fr.af hO hF9 h_a (by decide) (by decide) k12_0 isA1).trans ef_2
    have eq_16 : aQ σ_s_7 (ad E a 3) = f_3 := (fr.aq hO hF9 h_a (by decide) (by decide) k12_3).trans eq_4
    replace hO := hO9
    replace hF := hF.tu hF9 (by decide)
    replace hw_6 : 0 ≤ i ∧ i ≤ 59 := hw_6
    refine lv_iload_n hx hb dX10_thing_5 rfl (lv_at hl 2 rfl) ?_
    refine th_case (a := j) (n := 0) (fun c_17_0 => ?_) (fun c_17_0 => ?_)
    · refine th_topeq c_17_0 ?_
      refine lv_tableIn (tgt := 60) hx hb dX10_thing_6 (by decide) (by decide) (by rfl) (by decide) ?_
      refine lv_aload_n hx hb dX10_thing_60 rfl (lv_at hl 0 rfl) ?_
      have hp_18 : kd E (ad E a 9) = 5 := ok.pk hO h_a (by decide) k12_9 rfl
      refine ok.getR hO h_a (by decide) k12_9 (by decide) (fun _ _ he hv kk => th_get (ci := 10) (C := RX10) (T := TX10) (N := 18) hx hb hts inX10 hown hK hH he rfl 9 (by decide) fl0 hv dX10_thing_61 kk) ?_
      have hp_19 : kd E (ad E (ad E a 9) 0) = 1 := ok.pk hO hp_18 (by decide) k5_0 rfl
      refine ok.getR hO hp_18 (by decide) k5_0 (by decide) (fun _ _ he hv kk => th_getN (ci := 6) (C := RX6) (T := TX6) (N := 7) hx hb hts inX6 hown hK hH he rfl 0 (by decide) (nl_13 hK) hv dX10_thing_64 kk) ?_
      refine lv_iload_n hx hb dX10_thing_67 rfl (lv_at hl 1 rfl) ?_
      obtain ⟨z_20, e_21, rz_20, lz_20, uz_20⟩ := hO.gi hp_19 (by decide) k1_4
      obtain ⟨_, hc_22⟩ := hO.cell hp_19 (by decide) (ci := 9) rfl
      refine th_calli (va_runV (As := [.int (I i)]) (rest := []) ⟨hx, hb, hml, hown, hts⟩ (t_kindAt l G y b0 σ_s_7 (ad E (ad E a 9) 0) (tvE E σ_s_7 (ad E (ad E a 9) 0) 60) i (hO.isT1 hp_19) (show rng i from ri)) (cwV 1 hts gX10_thing_X9_kindAt rfl rfl rfl (by decide +kernel) ⟨Nat.le_of_ble_eq_true rfl, Nat.le_of_ble_eq_true rfl⟩) (th_PV hK hH rfl hc_22) rfl rfl hl.1 rfl (lv_room (Nat.le_of_ble_eq_true rfl)) dX10_thing_68 ⟨Nat.le_of_ble_eq_true rfl, Nat.le_of_ble_eq_true rfl⟩) hS (fun z_25 σ_s_24 H locs rz_25 hw_23 hH hS => ?_)
      obtain ⟨e9, hw_23⟩ := hw_23
      replace e9 := e9.symm
      subst e9
      replace hw_23 : (0 ≤ i ∧ i < (gI σ_s_7 (ad E (ad E a 9) 0) 4)) ∨ z_25 = -1 := hw_23
      refine vx_ret ?_
      refine W.widen (k := 2) (n := 12) (Nat.le_of_ble_eq_true rfl) (Nat.le_of_ble_eq_true rfl) ?_
      exact th_iret hx hb hr hlocks hH hS (z := z_25) rz_25 ⟨hO, hF, ⟨by omega, (ef_15.trans h0row.symm), (eq_16.trans h0q.symm)⟩⟩ dX10_thing_71
    · refine th_case (a := j) (n := 1) (fun c_17_1 => ?_) (fun c_17_1 => ?_)
      · refine th_topeq c_17_1 ?_
        refine lv_tableIn (tgt := 72) hx hb dX10_thing_6 (by decide) (by decide) (by rfl) (by decide) ?_
        refine lv_aload_n hx hb dX10_thing_72 rfl (lv_at hl 0 rfl) ?_
        have hp_26 : kd E (ad E a 9) = 5 := ok.pk hO h_a (by decide) k12_9 rfl
        refine ok.getR hO h_a (by decide) k12_9 (by decide) (fun _ _ he hv kk => th_get (ci := 10) (C := RX10) (T := TX10) (N := 18) hx hb hts inX10 hown hK hH he rfl 9 (by decide) fl0 hv dX10_thing_73 kk) ?_
        have hp_27 : kd E (ad E (ad E a 9) 0) = 1 := ok.pk hO hp_26 (by decide) k5_0 rfl
        refine ok.getR hO hp_26 (by decide) k5_0 (by decide) (fun _ _ he hv kk => th_getN (ci := 6) (C := RX6) (T := TX6) (N := 7) hx hb hts inX6 hown hK hH he rfl 0 (by decide) (nl_13 hK) hv dX10_thing_76 kk) ?_
        refine lv_iload_n hx hb dX10_thing_79 rfl (lv_at hl 1 rfl) ?_
        obtain ⟨z_28, e_29, rz_28, lz_28, uz_28⟩ := hO.gi hp_27 (by decide) k1_4
        obtain ⟨_, hc_30⟩ := hO.cell hp_27 (by decide) (ci := 9) rfl
        refine th_calli (va_runV (As := [.int (I i)]) (rest := []) ⟨hx, hb, hml, hown, hts⟩ (t_parentOf l G y b0 σ_s_7 (ad E (ad E a 9) 0) (tvE E σ_s_7 (ad E (ad E a 9) 0) 60) i (hO.isT1 hp_27) (show rng i from ri)) (cwV 1 hts gX10_thing_X9_parentOf rfl rfl rfl (by decide +kernel) ⟨Nat.le_of_ble_eq_true rfl, Nat.le_of_ble_eq_true rfl⟩) (th_PV hK hH rfl hc_30) rfl rfl hl.1 rfl (lv_room (Nat.le_of_ble_eq_true rfl)) dX10_thing_80 ⟨Nat.le_of_ble_eq_true rfl, Nat.le_of_ble_eq_true rfl⟩) hS (fun z_33 σ_s_32 H locs rz_33 hw_31 hH hS => ?_)
        obtain ⟨e9, hw_31⟩ := hw_31
        replace e9 := e9.symm
        subst e9
        replace hw_31 : z_33 = -1 ∨ (0 ≤ z_33 ∧ z_33 < i ∧ i < (gI σ_s_7 (ad E (ad E a 9) 0) 4)) := hw_31
        refine vx_ret ?_
        refine W.widen (k := 2) (n := 12) (Nat.le_of_ble_eq_true rfl) (Nat.le_of_ble_eq_true rfl) ?_
        exact th_iret hx hb hr hlocks hH hS (z := z_33) rz_33 ⟨hO, hF, ⟨by omega, (ef_15.trans h0row.symm), (eq_16.trans h0q.symm)⟩⟩ dX10_thing_83
      · refine th_case (a := j) (n := 2) (fun c_17_2 => ?_) (fun c_17_2 => ?_)
        · refine th_topeq c_17_2 ?_
          refine lv_tableIn (tgt := 84) hx hb dX10_thing_6 (by decide) (by decide) (by rfl) (by decide) ?_
          refine lv_aload_n hx hb dX10_thing_84 rfl (lv_at hl 0 rfl) ?_
          have hp_34 : kd E (ad E a 9) = 5 := ok.pk hO h_a (by decide) k12_9 rfl
          refine ok.getR hO h_a (by decide) k12_9 (by decide) (fun _ _ he hv kk => th_get (ci := 10) (C := RX10) (T := TX10) (N := 18) hx hb hts inX10 hown hK hH he rfl 9 (by decide) fl0 hv dX10_thing_85 kk) ?_
          have hp_35 : kd E (ad E (ad E a 9) 0) = 1 := ok.pk hO hp_34 (by decide) k5_0 rfl
          refine ok.getR hO hp_34 (by decide) k5_0 (by decide) (fun _ _ he hv kk => th_getN (ci := 6) (C := RX6) (T := TX6) (N := 7) hx hb hts inX6 hown hK hH he rfl 0 (by decide) (nl_13 hK) hv dX10_thing_88 kk) ?_
          refine lv_iload_n hx hb dX10_thing_91 rfl (lv_at hl 1 rfl) ?_
          obtain ⟨z_36, e_37, rz_36, lz_36, uz_36⟩ := hO.gi hp_35 (by decide) k1_4
          obtain ⟨_, hc_38⟩ := hO.cell hp_35 (by decide) (ci := 9) rfl
          refine th_calli (va_runV (As := [.int (I i)]) (rest := []) ⟨hx, hb, hml, hown, hts⟩ (t_placeOf l G y b0 σ_s_7 (ad E (ad E a 9) 0) (tvE E σ_s_7 (ad E (ad E a 9) 0) 60) i (hO.isT1 hp_35) (show rng i from ri)) (cwV 1 hts gX10_thing_X9_placeOf rfl rfl rfl (by decide +kernel) ⟨Nat.le_of_ble_eq_true rfl, Nat.le_of_ble_eq_true rfl⟩) (th_PV hK hH rfl hc_38) rfl rfl hl.1 rfl (lv_room (Nat.le_of_ble_eq_true rfl)) dX10_thing_92 ⟨Nat.le_of_ble_eq_true rfl, Nat.le_of_ble_eq_true rfl⟩) hS (fun z_41 σ_s_40 H locs rz_41 hw_39 hH hS => ?_)
          obtain ⟨e9, hw_39⟩ := hw_39
          replace e9 := e9.symm
          subst e9
          replace hw_39 : -1 ≤ z_41 ∧ z_41 ≤ 128 := hw_39
          refine vx_ret ?_
          refine W.widen (k := 2) (n := 12) (Nat.le_of_ble_eq_true rfl) (Nat.le_of_ble_eq_true rfl) ?_
          exact th_iret hx hb hr hlocks hH hS (z := z_41) rz_41 ⟨hO, hF, ⟨by omega, (ef_15.trans h0row.symm), (eq_16.trans h0q.symm)⟩⟩ dX10_thing_95
        · refine th_case (a := j) (n := 3) (fun c_17_3 => ?_) (fun c_17_3 => ?_)
          · refine th_topeq c_17_3 ?_
            refine lv_tableIn (tgt := 96) hx hb dX10_thing_6 (by decide) (by decide) (by rfl) (by decide) ?_
            refine lv_aload_n hx hb dX10_thing_96 rfl (lv_at hl 0 rfl) ?_
            have hp_42 : kd E (ad E a 9) = 5 := ok.pk hO h_a (by decide) k12_9 rfl
            refine ok.getR hO h_a (by decide) k12_9 (by decide) (fun _ _ he hv kk => th_get (ci := 10) (C := RX10) (T := TX10) (N := 18) hx hb hts inX10 hown hK hH he rfl 9 (by decide) fl0 hv dX10_thing_97 kk) ?_
            have hp_43 : kd E (ad E (ad E a 9) 0) = 1 := ok.pk hO hp_42 (by decide) k5_0 rfl
            refine ok.getR hO hp_42 (by decide) k5_0 (by decide) (fun _ _ he hv kk => th_getN (ci := 6) (C := RX6) (T := TX6) (N := 7) hx hb hts inX6 hown hK hH he rfl 0 (by decide) (nl_13 hK) hv dX10_thing_100 kk) ?_
            refine lv_iload_n hx hb dX10_thing_103 rfl (lv_at hl 1 rfl) ?_
            obtain ⟨_, hc_44⟩ := hO.cell hp_43 (by decide) (ci := 9) rfl
            refine th_calli (va_runV (As := [.int (I i)]) (rest := []) ⟨hx, hb, hml, hown, hts⟩ (t1_depthAt l G y b0 σ_s_7 E hO (ad E (ad E a 9) 0) hp_43 i (show rng i from ri)) (cwV 1 hts gX10_thing_X9_depthAt rfl rfl rfl (by decide +kernel) ⟨Nat.le_of_ble_eq_true rfl, Nat.le_of_ble_eq_true rfl⟩) (th_PV hK hH rfl hc_44) rfl rfl hl.1 rfl (lv_room (Nat.le_of_ble_eq_true rfl)) dX10_thing_104 ⟨Nat.le_of_ble_eq_true rfl, Nat.le_of_ble_eq_true rfl⟩) hS (fun z_47 σ_s_46 H locs rz_47 hw_45 hH hS => ?_)
            obtain ⟨e9, hw_45⟩ := hw_45
            replace e9 := e9.symm
            subst e9
            replace hw_45 : z_47 ≤ 7 ∧ ((0 ≤ i ∧ i < gI σ_s_7 (ad E (ad E a 9) 0) 4) ∨ (z_47 = -1 ∧ ¬ (0 ≤ i ∧ i < gI σ_s_7 (ad E (ad E a 9) 0) 4))) := hw_45
            refine vx_ret ?_
            refine W.widen (k := 2) (n := 12) (Nat.le_of_ble_eq_true rfl) (Nat.le_of_ble_eq_true rfl) ?_
            exact th_iret hx hb hr hlocks hH hS (z := z_47) rz_47 ⟨hO, hF, ⟨by omega, (ef_15.trans h0row.symm), (eq_16.trans h0q.symm)⟩⟩ dX10_thing_107
          · refine th_case (a := j) (n := 4) (fun c_17_4 => ?_) (fun c_17_4 => ?_)
            · refine th_topeq c_17_4 ?_
              refine lv_tableIn (tgt := 108) hx hb dX10_thing_6 (by decide) (by decide) (by rfl) (by decide) ?_
              refine lv_aload_n hx hb dX10_thing_108 rfl (lv_at hl 0 rfl) ?_
              have hp_48 : kd E (ad E a 9) = 5 := ok.pk hO h_a (by decide) k12_9 rfl
              refine ok.getR hO h_a (by decide) k12_9 (by decide) (fun _ _ he hv kk => th_get (ci := 10) (C := RX10) (T := TX10) (N := 18) hx hb hts inX10 hown hK hH he rfl 9 (by decide) fl0 hv dX10_thing_109 kk) ?_
              have hp_49 : kd E (ad E (ad E a 9) 0) = 1 := ok.pk hO hp_48 (by decide) k5_0 rfl
              refine ok.getR hO hp_48 (by decide) k5_0 (by decide) (fun _ _ he hv kk => th_getN (ci := 6) (C := RX6) (T := TX6) (N := 7) hx hb hts inX6 hown hK hH he rfl 0 (by decide) (nl_13 hK) hv dX10_thing_112 kk) ?_
              refine lv_iload_n hx hb dX10_thing_115 rfl (lv_at hl 1 rfl) ?_
              obtain ⟨z_50, e_51, rz_50, lz_50, uz_50⟩ := hO.gi hp_49 (by decide) k1_4
              obtain ⟨_, hc_52⟩ := hO.cell hp_49 (by decide) (ci := 9) rfl
              refine th_calli (va_runV (As := [.int (I i)]) (rest := []) ⟨hx, hb, hml, hown, hts⟩ (t_childCount l G y b0 σ_s_7 (ad E (ad E a 9) 0) (tvE E σ_s_7 (ad E (ad E a 9) 0) 60) i (hO.isT1 hp_49) (show rng i from ri)) (cwV 1 hts gX10_thing_X9_childCount rfl rfl rfl (by decide +kernel) ⟨Nat.le_of_ble_eq_true rfl, Nat.le_of_ble_eq_true rfl⟩) (th_PV hK hH rfl hc_52) rfl rfl hl.1 rfl (lv_room (Nat.le_of_ble_eq_true rfl)) dX10_thing_116 ⟨Nat.le_of_ble_eq_true rfl, Nat.le_of_ble_eq_true rfl⟩) hS (fun z_55 σ_s_54 H locs rz_55 hw_53 hH hS => ?_)
              obtain ⟨e9, hw_53⟩ := hw_53
              replace e9 := e9.symm
              subst e9
              replace hw_53 : 0 ≤ z_55 ∧ z_55 ≤ (gI σ_s_7 (ad E (ad E a 9) 0) 4) := hw_53
              refine vx_ret ?_
              refine W.widen (k := 2) (n := 12) (Nat.le_of_ble_eq_true rfl) (Nat.le_of_ble_eq_true rfl) ?_
              exact th_iret hx hb hr hlocks hH hS (z := z_55) rz_55 ⟨hO, hF, ⟨by omega, (ef_15.trans h0row.symm), (eq_16.trans h0q.symm)⟩⟩ dX10_thing_119
            · refine th_case (a := j) (n := 5) (fun c_17_5 => ?_) (fun c_17_5 => ?_)
              · refine th_topeq c_17_5 ?_
                refine lv_tableIn (tgt := 120) hx hb dX10_thing_6 (by decide) (by decide) (by rfl) (by decide) ?_
                refine lv_aload_n hx hb dX10_thing_120 rfl (lv_at hl 0 rfl) ?_
                have hp_56 : kd E (ad E a 9) = 5 := ok.pk hO h_a (by decide) k12_9 rfl
                refine ok.getR hO h_a (by decide) k12_9 (by decide) (fun _ _ he hv kk => th_get (ci := 10) (C := RX10) (T := TX10) (N := 18) hx hb hts inX10 hown hK hH he rfl 9 (by decide) fl0 hv dX10_thing_121 kk) ?_
                have hp_57 : kd E (ad E (ad E a 9) 0) = 1 := ok.pk hO hp_56 (by decide) k5_0 rfl
                refine ok.getR hO hp_56 (by decide) k5_0 (by decide) (fun _ _ he hv kk => th_getN (ci := 6) (C := RX6) (T := TX6) (N := 7) hx hb hts inX6 hown hK hH he rfl 0 (by decide) (nl_13 hK) hv dX10_thing_124 kk) ?_
                refine lv_iload_n hx hb dX10_thing_127 rfl (lv_at hl 1 rfl) ?_
                obtain ⟨z_58, e_59, rz_58, lz_58, uz_58⟩ := hO.gi hp_57 (by decide) k1_4
                obtain ⟨_, hc_60⟩ := hO.cell hp_57 (by decide) (ci := 9) rfl
                refine th_calli (va_runV (As := [.int (I i)]) (rest := []) ⟨hx, hb, hml, hown, hts⟩ (t_end l G y b0 σ_s_7 (ad E (ad E a 9) 0) (tvE E σ_s_7 (ad E (ad E a 9) 0) 60) i (hO.isT1 hp_57) (show rng i from ri)) (cwV 1 hts gX10_thing_X9_end rfl rfl rfl (by decide +kernel) ⟨Nat.le_of_ble_eq_true rfl, Nat.le_of_ble_eq_true rfl⟩) (th_PV hK hH rfl hc_60) rfl rfl hl.1 rfl (lv_room (Nat.le_of_ble_eq_true rfl)) dX10_thing_128 ⟨Nat.le_of_ble_eq_true rfl, Nat.le_of_ble_eq_true rfl⟩) hS (fun z_63 σ_s_62 H locs rz_63 hw_61 hH hS => ?_)
                obtain ⟨e9, hw_61⟩ := hw_61
                replace e9 := e9.symm
                subst e9
                replace hw_61 : ((0 ≤ i ∧ i < (gI σ_s_7 (ad E (ad E a 9) 0) 4)) ∧ i ≤ z_63 ∧ z_63 < (gI σ_s_7 (ad E (ad E a 9) 0) 4)) ∨ (z_63 = -1 ∧ ¬ (0 ≤ i ∧ i < (gI σ_s_7 (ad E (ad E a 9) 0) 4))) := hw_61
                refine vx_ret ?_
                refine W.widen (k := 2) (n := 12) (Nat.le_of_ble_eq_true rfl) (Nat.le_of_ble_eq_true rfl) ?_
                exact th_iret hx hb hr hlocks hH hS (z := z_63) rz_63 ⟨hO, hF, ⟨by omega, (ef_15.trans h0row.symm), (eq_16.trans h0q.symm)⟩⟩ dX10_thing_131
              · refine th_case (a := j) (n := 6) (fun c_17_6 => ?_) (fun c_17_6 => ?_)
                · refine th_topeq c_17_6 ?_
                  refine lv_tableIn (tgt := 132) hx hb dX10_thing_6 (by decide) (by decide) (by rfl) (by decide) ?_
                  refine lv_aload_n hx hb dX10_thing_132 rfl (lv_at hl 0 rfl) ?_
                  have hp_64 : kd E (ad E a 9) = 5 := ok.pk hO h_a (by decide) k12_9 rfl
                  refine ok.getR hO h_a (by decide) k12_9 (by decide) (fun _ _ he hv kk => th_get (ci := 10) (C := RX10) (T := TX10) (N := 18) hx hb hts inX10 hown hK hH he rfl 9 (by decide) fl0 hv dX10_thing_133 kk) ?_
                  have hp_65 : kd E (ad E (ad E a 9) 0) = 1 := ok.pk hO hp_64 (by decide) k5_0 rfl
                  refine ok.getR hO hp_64 (by decide) k5_0 (by decide) (fun _ _ he hv kk => th_getN (ci := 6) (C := RX6) (T := TX6) (N := 7) hx hb hts inX6 hown hK hH he rfl 0 (by decide) (nl_13 hK) hv dX10_thing_136 kk) ?_
                  refine lv_iload_n hx hb dX10_thing_139 rfl (lv_at hl 1 rfl) ?_
                  obtain ⟨z_66, e_67, rz_66, lz_66, uz_66⟩ := hO.gi hp_65 (by decide) k1_4
                  obtain ⟨_, hc_68⟩ := hO.cell hp_65 (by decide) (ci := 9) rfl
                  refine th_calli (va_runV (As := [.int (I i)]) (rest := []) ⟨hx, hb, hml, hown, hts⟩ (t_kindAt l G y b0 σ_s_7 (ad E (ad E a 9) 0) (tvE E σ_s_7 (ad E (ad E a 9) 0) 60) i (hO.isT1 hp_65) (show rng i from ri)) (cwV 1 hts gX10_thing_X9_kindAt rfl rfl rfl (by decide +kernel) ⟨Nat.le_of_ble_eq_true rfl, Nat.le_of_ble_eq_true rfl⟩) (th_PV hK hH rfl hc_68) rfl rfl hl.1 rfl (lv_room (Nat.le_of_ble_eq_true rfl)) dX10_thing_140 ⟨Nat.le_of_ble_eq_true rfl, Nat.le_of_ble_eq_true rfl⟩) hS (fun z_71 σ_s_70 H locs rz_71 hw_69 hH hS => ?_)
                  obtain ⟨e9, hw_69⟩ := hw_69
                  replace e9 := e9.symm
                  subst e9
                  replace hw_69 : (0 ≤ i ∧ i < (gI σ_s_7 (ad E (ad E a 9) 0) 4)) ∨ z_71 = -1 := hw_69
                  refine lv_if_ne (tgt := 160) hx hb dX10_thing_143 (by decide) (fun c_72 => ?_) (fun c_72 => ?_)
                  · replace c_72 := mt (I_eq (a := z_71) (b := 0) rz_71 (show rng 0 from ⟨by decide, by decide⟩)).mpr c_72
                    refine lv_sipush (v := I (-1000)) hx hb dX10_thing_160 (by decide) ?_
                    refine vx_ret ?_
                    refine W.widen (k := 2) (n := 12) (Nat.le_of_ble_eq_true rfl) (Nat.le_of_ble_eq_true rfl) ?_
                    exact th_iret hx hb hr hlocks hH hS (z := (-1000)) (show rng (-1000) from ⟨by decide, by decide⟩) ⟨hO, hF, ⟨by omega, (ef_15.trans h0row.symm), (eq_16.trans h0q.symm)⟩⟩ dX10_thing_163
                  · replace c_72 := (I_eq (a := z_71) (b := 0) rz_71 (show rng 0 from ⟨by decide, by decide⟩)).mp c_72
                    refine lv_aload_n hx hb dX10_thing_146 rfl (lv_at hl 0 rfl) ?_
                    refine ok.getR hO h_a (by decide) k12_9 (by decide) (fun _ _ he hv kk => th_get (ci := 10) (C := RX10) (T := TX10) (N := 18) hx hb hts inX10 hown hK hH he rfl 9 (by decide) fl0 hv dX10_thing_147 kk) ?_
                    refine ok.getR hO hp_64 (by decide) k5_0 (by decide) (fun _ _ he hv kk => th_getN (ci := 6) (C := RX6) (T := TX6) (N := 7) hx hb hts inX6 hown hK hH he rfl 0 (by decide) (nl_13 hK) hv dX10_thing_150 kk) ?_
                    refine lv_iload_n hx hb dX10_thing_153 rfl (lv_at hl 1 rfl) ?_
                    obtain ⟨_, hc_73⟩ := hO.cell hp_65 (by decide) (ci := 9) rfl
                    refine th_calli (va_runV (As := [.int (I i)]) (rest := []) ⟨hx, hb, hml, hown, hts⟩ (t_valueAt l G y b0 σ_s_7 (ad E (ad E a 9) 0) (tvE E σ_s_7 (ad E (ad E a 9) 0) 60) i (hO.isT1 hp_65) (show rng i from ri)) (cwV 1 hts gX10_thing_X9_valueAt rfl rfl rfl (by decide +kernel) ⟨Nat.le_of_ble_eq_true rfl, Nat.le_of_ble_eq_true rfl⟩) (th_PV hK hH rfl hc_73) rfl rfl hl.1 rfl (lv_room (Nat.le_of_ble_eq_true rfl)) dX10_thing_154 ⟨Nat.le_of_ble_eq_true rfl, Nat.le_of_ble_eq_true rfl⟩) hS (fun z_76 σ_s_75 H locs rz_76 hw_74 hH hS => ?_)
                    obtain ⟨e9, hw_74⟩ := hw_74
                    replace e9 := e9.symm
                    subst e9
                    refine lv_goto (tgt := 163) hx hb dX10_thing_157 (by decide) ?_
                    refine vx_ret ?_
                    refine W.widen (k := 2) (n := 12) (Nat.le_of_ble_eq_true rfl) (Nat.le_of_ble_eq_true rfl) ?_
                    exact th_iret hx hb hr hlocks hH hS (z := z_76) rz_76 ⟨hO, hF, ⟨by omega, (ef_15.trans h0row.symm), (eq_16.trans h0q.symm)⟩⟩ dX10_thing_163
                · refine th_case (a := j) (n := 7) (fun c_17_7 => ?_) (fun c_17_7 => ?_)
                  · refine th_topeq c_17_7 ?_
                    refine lv_tableIn (tgt := 164) hx hb dX10_thing_6 (by decide) (by decide) (by rfl) (by decide) ?_
                    refine lv_aload_n hx hb dX10_thing_164 rfl (lv_at hl 0 rfl) ?_
                    have hp_77 : kd E (ad E a 9) = 5 := ok.pk hO h_a (by decide) k12_9 rfl
                    refine ok.getR hO h_a (by decide) k12_9 (by decide) (fun _ _ he hv kk => th_get (ci := 10) (C := RX10) (T := TX10) (N := 18) hx hb hts inX10 hown hK hH he rfl 9 (by decide) fl0 hv dX10_thing_165 kk) ?_
                    have hp_78 : kd E (ad E (ad E a 9) 0) = 1 := ok.pk hO hp_77 (by decide) k5_0 rfl
                    refine ok.getR hO hp_77 (by decide) k5_0 (by decide) (fun _ _ he hv kk => th_getN (ci := 6) (C := RX6) (T := TX6) (N := 7) hx hb hts inX6 hown hK hH he rfl 0 (by decide) (nl_13 hK) hv dX10_thing_168 kk) ?_
                    refine lv_iload_n hx hb dX10_thing_171 rfl (lv_at hl 1 rfl) ?_
                    obtain ⟨z_79, e_80, rz_79, lz_79, uz_79⟩ := hO.gi hp_78 (by decide) k1_4
                    obtain ⟨_, hc_81⟩ := hO.cell hp_78 (by decide) (ci := 9) rfl
                    refine th_calli (va_runV (As := [.int (I i)]) (rest := []) ⟨hx, hb, hml, hown, hts⟩ (t_keyAt l G y b0 σ_s_7 (ad E (ad E a 9) 0) (tvE E σ_s_7 (ad E (ad E a 9) 0) 60) i (hO.isT1 hp_78) (show rng i from ri)) (cwV 1 hts gX10_thing_X9_keyAt rfl rfl rfl (by decide +kernel) ⟨Nat.le_of_ble_eq_true rfl, Nat.le_of_ble_eq_true rfl⟩) (th_PV hK hH rfl hc_81) rfl rfl hl.1 rfl (lv_room (Nat.le_of_ble_eq_true rfl)) dX10_thing_172 ⟨Nat.le_of_ble_eq_true rfl, Nat.le_of_ble_eq_true rfl⟩) hS (fun z_84 σ_s_83 H locs rz_84 hw_82 hH hS => ?_)
                    obtain ⟨e9, hw_82⟩ := hw_82
                    replace e9 := e9.symm
                    subst e9
                    refine th_calli (va_runS (As := [.int (I z_84)]) (rest := []) ⟨hx, hb, hml, hown, hts⟩ (n_lettersOf l G y b0 σ_s_7 E hO z_84 (show rng z_84 from rz_84)) (va_cwS 1 hts gX10_thing_X10_lettersOf rfl rfl rfl (by decide +kernel) ⟨Nat.le_of_ble_eq_true rfl, Nat.le_of_ble_eq_true rfl⟩) (th_PS hK hH) rfl rfl hl.1 rfl (lv_room (Nat.le_of_ble_eq_true rfl)) dX10_thing_175 ⟨Nat.le_of_ble_eq_true rfl, Nat.le_of_ble_eq_true rfl⟩) hS (fun z_87 σ_s_86 H locs rz_87 hw_85 hH hS => ?_)
                    obtain ⟨e9, hw_85⟩ := hw_85
                    replace e9 := e9.symm
                    subst e9
                    refine vx_ret ?_
                    refine W.widen (k := 2) (n := 12) (Nat.le_of_ble_eq_true rfl) (Nat.le_of_ble_eq_true rfl) ?_
                    exact th_iret hx hb hr hlocks hH hS (z := z_87) rz_87 ⟨hO, hF, ⟨by omega, (ef_15.trans h0row.symm), (eq_16.trans h0q.symm)⟩⟩ dX10_thing_178
                  · refine th_case (a := j) (n := 8) (fun c_17_8 => ?_) (fun c_17_8 => ?_)
                    · refine th_topeq c_17_8 ?_
                      refine lv_tableIn (tgt := 179) hx hb dX10_thing_6 (by decide) (by decide) (by rfl) (by decide) ?_
                      refine lv_aload_n hx hb dX10_thing_179 rfl (lv_at hl 0 rfl) ?_
                      have hp_88 : kd E (ad E a 9) = 5 := ok.pk hO h_a (by decide) k12_9 rfl
                      refine ok.getR hO h_a (by decide) k12_9 (by decide) (fun _ _ he hv kk => th_get (ci := 10) (C := RX10) (T := TX10) (N := 18) hx hb hts inX10 hown hK hH he rfl 9 (by decide) fl0 hv dX10_thing_180 kk) ?_
                      have hp_89 : kd E (ad E (ad E a 9) 0) = 1 := ok.pk hO hp_88 (by decide) k5_0 rfl
                      refine ok.getR hO hp_88 (by decide) k5_0 (by decide) (fun _ _ he hv kk => th_getN (ci := 6) (C := RX6) (T := TX6) (N := 7) hx hb hts inX6 hown hK hH he rfl 0 (by decide) (nl_13 hK) hv dX10_thing_183 kk) ?_
                      refine lv_iload_n hx hb dX10_thing_186 rfl (lv_at hl 1 rfl) ?_
                      obtain ⟨_, hc_90⟩ := hO.cell hp_89 (by decide) (ci := 9) rfl
                      refine th_calli (va_runV (As := [.int (I i)]) (rest := []) ⟨hx, hb, hml, hown, hts⟩ (t1_twins l G y b0 σ_s_7 E hO (ad E (ad E a 9) 0) hp_89 i (show rng i from ri)) (cwV 1 hts gX10_thing_X9_twinsOf rfl rfl rfl (by decide +kernel) ⟨Nat.le_of_ble_eq_true rfl, Nat.le_of_ble_eq_true rfl⟩) (th_PV hK hH rfl hc_90) rfl rfl hl.1 rfl (lv_room (Nat.le_of_ble_eq_true rfl)) dX10_thing_187 ⟨Nat.le_of_ble_eq_true rfl, Nat.le_of_ble_eq_true rfl⟩) hS (fun z_93 σ_s_92 H locs rz_93 hw_91 hH hS => ?_)
                      obtain ⟨e9, hw_91⟩ := hw_91
                      replace e9 := e9.symm
                      subst e9
                      refine vx_ret ?_
                      refine W.widen (k := 2) (n := 12) (Nat.le_of_ble_eq_true rfl) (Nat.le_of_ble_eq_true rfl) ?_
                      exact th_iret hx hb hr hlocks hH hS (z := z_93) rz_93 ⟨hO, hF, ⟨by omega, (ef_15.trans h0row.symm), (eq_16.trans h0q.symm)⟩⟩ dX10_thing_190
                    · refine th_case (a := j) (n := 9) (fun c_17_9 => ?_) (fun c_17_9 => ?_)
                      · refine th_topeq c_17_9 ?_
                        refine lv_tableIn (tgt := 191) hx hb dX10_thing_6 (by decide) (by decide) (by rfl) (by decide) ?_
                        refine lv_aload_n hx hb dX10_thing_191 rfl (lv_at hl 0 rfl) ?_
                        refine lv_iload_n hx hb dX10_thing_192 rfl (lv_at hl 1 rfl) ?_
                        obtain ⟨_, hc_94⟩ := hO.cell h_a (by decide) (ci := 10) rfl
                        refine th_calli (va_runV (As := [.int (I i)]) (rest := []) ⟨hx, hb, hml, hown, hts⟩ (q_answering l G y b0 σ_s_7 E hO a h_a i (show rng i from ri)) (cwV 1 hts gX10_thing_X10_pathsAnswering rfl rfl rfl (by decide +kernel) ⟨Nat.le_of_ble_eq_true rfl, Nat.le_of_ble_eq_true rfl⟩) (th_PV hK hH rfl hc_94) rfl rfl hl.1 rfl (lv_room (Nat.le_of_ble_eq_true rfl)) dX10_thing_193 ⟨Nat.le_of_ble_eq_true rfl, Nat.le_of_ble_eq_true rfl⟩) hS (fun z_97 σ_s_96 H locs rz_97 hw_95 hH hS => ?_)
                        obtain ⟨hO9, hF9, hw_95⟩ := hw_95
                        replace hO := hO9
                        replace hF := hF.tu hF9 (by decide)
                        replace hw_95 : (gI σ_s_96 a 2 = gI σ_s_7 a 2 ∧ gI σ_s_96 a 1 = gI σ_s_7 a 1) ∧ aF σ_s_96 (ad E a 0) = aF σ_s_7 (ad E a 0) ∧ aQ σ_s_96 (ad E a 3) = aQ σ_s_7 (ad E a 3) := hw_95
                        have ef_98 : aF σ_s_96 (ad E a 0) = f_1 := (hw_95.2.1).trans ef_15
                        have eq_99 : aQ σ_s_96 (ad E a 3) = f_3 := (hw_95.2.2).trans eq_16
                        obtain ⟨z_100, e_101, rz_100, lz_100, uz_100⟩ := hO.gi h_a (by decide) k12_2
                        refine vx_ret ?_
                        refine W.widen (k := 2) (n := 12) (Nat.le_of_ble_eq_true rfl) (Nat.le_of_ble_eq_true rfl) ?_
                        exact th_iret hx hb hr hlocks hH hS (z := z_97) rz_97 ⟨hO, hF, ⟨by omega, (ef_98.trans h0row.symm), (eq_99.trans h0q.symm)⟩⟩ dX10_thing_196
                      · refine th_tableOut (tgt := 197) hx hb rj dX10_thing_6 (by omega) (by decide) ?_
                        exact th_throwN (text := "no such question about a thing") hx hb hl0 hown hts (by first | exact fun w h => List.mem_cons_of_mem _ (List.mem_append_right _ h) | exact fun w h => List.mem_cons_of_mem _ (List.mem_append_left _ (List.mem_append_right _ h)) | decide +kernel) (by decide +kernel) (by decide +kernel) hXs hS hH (hl.1.trans hml.symm) htab hlocks (List.mem_of_getElem? (i := 4) rfl) dX10_thing_197 dX10_thing_200 dX10_thing_201 dX10_thing_203 dX10_thing_206 (Nat.le_of_ble_eq_true rfl) (Nat.le_of_ble_eq_true rfl) (Nat.le_of_ble_eq_true rfl) (Nat.le_of_ble_eq_true rfl) ⟨hO, hF, ⟨⟨rfl, by omega⟩, (ef_15.trans h0row.symm), (eq_16.trans h0q.symm)⟩⟩ (Nat.le_of_ble_eq_true rfl) (Nat.le_of_ble_eq_true rfl)

theorem x_within (l : Launch) (hl0 : l.stackTraces = false) (G : va_G) (y : Nat → ClassId) (b0 : Nat) (σ : th_M) (E : th_E) (hO : ok y E σ) (a : Nat) (h_a : kd E a = 12) (i : Int) (ri : rng i) (j : Int) (rj : rng j) : vx_Met l yX10_within wsX10_within ({ frames := 7, cells := 2, slots := 12, locals := 125 }) (th_PX G y b0 σ [.ref a, .int (I i), .int (I j)]) (th_Qi G b0 (fun r σ1 => ok y E σ1 ∧ fr [] E σ σ1 ∧ (gI σ1 a 1 = gI σ a 1))) (th_XX G b0 (fun X σ1 => ok y E σ1 ∧ fr [] E σ σ1 ∧ (X = nq_NSE ∧ gI σ1 a 1 = gI σ a 1))) 2 12 (th_A b0) := by
  sorry
theorem x_told (l : Launch) (hl0 : l.stackTraces = false) (G : va_G) (y : Nat → ClassId) (b0 : Nat) (σ : th_M) (E : th_E) (hO : ok y E σ) (a : Nat) (h_a : kd E a = 12) (i : Int) (ri : rng i) (w : Int) (rw : rng w) (l_w : 0 ≤ w) (u_w : w ≤ 1) (j : Int) (rj : rng j) : vx_Met l yX10_told wsX10_told ({ frames := 81, cells := 2, slots := 12, locals := 2428 }) (th_PX G y b0 σ [.ref a, .int (I i), .int (I w), .int (I j)]) (th_Qi G b0 (fun r σ1 => ok y E σ1 ∧ fr [8] E σ σ1 ∧ (gI σ1 a 1 = gI σ a 1))) (th_XX G b0 (fun X σ1 => ok y E σ1 ∧ fr [8] E σ σ1 ∧ (X = nq_NSE ∧ gI σ1 a 1 = gI σ a 1))) 2 12 (th_A b0) := by
  sorry
theorem x_alike (l : Launch) (hl0 : l.stackTraces = false) (G : va_G) (y : Nat → ClassId) (b0 : Nat) (σ : th_M) (E : th_E) (hO : ok y E σ) (a : Nat) (h_a : kd E a = 12) (i : Int) (ri : rng i) (j : Int) (rj : rng j) : vx_Met l yX10_alike wsX10_alike ({ frames := 61, cells := 2, slots := 12, locals := 1314 }) (th_PX G y b0 σ [.ref a, .int (I i), .int (I j)]) (th_Qi G b0 (fun r σ1 => ok y E σ1 ∧ fr [] E σ σ1 ∧ (gI σ1 a 1 = gI σ a 1))) (th_XX G b0 (fun X σ1 => ok y E σ1 ∧ fr [] E σ σ1 ∧ (X = nq_NSE ∧ gI σ1 a 1 = gI σ a 1))) 2 12 (th_A b0) := by
  sorry
theorem x_answer (l : Launch) (hl0 : l.stackTraces = false) (G : va_G) (y : Nat → ClassId) (b0 : Nat) (σ : th_M) (E : th_E) (hO : ok y E σ) (a : Nat) (h_a : kd E a = 12) (i : Int) (ri : rng i) (j : Int) (rj : rng j) : vx_Met l yX10_answer wsX10_answer ({ frames := 6, cells := 1, slots := 6, locals := 159 }) (th_PX G y b0 σ [.ref a, .int (I i), .int (I j)]) (th_Qi G b0 (fun r σ1 => ok y E σ1 ∧ fr [] E σ σ1 ∧ (gI σ1 a 1 = gI σ a 1))) (th_XX G b0 (fun X σ1 => ok y E σ1 ∧ fr [] E σ σ1 ∧ (X = nq_NSE ∧ gI σ1 a 1 = gI σ a 1))) 1 6 (th_A b0) := by
  sorry
theorem x_steps (l : Launch) (hl0 : l.stackTraces = false) (G : va_G) (y : Nat → ClassId) (b0 : Nat) (σ : th_M) (E : th_E) (hO : ok y E σ) (a : Nat) (h_a : kd E a = 12) (i : Int) (ri : rng i) (j : Int) (rj : rng j) : vx_Met l yX10_steps wsX10_steps ({ frames := 6, cells := 1, slots := 6, locals := 159 }) (th_PX G y b0 σ [.ref a, .int (I i), .int (I j)]) (th_Qi G b0 (fun r σ1 => ok y E σ1 ∧ fr [] E σ σ1 ∧ (gI σ1 a 1 = gI σ a 1))) (th_XX G b0 (fun X σ1 => ok y E σ1 ∧ fr [] E σ σ1 ∧ (X = nq_NSE ∧ gI σ1 a 1 = gI σ a 1))) 1 6 (th_A b0) := by
  sorry
theorem x_row (l : Launch) (hl0 : l.stackTraces = false) (G : va_G) (y : Nat → ClassId) (b0 : Nat) (σ : th_M) (E : th_E) (hO : ok y E σ) (a : Nat) (h_a : kd E a = 12) (i : Int) (ri : rng i) (j : Int) (rj : rng j) : vx_Met l yX10_row wsX10_row ({ frames := 6, cells := 1, slots := 6, locals := 100 }) (th_PX G y b0 σ [.ref a, .int (I i), .int (I j)]) (th_Qi G b0 (fun r σ1 => ok y E σ1 ∧ fr [] E σ σ1 ∧ (gI σ1 a 1 = gI σ a 1))) (th_XX G b0 (fun X σ1 => ok y E σ1 ∧ fr [] E σ σ1 ∧ (X = nq_NSE ∧ gI σ1 a 1 = gI σ a 1))) 1 6 (th_A b0) := by
  sorry
theorem x_rowText (l : Launch) (hl0 : l.stackTraces = false) (G : va_G) (y : Nat → ClassId) (b0 : Nat) (σ : th_M) (E : th_E) (hO : ok y E σ) (a : Nat) (h_a : kd E a = 12) (i : Int) (ri : rng i) (j : Int) (rj : rng j) : vx_Met l yX10_rowText wsX10_rowText ({ frames := 82, cells := 1, slots := 6, locals := 2455 }) (th_PX G y b0 σ [.ref a, .int (I i), .int (I j)]) (th_Qi G b0 (fun r σ1 => ok y E σ1 ∧ fr [8] E σ σ1 ∧ (gI σ1 a 1 = gI σ a 1))) (th_XX G b0 (fun X σ1 => ok y E σ1 ∧ fr [8] E σ σ1 ∧ (X = nq_NSE ∧ gI σ1 a 1 = gI σ a 1))) 1 6 (th_A b0) := by
  sorry
theorem x_years (l : Launch) (hl0 : l.stackTraces = false) (G : va_G) (y : Nat → ClassId) (b0 : Nat) (σ : th_M) (E : th_E) (hO : ok y E σ) (a : Nat) (h_a : kd E a = 12) (i : Int) (ri : rng i) (n : Int) (rn : rng n) (j : Int) (rj : rng j) : vx_Met l yX10_years wsX10_years ({ frames := 7, cells := 100, slots := 4900, locals := 236 }) (th_PX G y b0 σ [.ref a, .int (I i), .int (I n), .int (I j)]) (th_Qi G b0 (fun r σ1 => ∃ E1, ext E E1 ∧ ok y E1 σ1 ∧ fr [9, 5, 1, 2, 6] E σ σ1 ∧ (gI σ1 a 1 = gI σ a 1))) (th_XX G b0 (fun X σ1 => ∃ E1, ext E E1 ∧ ok y E1 σ1 ∧ fr [9, 5, 1, 2, 6] E σ σ1 ∧ ((X = nq_NSE ∨ X = nq_IAE) ∧ gI σ1 a 1 = gI σ a 1))) 100 4900 (th_A b0) := by
  sorry
