set_option maxHeartbeats 4000000 in
set_option maxRecDepth 100000 in
theorem r6_canBegin (l : Launch) (G : va_G) (y : Nat → ClassId) (b0 : Nat) (σ : th_M) (E : th_E) (hO : ok y E σ) (i : Int) (ri : rng i) : Met l yX1_canBegin wsX1_canBegin ({ frames := 0, cells := 0, slots := 0, locals := 0 }) (th_P G y b0 σ [.int (I i)]) (th_Qi G b0 (fun r σ1 => σ1 = σ ∧ (0 ≤ r ∧ r ≤ 1) ∧ ((r = 1 ∧ (i = 45 ∨ i = 257 ∨ i = 256 ∨ i = 91 ∨ i = 123)) ∨ (r = 0 ∧ ¬ (i = 45 ∨ i = 257 ∨ i = 256 ∨ i = 91 ∨ i = 123))))) 0 0 (th_A b0) := by
  refine Met.ofW (cc := cX1_canBegin) (maxL := 1) (ret := (some .boolean)) (by decide) rfl ?_
  intro p e s m args below meth c s₁ B hml hv
  obtain ⟨rfl, hH, hK⟩ := hv
  have hx := B.exec
  have hb := B.bytes
  have hr := B.returns
  have hts := atoms_spec (ws := wsX1_canBegin) B.pre
  have hown : s.vm.findClass RX1 = some m.cls := findClass_of_methodNamed B.named
  have hlocks := B.notSynchronized
  have h00 : b0 ≤ s.heap.size := hH.1
  have hS : va_S (th_A b0) s.heap s.heap [] := va_S.rf
  have hl := lv_entry ([.int (I i)]) (n := 1) (Nat.le_of_ble_eq_true rfl)
  rw [lg_entry_eq]
  generalize (lg_sl ([.int (I i)]) ++ List.replicate (1 - (lg_sl ([.int (I i)])).length) Slot.unset).toArray = ls at hl ⊢
  have hl : lv_has ls 1 [(0, .int (I i))] := hl
  refine lv_iload_n hx hb dX1_canBegin_0 rfl (lv_at hl 0 rfl) ?_
  refine lv_bipush (v := I 45) hx hb dX1_canBegin_1 (by decide) ?_
  refine lv_icmp_eq (tgt := 32) hx hb dX1_canBegin_3 (by decide) (fun c_1 => ?_) (fun c_1 => ?_)
  · replace c_1 := (I_eq (a := i) (b := 45) ri (show rng 45 from ⟨by decide, by decide⟩)).mp c_1
    refine lv_iconst (v := I 1) hx hb dX1_canBegin_32 (by decide) ?_
    refine lv_goto (tgt := 37) hx hb dX1_canBegin_33 (by decide) ?_
    exact th_zret hx hb hr hlocks hH hS (z := 1) (by omega) ⟨rfl, ⟨by omega, by omega⟩, by omega⟩ dX1_canBegin_37
  · replace c_1 := mt (I_eq (a := i) (b := 45) ri (show rng 45 from ⟨by decide, by decide⟩)).mpr c_1
    refine lv_iload_n hx hb dX1_canBegin_6 rfl (lv_at hl 0 rfl) ?_
    refine lv_sipush (v := I 257) hx hb dX1_canBegin_7 (by decide) ?_
    refine lv_icmp_eq (tgt := 32) hx hb dX1_canBegin_10 (by decide) (fun c_2 => ?_) (fun c_2 => ?_)
    · replace c_2 := (I_eq (a := i) (b := 257) ri (show rng 257 from ⟨by decide, by decide⟩)).mp c_2
      refine lv_iconst (v := I 1) hx hb dX1_canBegin_32 (by decide) ?_
      refine lv_goto (tgt := 37) hx hb dX1_canBegin_33 (by decide) ?_
      exact th_zret hx hb hr hlocks hH hS (z := 1) (by omega) ⟨rfl, ⟨by omega, by omega⟩, by omega⟩ dX1_canBegin_37
    · replace c_2 := mt (I_eq (a := i) (b := 257) ri (show rng 257 from ⟨by decide, by decide⟩)).mpr c_2
      refine lv_iload_n hx hb dX1_canBegin_13 rfl (lv_at hl 0 rfl) ?_
      refine lv_sipush (v := I 256) hx hb dX1_canBegin_14 (by decide) ?_
      refine lv_icmp_eq (tgt := 32) hx hb dX1_canBegin_17 (by decide) (fun c_3 => ?_) (fun c_3 => ?_)
      · replace c_3 := (I_eq (a := i) (b := 256) ri (show rng 256 from ⟨by decide, by decide⟩)).mp c_3
        refine lv_iconst (v := I 1) hx hb dX1_canBegin_32 (by decide) ?_
        refine lv_goto (tgt := 37) hx hb dX1_canBegin_33 (by decide) ?_
        exact th_zret hx hb hr hlocks hH hS (z := 1) (by omega) ⟨rfl, ⟨by omega, by omega⟩, by omega⟩ dX1_canBegin_37
      · replace c_3 := mt (I_eq (a := i) (b := 256) ri (show rng 256 from ⟨by decide, by decide⟩)).mpr c_3
        refine lv_iload_n hx hb dX1_canBegin_20 rfl (lv_at hl 0 rfl) ?_
        refine lv_bipush (v := I 91) hx hb dX1_canBegin_21 (by decide) ?_
        refine lv_icmp_eq (tgt := 32) hx hb dX1_canBegin_23 (by decide) (fun c_4 => ?_) (fun c_4 => ?_)
        · replace c_4 := (I_eq (a := i) (b := 91) ri (show rng 91 from ⟨by decide, by decide⟩)).mp c_4
          refine lv_iconst (v := I 1) hx hb dX1_canBegin_32 (by decide) ?_
          refine lv_goto (tgt := 37) hx hb dX1_canBegin_33 (by decide) ?_
          exact th_zret hx hb hr hlocks hH hS (z := 1) (by omega) ⟨rfl, ⟨by omega, by omega⟩, by omega⟩ dX1_canBegin_37
        · replace c_4 := mt (I_eq (a := i) (b := 91) ri (show rng 91 from ⟨by decide, by decide⟩)).mpr c_4
          refine lv_iload_n hx hb dX1_canBegin_26 rfl (lv_at hl 0 rfl) ?_
          refine lv_bipush (v := I 123) hx hb dX1_canBegin_27 (by decide) ?_
          refine lv_icmp_ne (tgt := 36) hx hb dX1_canBegin_29 (by decide) (fun c_5 => ?_) (fun c_5 => ?_)
          · replace c_5 := mt (I_eq (a := i) (b := 123) ri (show rng 123 from ⟨by decide, by decide⟩)).mpr c_5
            refine lv_iconst (v := I 0) hx hb dX1_canBegin_36 (by decide) ?_
            exact th_zret hx hb hr hlocks hH hS (z := 0) (by omega) ⟨rfl, ⟨by omega, by omega⟩, by omega⟩ dX1_canBegin_37
          · replace c_5 := (I_eq (a := i) (b := 123) ri (show rng 123 from ⟨by decide, by decide⟩)).mp c_5
            refine lv_iconst (v := I 1) hx hb dX1_canBegin_32 (by decide) ?_
            refine lv_goto (tgt := 37) hx hb dX1_canBegin_33 (by decide) ?_
            exact th_zret hx hb hr hlocks hH hS (z := 1) (by omega) ⟨rfl, ⟨by omega, by omega⟩, by omega⟩ dX1_canBegin_37

set_option maxHeartbeats 4000000 in
set_option maxRecDepth 100000 in
theorem r6_readKey (l : Launch) (G : va_G) (y : Nat → ClassId) (b0 : Nat) (σ : th_M) (E : th_E) (hO : ok y E σ) (a : Nat) (h_a : kd E a = 10) (b : Nat) (h_b : kd E b = 1) (i : Int) (ri : rng i) (T : tkT) (fc jt : Int) (hT0 : TSt E σ (ad E a 0) T fc jt) (dp : Int) (ks : List Int) (hy0 : fc = 0) (hy1 : mapst E σ b i dp ks) : Met l yX1_readKey wsX1_readKey ({ frames := 2, cells := 0, slots := 0, locals := 50 }) (th_P G y b0 σ [.ref a, .ref b, .int (I i)]) (th_Qi G b0 (fun r σ1 => ok y E σ1 ∧ fr [3] E σ σ1 ∧ (∃ c1 j1, TSt E σ1 (ad E a 0) T c1 j1 ∧ kR T jt ks c1 j1 r))) 0 0 (th_A b0) := by
  refine Met.ofW (cc := cX1_readKey) (maxL := 3) (ret := (some .int)) (by decide) rfl ?_
  intro p e s m args below meth c s₁ B hml hv
  obtain ⟨rfl, hH, hK⟩ := hv
  have hx := B.exec
  have hb := B.bytes
  have hr := B.returns
  have hts := atoms_spec (ws := wsX1_readKey) B.pre
  have hown : s.vm.findClass RX1 = some m.cls := findClass_of_methodNamed B.named
  have hlocks := B.notSynchronized
  have h00 : b0 ≤ s.heap.size := hH.1
  have hS : va_S (th_A b0) s.heap s.heap [] := va_S.rf
  have hF : fr [3] E σ σ := fr.rf
  have inX1 : ∀ w ∈ wsX10, w ∈ wsX1_readKey := by decide +kernel
  have inX8 : ∀ w ∈ wsX80, w ∈ wsX1_readKey := by decide +kernel
  have fl0 := hts (.fieldLink RX1 9 "NestQuery$DataReader" "tokens" "LNestQuery$Tokens;") (by decide +kernel)
  have hl := lv_entry ([.ref a, .ref b, .int (I i)]) (n := 3) (Nat.le_of_ble_eq_true rfl)
  rw [lg_entry_eq]
  generalize (lg_sl ([.ref a, .ref b, .int (I i)]) ++ List.replicate (3 - (lg_sl ([.ref a, .ref b, .int (I i)])).length) Slot.unset).toArray = ls at hl ⊢
  have hl : lv_has ls 3 [(0, .ref a), (1, .ref b), (2, .int (I i))] := hl
  have hU0 := hT0.2.2
  have hkt : kd E (ad E a 0) = 3 := ok.pk hO h_a (by decide) k10_0 rfl
  have h0_1 : fc = 0 := by omega
  have hp_2 := hT0.2.2.2.2.2.2.1 h0_1
  have hp_2j := And.intro hT0.2.2.1 (And.intro hT0.2.2.2.1 (And.intro hT0.2.2.2.2.1 hT0.2.2.2.2.2.1))
  clear hU0
  refine lv_aload_n hx hb dX1_readKey_0 rfl (lv_at hl 0 rfl) ?_
  have hp_3 : kd E (ad E a 0) = 3 := ok.pk hO h_a (by decide) k10_0 rfl
  refine ok.getR hO h_a (by decide) k10_0 (by decide) (fun _ _ he hv kk => th_get (ci := 1) (C := RX1) (T := TX1) (N := 1) hx hb hts inX1 hown hK hH he rfl 0 (by decide) fl0 hv dX1_readKey_1 kk) ?_
  refine ok.getI hO hp_3 (by decide) k3_6 (fun _ _ he hv kk => th_getN (ci := 8) (C := RX8) (T := TX8) (N := 9) hx hb hts inX8 hown hK hH he rfl 6 (by decide) (nl_4 hK) hv dX1_readKey_4 kk) (fun z_4 e_5 rz_4 lz_4 uz_4 => ?_)
  refine lv_sipush (v := I 256) hx hb dX1_readKey_7 (by decide) ?_
  refine lv_icmp_ne (tgt := 49) hx hb dX1_readKey_10 (by decide) (fun c_6 => ?_) (fun c_6 => ?_)
  · replace c_6 := mt (I_eq (a := z_4) (b := 256) rz_4 (show rng 256 from ⟨by decide, by decide⟩)).mpr c_6
    refine lv_aload_n hx hb dX1_readKey_49 rfl (lv_at hl 0 rfl) ?_
    refine ok.getR hO h_a (by decide) k10_0 (by decide) (fun _ _ he hv kk => th_get (ci := 1) (C := RX1) (T := TX1) (N := 1) hx hb hts inX1 hown hK hH he rfl 0 (by decide) fl0 hv dX1_readKey_50 kk) ?_
    obtain ⟨_, hc_7⟩ := hO.cell hp_3 (by decide) (ci := 8) rfl
    refine th_calli (va_runV (As := []) (rest := []) ⟨hx, hb, hml, hown, hts⟩ (f_letters l G y b0 σ E hO (ad E a 0) hp_3 T fc jt hT0) (cwV 0 hts gX1_readKey_X8_takeLetters rfl rfl rfl (by decide +kernel) ⟨Nat.le_of_ble_eq_true rfl, Nat.le_of_ble_eq_true rfl⟩) (th_PV hK hH rfl hc_7) rfl rfl hl.1 rfl (lv_room (Nat.le_of_ble_eq_true rfl)) dX1_readKey_53 ⟨Nat.le_of_ble_eq_true rfl, Nat.le_of_ble_eq_true rfl⟩) hS (fun z_10 σ_s_9 H locs rz_10 hw_8 hH hS => ?_)
    obtain ⟨hO9, hF9, hw_8⟩ := hw_8
    replace hO := hO9
    replace hF := hF.tu hF9 (by decide)
    replace hw_8 : ∃ c1 j1, TSt E σ_s_9 (ad E a 0) T c1 j1 ∧ (fc ≠ 0 → c1 = fc ∧ j1 = jt) ∧ (fc = 0 → (tK T jt ≠ 256 ∧ c1 = 1 ∧ j1 = jt) ∨ (tK T jt = 256 ∧ 6 < tL T jt ∧ c1 = 2 ∧ j1 = jt) ∨ (tK T jt = 256 ∧ tL T jt ≤ 6 ∧ c1 = 0 ∧ j1 = jt + 1 ∧ z_10 = tV T jt)) := hw_8
    obtain ⟨cc_11, jj_12, hT_13, hw_8⟩ := hw_8
    have hUhT_13 := hT_13.2.2
    exact th_iret hx hb hr hlocks hH hS (z := z_10) rz_10 ⟨hO, hF, ⟨cc_11, jj_12, hT_13, Or.inl ⟨by omega, by omega, by omega⟩⟩⟩ dX1_readKey_56
  · replace c_6 := (I_eq (a := z_4) (b := 256) rz_4 (show rng 256 from ⟨by decide, by decide⟩)).mp c_6
    refine lv_aload_n hx hb dX1_readKey_13 rfl (lv_at hl 0 rfl) ?_
    refine ok.getR hO h_a (by decide) k10_0 (by decide) (fun _ _ he hv kk => th_get (ci := 1) (C := RX1) (T := TX1) (N := 1) hx hb hts inX1 hown hK hH he rfl 0 (by decide) fl0 hv dX1_readKey_14 kk) ?_
    refine lv_bipush (v := I 6) hx hb dX1_readKey_17 (by decide) ?_
    obtain ⟨_, hc_14⟩ := hO.cell hp_3 (by decide) (ci := 8) rfl
    refine th_calli (va_runV (As := [.int (I 6)]) (rest := []) ⟨hx, hb, hml, hown, hts⟩ (f_longer l G y b0 σ E hO (ad E a 0) hp_3 6 (show rng 6 from (show rng 6 from ⟨by decide, by decide⟩)) T fc jt hT0) (cwV 1 hts gX1_readKey_X8_isLongerThan rfl rfl rfl (by decide +kernel) ⟨Nat.le_of_ble_eq_true rfl, Nat.le_of_ble_eq_true rfl⟩) (th_PV hK hH rfl hc_14) rfl rfl hl.1 rfl (lv_room (Nat.le_of_ble_eq_true rfl)) dX1_readKey_19 ⟨Nat.le_of_ble_eq_true rfl, Nat.le_of_ble_eq_true rfl⟩) hS (fun z_17 σ_s_16 H locs rz_17 hw_15 hH hS => ?_)
    obtain ⟨e9, bhw_15, hw_15⟩ := hw_15
    replace e9 := e9.symm
    subst e9
    replace hw_15 : fc = 0 → (z_17 = 1 ∧ 6 < tL T jt) ∨ (z_17 = 0 ∧ tL T jt ≤ 6) := hw_15
    replace hw_15 := hw_15 h0_1
    refine lv_if_ne (tgt := 49) hx hb dX1_readKey_22 (by decide) (fun c_18 => ?_) (fun c_18 => ?_)
    · replace c_18 := mt (I_eq (a := z_17) (b := 0) rz_17 (show rng 0 from ⟨by decide, by decide⟩)).mpr c_18
      refine lv_aload_n hx hb dX1_readKey_49 rfl (lv_at hl 0 rfl) ?_
      refine ok.getR hO h_a (by decide) k10_0 (by decide) (fun _ _ he hv kk => th_get (ci := 1) (C := RX1) (T := TX1) (N := 1) hx hb hts inX1 hown hK hH he rfl 0 (by decide) fl0 hv dX1_readKey_50 kk) ?_
      obtain ⟨_, hc_19⟩ := hO.cell hp_3 (by decide) (ci := 8) rfl
      refine th_calli (va_runV (As := []) (rest := []) ⟨hx, hb, hml, hown, hts⟩ (f_letters l G y b0 σ E hO (ad E a 0) hp_3 T fc jt hT0) (cwV 0 hts gX1_readKey_X8_takeLetters rfl rfl rfl (by decide +kernel) ⟨Nat.le_of_ble_eq_true rfl, Nat.le_of_ble_eq_true rfl⟩) (th_PV hK hH rfl hc_19) rfl rfl hl.1 rfl (lv_room (Nat.le_of_ble_eq_true rfl)) dX1_readKey_53 ⟨Nat.le_of_ble_eq_true rfl, Nat.le_of_ble_eq_true rfl⟩) hS (fun z_22 σ_s_21 H locs rz_22 hw_20 hH hS => ?_)
      obtain ⟨hO9, hF9, hw_20⟩ := hw_20
      replace hO := hO9
      replace hF := hF.tu hF9 (by decide)
      replace hw_20 : ∃ c1 j1, TSt E σ_s_21 (ad E a 0) T c1 j1 ∧ (fc ≠ 0 → c1 = fc ∧ j1 = jt) ∧ (fc = 0 → (tK T jt ≠ 256 ∧ c1 = 1 ∧ j1 = jt) ∨ (tK T jt = 256 ∧ 6 < tL T jt ∧ c1 = 2 ∧ j1 = jt) ∨ (tK T jt = 256 ∧ tL T jt ≤ 6 ∧ c1 = 0 ∧ j1 = jt + 1 ∧ z_22 = tV T jt)) := hw_20
      obtain ⟨cc_23, jj_24, hT_25, hw_20⟩ := hw_20
      have hUhT_25 := hT_25.2.2
      exact th_iret hx hb hr hlocks hH hS (z := z_22) rz_22 ⟨hO, hF, ⟨cc_23, jj_24, hT_25, Or.inr (Or.inl ⟨by omega, by omega, by omega, by omega⟩)⟩⟩ dX1_readKey_56
    · replace c_18 := (I_eq (a := z_17) (b := 0) rz_17 (show rng 0 from ⟨by decide, by decide⟩)).mp c_18
      refine lv_aload_n hx hb dX1_readKey_25 rfl (lv_at hl 1 rfl) ?_
      refine lv_iload_n hx hb dX1_readKey_26 rfl (lv_at hl 2 rfl) ?_
      refine lv_aload_n hx hb dX1_readKey_27 rfl (lv_at hl 0 rfl) ?_
      refine ok.getR hO h_a (by decide) k10_0 (by decide) (fun _ _ he hv kk => th_get (ci := 1) (C := RX1) (T := TX1) (N := 1) hx hb hts inX1 hown hK hH he rfl 0 (by decide) fl0 hv dX1_readKey_28 kk) ?_
      obtain ⟨_, hc_26⟩ := hO.cell hp_3 (by decide) (ci := 8) rfl
      refine th_calli (va_runV (As := []) (rest := [.int (I i), .ref b]) ⟨hx, hb, hml, hown, hts⟩ (f_value l G y b0 σ E hO (ad E a 0) hp_3 T fc jt hT0) (cwV 0 hts gX1_readKey_X8_value rfl rfl rfl (by decide +kernel) ⟨Nat.le_of_ble_eq_true rfl, Nat.le_of_ble_eq_true rfl⟩) (th_PV hK hH rfl hc_26) rfl rfl hl.1 rfl (lv_room (Nat.le_of_ble_eq_true rfl)) dX1_readKey_31 ⟨Nat.le_of_ble_eq_true rfl, Nat.le_of_ble_eq_true rfl⟩) hS (fun z_29 σ_s_28 H locs rz_29 hw_27 hH hS => ?_)
      obtain ⟨e9, hw_27⟩ := hw_27
      replace e9 := e9.symm
      subst e9
      replace hw_27 : fc = 0 → z_29 = tV T jt := hw_27
      replace hw_27 := hw_27 h0_1
      obtain ⟨_, hc_30⟩ := hO.cell h_b (by decide) (ci := 9) rfl
      refine th_calli (va_runV (As := [.int (I i), .int (I z_29)]) (rest := []) ⟨hx, hb, hml, hown, hts⟩ (t6_childBy l G y b0 σ E hO b h_b i (show rng i from ri) z_29 (show rng z_29 from rz_29) dp ks (hy1)) (cwV 2 hts gX1_readKey_X9_childBy rfl rfl rfl (by decide +kernel) ⟨Nat.le_of_ble_eq_true rfl, Nat.le_of_ble_eq_true rfl⟩) (th_PV hK hH rfl hc_30) rfl rfl hl.1 rfl (lv_room (Nat.le_of_ble_eq_true rfl)) dX1_readKey_34 ⟨Nat.le_of_ble_eq_true rfl, Nat.le_of_ble_eq_true rfl⟩) hS (fun z_33 σ_s_32 H locs rz_33 hw_31 hH hS => ?_)
      obtain ⟨e9, hw_31⟩ := hw_31
      replace e9 := e9.symm
      subst e9
      replace hw_31 : (z_33 = -1 ∧ z_29 ∉ ks) ∨ (z_33 ≠ -1 ∧ z_29 ∈ ks) := hw_31
      refine lv_iconst (v := I (-1)) hx hb dX1_readKey_37 (by decide) ?_
      refine lv_icmp_eq (tgt := 49) hx hb dX1_readKey_38 (by decide) (fun c_34 => ?_) (fun c_34 => ?_)
      · replace c_34 := (I_eq (a := z_33) (b := (-1)) rz_33 (show rng (-1) from ⟨by decide, by decide⟩)).mp c_34
        have hi_35 := (hw_31.resolve_right (fun h9 => absurd h9.1 (by omega))).2
        refine lv_aload_n hx hb dX1_readKey_49 rfl (lv_at hl 0 rfl) ?_
        refine ok.getR hO h_a (by decide) k10_0 (by decide) (fun _ _ he hv kk => th_get (ci := 1) (C := RX1) (T := TX1) (N := 1) hx hb hts inX1 hown hK hH he rfl 0 (by decide) fl0 hv dX1_readKey_50 kk) ?_
        obtain ⟨_, hc_36⟩ := hO.cell hp_3 (by decide) (ci := 8) rfl
        refine th_calli (va_runV (As := []) (rest := []) ⟨hx, hb, hml, hown, hts⟩ (f_letters l G y b0 σ E hO (ad E a 0) hp_3 T fc jt hT0) (cwV 0 hts gX1_readKey_X8_takeLetters rfl rfl rfl (by decide +kernel) ⟨Nat.le_of_ble_eq_true rfl, Nat.le_of_ble_eq_true rfl⟩) (th_PV hK hH rfl hc_36) rfl rfl hl.1 rfl (lv_room (Nat.le_of_ble_eq_true rfl)) dX1_readKey_53 ⟨Nat.le_of_ble_eq_true rfl, Nat.le_of_ble_eq_true rfl⟩) hS (fun z_39 σ_s_38 H locs rz_39 hw_37 hH hS => ?_)
        obtain ⟨hO9, hF9, hw_37⟩ := hw_37
        replace hO := hO9
        replace hF := hF.tu hF9 (by decide)
        replace hw_37 : ∃ c1 j1, TSt E σ_s_38 (ad E a 0) T c1 j1 ∧ (fc ≠ 0 → c1 = fc ∧ j1 = jt) ∧ (fc = 0 → (tK T jt ≠ 256 ∧ c1 = 1 ∧ j1 = jt) ∨ (tK T jt = 256 ∧ 6 < tL T jt ∧ c1 = 2 ∧ j1 = jt) ∨ (tK T jt = 256 ∧ tL T jt ≤ 6 ∧ c1 = 0 ∧ j1 = jt + 1 ∧ z_39 = tV T jt)) := hw_37
        obtain ⟨cc_40, jj_41, hT_42, hw_37⟩ := hw_37
        have hUhT_42 := hT_42.2.2
        exact th_iret hx hb hr hlocks hH hS (z := z_39) rz_39 ⟨hO, hF, ⟨cc_40, jj_41, hT_42, Or.inr (Or.inr (Or.inr ⟨by omega, by omega, by rw [show tV T jt = z_29 by omega]; exact hi_35, by omega, by omega, by omega⟩))⟩⟩ dX1_readKey_56
      · replace c_34 := mt (I_eq (a := z_33) (b := (-1)) rz_33 (show rng (-1) from ⟨by decide, by decide⟩)).mpr c_34
        have hi_43 := (hw_31.resolve_left (fun h9 => absurd h9.1 (by omega))).2
        refine lv_aload_n hx hb dX1_readKey_41 rfl (lv_at hl 0 rfl) ?_
        refine ok.getR hO h_a (by decide) k10_0 (by decide) (fun _ _ he hv kk => th_get (ci := 1) (C := RX1) (T := TX1) (N := 1) hx hb hts inX1 hown hK hH he rfl 0 (by decide) fl0 hv dX1_readKey_42 kk) ?_
        refine lv_iconst (v := I 3) hx hb dX1_readKey_45 (by decide) ?_
        obtain ⟨_, hc_44⟩ := hO.cell hp_3 (by decide) (ci := 8) rfl
        refine th_callv (va_runV (As := [.int (I 3)]) (rest := []) ⟨hx, hb, hml, hown, hts⟩ (f_fail l G y b0 σ E hO (ad E a 0) hp_3 3 (show rng 3 from (show rng 3 from ⟨by decide, by decide⟩)) T fc jt hT0 (by omega)) (cwV 1 hts gX1_readKey_X8_fail rfl rfl rfl (by decide +kernel) ⟨Nat.le_of_ble_eq_true rfl, Nat.le_of_ble_eq_true rfl⟩) (th_PV hK hH rfl hc_44) rfl rfl hl.1 rfl (lv_room (Nat.le_of_ble_eq_true rfl)) dX1_readKey_46 ⟨Nat.le_of_ble_eq_true rfl, Nat.le_of_ble_eq_true rfl⟩) hS (fun σ_s_46 H locs hw_45 hH hS => ?_)
        obtain ⟨hO9, hF9, hw_45⟩ := hw_45
        replace hO := hO9
        replace hF := hF.tu hF9 (by decide)
        replace hw_45 : ∃ c1 j1, TSt E σ_s_46 (ad E a 0) T c1 j1 ∧ j1 = jt ∧ (fc = 0 → c1 = 3) ∧ (fc ≠ 0 → c1 = fc) := hw_45
        obtain ⟨cc_47, jj_48, hT_49, hw_45⟩ := hw_45
        have hUhT_49 := hT_49.2.2
        refine lv_aload_n hx hb dX1_readKey_49 rfl (lv_at hl 0 rfl) ?_
        refine ok.getR hO h_a (by decide) k10_0 (by decide) (fun _ _ he hv kk => th_get (ci := 1) (C := RX1) (T := TX1) (N := 1) hx hb hts inX1 hown hK hH he rfl 0 (by decide) fl0 hv dX1_readKey_50 kk) ?_
        obtain ⟨_, hc_50⟩ := hO.cell hp_3 (by decide) (ci := 8) rfl
        refine th_calli (va_runV (As := []) (rest := []) ⟨hx, hb, hml, hown, hts⟩ (f_letters l G y b0 σ_s_46 E hO (ad E a 0) hp_3 T cc_47 jj_48 hT_49) (cwV 0 hts gX1_readKey_X8_takeLetters rfl rfl rfl (by decide +kernel) ⟨Nat.le_of_ble_eq_true rfl, Nat.le_of_ble_eq_true rfl⟩) (th_PV hK hH rfl hc_50) rfl rfl hl.1 rfl (lv_room (Nat.le_of_ble_eq_true rfl)) dX1_readKey_53 ⟨Nat.le_of_ble_eq_true rfl, Nat.le_of_ble_eq_true rfl⟩) hS (fun z_53 σ_s_52 H locs rz_53 hw_51 hH hS => ?_)
        obtain ⟨hO9, hF9, hw_51⟩ := hw_51
        replace hO := hO9
        replace hF := hF.tu hF9 (by decide)
        replace hw_51 : ∃ c1 j1, TSt E σ_s_52 (ad E a 0) T c1 j1 ∧ (cc_47 ≠ 0 → c1 = cc_47 ∧ j1 = jj_48) ∧ (cc_47 = 0 → (tK T jj_48 ≠ 256 ∧ c1 = 1 ∧ j1 = jj_48) ∨ (tK T jj_48 = 256 ∧ 6 < tL T jj_48 ∧ c1 = 2 ∧ j1 = jj_48) ∨ (tK T jj_48 = 256 ∧ tL T jj_48 ≤ 6 ∧ c1 = 0 ∧ j1 = jj_48 + 1 ∧ z_53 = tV T jj_48)) := hw_51
        obtain ⟨cc_54, jj_55, hT_56, hw_51⟩ := hw_51
        have hUhT_56 := hT_56.2.2
        exact th_iret hx hb hr hlocks hH hS (z := z_53) rz_53 ⟨hO, hF, ⟨cc_54, jj_55, hT_56, Or.inr (Or.inr (Or.inl ⟨by omega, by omega, by rw [show tV T jt = z_29 by omega]; exact hi_43, by omega, by omega⟩))⟩⟩ dX1_readKey_56
