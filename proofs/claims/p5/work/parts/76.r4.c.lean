set_option maxHeartbeats 4000000 in
set_option maxRecDepth 100000 in
theorem f_addToken (l : Launch) (G : va_G) (y : Nat → ClassId) (b0 : Nat) (σ : th_M) (E : th_E) (hO : ok y E σ) (a : Nat) (h_a : kd E a = 3) (w1 : Int) (rw1 : rng w1) (w2 : Int) (rw2 : rng w2) (w3 : Int) (rw3 : rng w3) (w4 : Int) (rw4 : rng w4) (hy0 : gI σ a 4 < 401) : Met l yX8_addToken wsX8_addToken ({ frames := 0, cells := 0, slots := 0, locals := 0 }) (th_P G y b0 σ [.ref a, .int (I w1), .int (I w2), .int (I w3), .int (I w4)]) (th_Qv G b0 (fun σ1 => ok y E σ1 ∧ fr [3] E σ σ1 ∧ (tadd E σ σ1 a w1 w2 w3 w4))) 0 0 (th_A b0) := by
  refine Met.ofW (cc := cX8_addToken) (maxL := 5) (ret := none) (by decide) rfl ?_
  intro p e s m args below meth c s₁ B hml hv
  obtain ⟨rfl, hH, hK⟩ := hv
  have hx := B.exec
  have hb := B.bytes
  have hr := B.returns
  have hts := atoms_spec (ws := wsX8_addToken) B.pre
  have hown : s.vm.findClass RX8 = some m.cls := findClass_of_methodNamed B.named
  have hlocks := B.notSynchronized
  have h00 : b0 ≤ s.heap.size := hH.1
  have hS : va_S (th_A b0) s.heap s.heap [] := va_S.rf
  have hF : fr [3] E σ σ := fr.rf
  have inX8 : ∀ w ∈ wsX80, w ∈ wsX8_addToken := by decide +kernel
  have fl0 := hts (.fieldLink RX8 37 "NestQuery$Tokens" "found" "I") (by decide +kernel)
  have fl1 := hts (.fieldLink RX8 11 "NestQuery$Tokens" "kinds" "[I") (by decide +kernel)
  have fl2 := hts (.fieldLink RX8 15 "NestQuery$Tokens" "starts" "[I") (by decide +kernel)
  have fl3 := hts (.fieldLink RX8 18 "NestQuery$Tokens" "values" "[I") (by decide +kernel)
  have fl4 := hts (.fieldLink RX8 21 "NestQuery$Tokens" "lengths" "[I") (by decide +kernel)
  have hl := lv_entry ([.ref a, .int (I w1), .int (I w2), .int (I w3), .int (I w4)]) (n := 5) (Nat.le_of_ble_eq_true rfl)
  rw [lg_entry_eq]
  generalize (lg_sl ([.ref a, .int (I w1), .int (I w2), .int (I w3), .int (I w4)]) ++ List.replicate (5 - (lg_sl ([.ref a, .int (I w1), .int (I w2), .int (I w3), .int (I w4)])).length) Slot.unset).toArray = ls at hl ⊢
  have hl : lv_has ls 5 [(0, .ref a), (1, .int (I w1)), (2, .int (I w2)), (3, .int (I w3)), (4, .int (I w4))] := hl
  obtain ⟨a40, ea40, ra40, la40, ua40⟩ := hO.gi h_a (by decide) k3_4
  obtain ⟨f_1, ef_2⟩ : ∃ f9, aF σ (ad E a 0) = f9 := ⟨_, rfl⟩
  have he0 := ef_2
  obtain ⟨f_3, ef_4⟩ : ∃ f9, aF σ (ad E a 1) = f9 := ⟨_, rfl⟩
  have he1 := ef_4
  obtain ⟨f_5, ef_6⟩ : ∃ f9, aF σ (ad E a 2) = f9 := ⟨_, rfl⟩
  have he2 := ef_6
  obtain ⟨f_7, ef_8⟩ : ∃ f9, aF σ (ad E a 3) = f9 := ⟨_, rfl⟩
  have he3 := ef_8
  refine lv_aload_n hx hb dX8_addToken_0 rfl (lv_at hl 0 rfl) ?_
  refine ok.getIc hO h_a (by decide) k3_4 ea40 (fun _ _ he hv kk => th_get (ci := 8) (C := RX8) (T := TX8) (N := 9) hx hb hts inX8 hown hK hH he rfl 4 (by decide) fl0 hv dX8_addToken_1 kk) ?_
  refine lv_if_lt (tgt := 68) hx hb dX8_addToken_4 (by decide) (fun c_9 => ?_) (fun c_9 => ?_)
  · replace c_9 := (I_lt (a := a40) (b := 0) ra40 (show rng 0 from ⟨by decide, by decide⟩)).mp c_9
    exact th_vret hx hb hr hlocks hH hS ⟨hO, hF, by exfalso; omega⟩ dX8_addToken_68
  · replace c_9 := mt (I_lt (a := a40) (b := 0) ra40 (show rng 0 from ⟨by decide, by decide⟩)).mpr c_9
    refine lv_aload_n hx hb dX8_addToken_7 rfl (lv_at hl 0 rfl) ?_
    refine ok.getIc hO h_a (by decide) k3_4 ea40 (fun _ _ he hv kk => th_get (ci := 8) (C := RX8) (T := TX8) (N := 9) hx hb hts inX8 hown hK hH he rfl 4 (by decide) fl0 hv dX8_addToken_8 kk) ?_
    refine lv_sipush (v := I 401) hx hb dX8_addToken_11 (by decide) ?_
    refine lv_icmp_ge (tgt := 68) hx hb dX8_addToken_14 (by decide) (fun c_10 => ?_) (fun c_10 => ?_)
    · replace c_10 := (I_le (a := 401) (b := a40) (show rng 401 from ⟨by decide, by decide⟩) ra40).mp c_10
      exact th_vret hx hb hr hlocks hH hS ⟨hO, hF, by exfalso; omega⟩ dX8_addToken_68
    · replace c_10 := mt (I_le (a := 401) (b := a40) (show rng 401 from ⟨by decide, by decide⟩) ra40).mpr c_10
      refine lv_aload_n hx hb dX8_addToken_17 rfl (lv_at hl 0 rfl) ?_
      refine ok.getR hO h_a (by decide) k3_0 (by decide) (fun _ _ he hv kk => th_get (ci := 8) (C := RX8) (T := TX8) (N := 9) hx hb hts inX8 hown hK hH he rfl 0 (by decide) fl1 hv dX8_addToken_18 kk) ?_
      refine lv_aload_n hx hb dX8_addToken_21 rfl (lv_at hl 0 rfl) ?_
      refine ok.getIc hO h_a (by decide) k3_4 ea40 (fun _ _ he hv kk => th_get (ci := 8) (C := RX8) (T := TX8) (N := 9) hx hb hts inX8 hown hK hH he rfl 4 (by decide) fl0 hv dX8_addToken_22 kk) ?_
      refine lv_iload_n hx hb dX8_addToken_25 rfl (lv_at hl 1 rfl) ?_
      refine ok_iast hx hb hK hH hS h00 hO h_a (by decide) k3_0 isA1 ra40 (by omega) (by omega) rw1 el1 dX8_addToken_26 (fun σ_s_11 H locs hO hF9 hi9 ha9 hH hS => ?_)
      replace hF := hF.tu hF9 (by decide)
      have e_12 : gI σ_s_11 a 4 = a40 := (hi9 _ _).trans ea40
      have ef_13 : aF σ_s_11 (ad E a 1) = f_3 := (ha9.2 _ (ok.adq hO h_a (by decide) k3_1 isA1 k3_0 isA1 (by decide))).trans ef_4
      have ef_14 : aF σ_s_11 (ad E a 2) = f_5 := (ha9.2 _ (ok.adq hO h_a (by decide) k3_2 isA1 k3_0 isA1 (by decide))).trans ef_6
      have ef_15 : aF σ_s_11 (ad E a 3) = f_7 := (ha9.2 _ (ok.adq hO h_a (by decide) k3_3 isA1 k3_0 isA1 (by decide))).trans ef_8
      obtain ⟨g_16, dg_16⟩ : ∃ g9, g9 = upd f_1 (a40).toNat (I w1) := ⟨_, rfl⟩
      have ef_17 : aF σ_s_11 (ad E a 0) = g_16 := by rw [ha9.1, ef_2, dg_16]
      refine lv_aload_n hx hb dX8_addToken_27 rfl (lv_at hl 0 rfl) ?_
      refine ok.getR hO h_a (by decide) k3_1 (by decide) (fun _ _ he hv kk => th_get (ci := 8) (C := RX8) (T := TX8) (N := 9) hx hb hts inX8 hown hK hH he rfl 1 (by decide) fl2 hv dX8_addToken_28 kk) ?_
      refine lv_aload_n hx hb dX8_addToken_31 rfl (lv_at hl 0 rfl) ?_
      refine ok.getIc hO h_a (by decide) k3_4 e_12 (fun _ _ he hv kk => th_get (ci := 8) (C := RX8) (T := TX8) (N := 9) hx hb hts inX8 hown hK hH he rfl 4 (by decide) fl0 hv dX8_addToken_32 kk) ?_
      refine lv_iload_n hx hb dX8_addToken_35 rfl (lv_at hl 2 rfl) ?_
      refine ok_iast hx hb hK hH hS h00 hO h_a (by decide) k3_1 isA1 ra40 (by omega) (by omega) rw2 el1 dX8_addToken_36 (fun σ_s_18 H locs hO hF9 hi9 ha9 hH hS => ?_)
      replace hF := hF.tu hF9 (by decide)
      have e_19 : gI σ_s_18 a 4 = a40 := (hi9 _ _).trans e_12
      have ef_20 : aF σ_s_18 (ad E a 2) = f_5 := (ha9.2 _ (ok.adq hO h_a (by decide) k3_2 isA1 k3_1 isA1 (by decide))).trans ef_14
      have ef_21 : aF σ_s_18 (ad E a 3) = f_7 := (ha9.2 _ (ok.adq hO h_a (by decide) k3_3 isA1 k3_1 isA1 (by decide))).trans ef_15
      have ef_22 : aF σ_s_18 (ad E a 0) = g_16 := (ha9.2 _ (ok.adq hO h_a (by decide) k3_0 isA1 k3_1 isA1 (by decide))).trans ef_17
      obtain ⟨g_23, dg_23⟩ : ∃ g9, g9 = upd f_3 (a40).toNat (I w2) := ⟨_, rfl⟩
      have ef_24 : aF σ_s_18 (ad E a 1) = g_23 := by rw [ha9.1, ef_13, dg_23]
      refine lv_aload_n hx hb dX8_addToken_37 rfl (lv_at hl 0 rfl) ?_
      refine ok.getR hO h_a (by decide) k3_2 (by decide) (fun _ _ he hv kk => th_get (ci := 8) (C := RX8) (T := TX8) (N := 9) hx hb hts inX8 hown hK hH he rfl 2 (by decide) fl3 hv dX8_addToken_38 kk) ?_
      refine lv_aload_n hx hb dX8_addToken_41 rfl (lv_at hl 0 rfl) ?_
      refine ok.getIc hO h_a (by decide) k3_4 e_19 (fun _ _ he hv kk => th_get (ci := 8) (C := RX8) (T := TX8) (N := 9) hx hb hts inX8 hown hK hH he rfl 4 (by decide) fl0 hv dX8_addToken_42 kk) ?_
      refine lv_iload_n hx hb dX8_addToken_45 rfl (lv_at hl 3 rfl) ?_
      refine ok_iast hx hb hK hH hS h00 hO h_a (by decide) k3_2 isA1 ra40 (by omega) (by omega) rw3 el1 dX8_addToken_46 (fun σ_s_25 H locs hO hF9 hi9 ha9 hH hS => ?_)
      replace hF := hF.tu hF9 (by decide)
      have e_26 : gI σ_s_25 a 4 = a40 := (hi9 _ _).trans e_19
      have ef_27 : aF σ_s_25 (ad E a 3) = f_7 := (ha9.2 _ (ok.adq hO h_a (by decide) k3_3 isA1 k3_2 isA1 (by decide))).trans ef_21
      have ef_28 : aF σ_s_25 (ad E a 0) = g_16 := (ha9.2 _ (ok.adq hO h_a (by decide) k3_0 isA1 k3_2 isA1 (by decide))).trans ef_22
      have ef_29 : aF σ_s_25 (ad E a 1) = g_23 := (ha9.2 _ (ok.adq hO h_a (by decide) k3_1 isA1 k3_2 isA1 (by decide))).trans ef_24
      obtain ⟨g_30, dg_30⟩ : ∃ g9, g9 = upd f_5 (a40).toNat (I w3) := ⟨_, rfl⟩
      have ef_31 : aF σ_s_25 (ad E a 2) = g_30 := by rw [ha9.1, ef_20, dg_30]
      refine lv_aload_n hx hb dX8_addToken_47 rfl (lv_at hl 0 rfl) ?_
      refine ok.getR hO h_a (by decide) k3_3 (by decide) (fun _ _ he hv kk => th_get (ci := 8) (C := RX8) (T := TX8) (N := 9) hx hb hts inX8 hown hK hH he rfl 3 (by decide) fl4 hv dX8_addToken_48 kk) ?_
      refine lv_aload_n hx hb dX8_addToken_51 rfl (lv_at hl 0 rfl) ?_
      refine ok.getIc hO h_a (by decide) k3_4 e_26 (fun _ _ he hv kk => th_get (ci := 8) (C := RX8) (T := TX8) (N := 9) hx hb hts inX8 hown hK hH he rfl 4 (by decide) fl0 hv dX8_addToken_52 kk) ?_
      refine lv_iload hx hb dX8_addToken_55 (lv_at hl 4 rfl) ?_
      refine ok_iast hx hb hK hH hS h00 hO h_a (by decide) k3_3 isA1 ra40 (by omega) (by omega) rw4 el1 dX8_addToken_57 (fun σ_s_32 H locs hO hF9 hi9 ha9 hH hS => ?_)
      replace hF := hF.tu hF9 (by decide)
      have e_33 : gI σ_s_32 a 4 = a40 := (hi9 _ _).trans e_26
      have ef_34 : aF σ_s_32 (ad E a 0) = g_16 := (ha9.2 _ (ok.adq hO h_a (by decide) k3_0 isA1 k3_3 isA1 (by decide))).trans ef_28
      have ef_35 : aF σ_s_32 (ad E a 1) = g_23 := (ha9.2 _ (ok.adq hO h_a (by decide) k3_1 isA1 k3_3 isA1 (by decide))).trans ef_29
      have ef_36 : aF σ_s_32 (ad E a 2) = g_30 := (ha9.2 _ (ok.adq hO h_a (by decide) k3_2 isA1 k3_3 isA1 (by decide))).trans ef_31
      obtain ⟨g_37, dg_37⟩ : ∃ g9, g9 = upd f_7 (a40).toNat (I w4) := ⟨_, rfl⟩
      have ef_38 : aF σ_s_32 (ad E a 3) = g_37 := by rw [ha9.1, ef_27, dg_37]
      refine lv_aload_n hx hb dX8_addToken_58 rfl (lv_at hl 0 rfl) ?_
      refine lv_dup hx hb dX8_addToken_59 rfl ?_
      refine ok.getIc hO h_a (by decide) k3_4 e_33 (fun _ _ he hv kk => th_get (ci := 8) (C := RX8) (T := TX8) (N := 9) hx hb hts inX8 hown hK hH he rfl 4 (by decide) fl0 hv dX8_addToken_60 kk) ?_
      refine lv_iconst (v := I 1) hx hb dX8_addToken_63 (by decide) ?_
      refine lv_iadd hx hb dX8_addToken_64 ?_
      refine nq_top (I_add _ _) ?_
      refine ok.putI hO h_a (by decide) k3_4 ⟨by omega, by omega⟩ (by omega) (by omega) (fun _ he hl9 kk => th_put (ci := 8) (v := .int (I (a40 + 1))) (ty := .int) (C := RX8) (T := TX8) (N := 9) hx hb hts inX8 tyX8 tyX8_ok nmX8 hown hK hH hS h00 he rfl 4 (by decide) fl0 rfl (by decide +kernel) rfl rfl hl9 dX8_addToken_65 kk) (fun σ_s_39 H locs hO hF9 hg9 hi9 ha9 hH hS => ?_)
      replace hF := hF.tu hF9 (by decide)
      have ef_40 : aF σ_s_39 (ad E a 0) = g_16 := (ha9 _).trans ef_34
      have ef_41 : aF σ_s_39 (ad E a 1) = g_23 := (ha9 _).trans ef_35
      have ef_42 : aF σ_s_39 (ad E a 2) = g_30 := (ha9 _).trans ef_36
      have ef_43 : aF σ_s_39 (ad E a 3) = g_37 := (ha9 _).trans ef_38
      have e_44 := hg9
      exact th_vret hx hb hr hlocks hH hS ⟨hO, hF, ⟨(ef_40.trans (dg_16.trans (by rw [← he0, show (a40 : Int) = gI σ a 4 by omega]))), (ef_41.trans (dg_23.trans (by rw [← he1, show (a40 : Int) = gI σ a 4 by omega]))), (ef_42.trans (dg_30.trans (by rw [← he2, show (a40 : Int) = gI σ a 4 by omega]))), (ef_43.trans (dg_37.trans (by rw [← he3, show (a40 : Int) = gI σ a 4 by omega]))), by omega⟩⟩ dX8_addToken_68

set_option maxHeartbeats 4000000 in
set_option maxRecDepth 100000 in
theorem f_isLetter (l : Launch) (G : va_G) (y : Nat → ClassId) (b0 : Nat) (σ : th_M) (E : th_E) (hO : ok y E σ) (i : Int) (ri : rng i) : Met l yX8_isLetter wsX8_isLetter ({ frames := 0, cells := 0, slots := 0, locals := 0 }) (th_P G y b0 σ [.int (I i)]) (th_Qi G b0 (fun r σ1 => σ1 = σ ∧ (0 ≤ r ∧ r ≤ 1) ∧ ((r = 1 ∧ 97 ≤ i ∧ i ≤ 122) ∨ (r = 0 ∧ ¬ (97 ≤ i ∧ i ≤ 122))))) 0 0 (th_A b0) := by
  refine Met.ofW (cc := cX8_isLetter) (maxL := 1) (ret := (some .boolean)) (by decide) rfl ?_
  intro p e s m args below meth c s₁ B hml hv
  obtain ⟨rfl, hH, hK⟩ := hv
  have hx := B.exec
  have hb := B.bytes
  have hr := B.returns
  have hts := atoms_spec (ws := wsX8_isLetter) B.pre
  have hown : s.vm.findClass RX8 = some m.cls := findClass_of_methodNamed B.named
  have hlocks := B.notSynchronized
  have h00 : b0 ≤ s.heap.size := hH.1
  have hS : va_S (th_A b0) s.heap s.heap [] := va_S.rf
  have hl := lv_entry ([.int (I i)]) (n := 1) (Nat.le_of_ble_eq_true rfl)
  rw [lg_entry_eq]
  generalize (lg_sl ([.int (I i)]) ++ List.replicate (1 - (lg_sl ([.int (I i)])).length) Slot.unset).toArray = ls at hl ⊢
  have hl : lv_has ls 1 [(0, .int (I i))] := hl
  refine lv_iload_n hx hb dX8_isLetter_0 rfl (lv_at hl 0 rfl) ?_
  refine lv_bipush (v := I 97) hx hb dX8_isLetter_1 (by decide) ?_
  refine lv_icmp_lt (tgt := 16) hx hb dX8_isLetter_3 (by decide) (fun c_1 => ?_) (fun c_1 => ?_)
  · replace c_1 := (I_lt (a := i) (b := 97) ri (show rng 97 from ⟨by decide, by decide⟩)).mp c_1
    refine lv_iconst (v := I 0) hx hb dX8_isLetter_16 (by decide) ?_
    exact th_zret hx hb hr hlocks hH hS (z := 0) (by omega) ⟨rfl, ⟨by omega, by omega⟩, by omega⟩ dX8_isLetter_17
  · replace c_1 := mt (I_lt (a := i) (b := 97) ri (show rng 97 from ⟨by decide, by decide⟩)).mpr c_1
    refine lv_iload_n hx hb dX8_isLetter_6 rfl (lv_at hl 0 rfl) ?_
    refine lv_bipush (v := I 122) hx hb dX8_isLetter_7 (by decide) ?_
    refine lv_icmp_gt (tgt := 16) hx hb dX8_isLetter_9 (by decide) (fun c_2 => ?_) (fun c_2 => ?_)
    · replace c_2 := (I_lt (a := 122) (b := i) (show rng 122 from ⟨by decide, by decide⟩) ri).mp c_2
      refine lv_iconst (v := I 0) hx hb dX8_isLetter_16 (by decide) ?_
      exact th_zret hx hb hr hlocks hH hS (z := 0) (by omega) ⟨rfl, ⟨by omega, by omega⟩, by omega⟩ dX8_isLetter_17
    · replace c_2 := mt (I_lt (a := 122) (b := i) (show rng 122 from ⟨by decide, by decide⟩) ri).mpr c_2
      refine lv_iconst (v := I 1) hx hb dX8_isLetter_12 (by decide) ?_
      refine lv_goto (tgt := 17) hx hb dX8_isLetter_13 (by decide) ?_
      exact th_zret hx hb hr hlocks hH hS (z := 1) (by omega) ⟨rfl, ⟨by omega, by omega⟩, by omega⟩ dX8_isLetter_17

set_option maxHeartbeats 4000000 in
set_option maxRecDepth 100000 in
theorem f_isDigit (l : Launch) (G : va_G) (y : Nat → ClassId) (b0 : Nat) (σ : th_M) (E : th_E) (hO : ok y E σ) (i : Int) (ri : rng i) : Met l yX8_isDigit wsX8_isDigit ({ frames := 0, cells := 0, slots := 0, locals := 0 }) (th_P G y b0 σ [.int (I i)]) (th_Qi G b0 (fun r σ1 => σ1 = σ ∧ (0 ≤ r ∧ r ≤ 1) ∧ ((r = 1 ∧ 48 ≤ i ∧ i ≤ 57) ∨ (r = 0 ∧ ¬ (48 ≤ i ∧ i ≤ 57))))) 0 0 (th_A b0) := by
  refine Met.ofW (cc := cX8_isDigit) (maxL := 1) (ret := (some .boolean)) (by decide) rfl ?_
  intro p e s m args below meth c s₁ B hml hv
  obtain ⟨rfl, hH, hK⟩ := hv
  have hx := B.exec
  have hb := B.bytes
  have hr := B.returns
  have hts := atoms_spec (ws := wsX8_isDigit) B.pre
  have hown : s.vm.findClass RX8 = some m.cls := findClass_of_methodNamed B.named
  have hlocks := B.notSynchronized
  have h00 : b0 ≤ s.heap.size := hH.1
  have hS : va_S (th_A b0) s.heap s.heap [] := va_S.rf
  have hl := lv_entry ([.int (I i)]) (n := 1) (Nat.le_of_ble_eq_true rfl)
  rw [lg_entry_eq]
  generalize (lg_sl ([.int (I i)]) ++ List.replicate (1 - (lg_sl ([.int (I i)])).length) Slot.unset).toArray = ls at hl ⊢
  have hl : lv_has ls 1 [(0, .int (I i))] := hl
  refine lv_iload_n hx hb dX8_isDigit_0 rfl (lv_at hl 0 rfl) ?_
  refine lv_bipush (v := I 48) hx hb dX8_isDigit_1 (by decide) ?_
  refine lv_icmp_lt (tgt := 16) hx hb dX8_isDigit_3 (by decide) (fun c_1 => ?_) (fun c_1 => ?_)
  · replace c_1 := (I_lt (a := i) (b := 48) ri (show rng 48 from ⟨by decide, by decide⟩)).mp c_1
    refine lv_iconst (v := I 0) hx hb dX8_isDigit_16 (by decide) ?_
    exact th_zret hx hb hr hlocks hH hS (z := 0) (by omega) ⟨rfl, ⟨by omega, by omega⟩, by omega⟩ dX8_isDigit_17
  · replace c_1 := mt (I_lt (a := i) (b := 48) ri (show rng 48 from ⟨by decide, by decide⟩)).mpr c_1
    refine lv_iload_n hx hb dX8_isDigit_6 rfl (lv_at hl 0 rfl) ?_
    refine lv_bipush (v := I 57) hx hb dX8_isDigit_7 (by decide) ?_
    refine lv_icmp_gt (tgt := 16) hx hb dX8_isDigit_9 (by decide) (fun c_2 => ?_) (fun c_2 => ?_)
    · replace c_2 := (I_lt (a := 57) (b := i) (show rng 57 from ⟨by decide, by decide⟩) ri).mp c_2
      refine lv_iconst (v := I 0) hx hb dX8_isDigit_16 (by decide) ?_
      exact th_zret hx hb hr hlocks hH hS (z := 0) (by omega) ⟨rfl, ⟨by omega, by omega⟩, by omega⟩ dX8_isDigit_17
    · replace c_2 := mt (I_lt (a := 57) (b := i) (show rng 57 from ⟨by decide, by decide⟩) ri).mpr c_2
      refine lv_iconst (v := I 1) hx hb dX8_isDigit_12 (by decide) ?_
      refine lv_goto (tgt := 17) hx hb dX8_isDigit_13 (by decide) ?_
      exact th_zret hx hb hr hlocks hH hS (z := 1) (by omega) ⟨rfl, ⟨by omega, by omega⟩, by omega⟩ dX8_isDigit_17

set_option maxHeartbeats 4000000 in
set_option maxRecDepth 100000 in
theorem f_findWord (l : Launch) (G : va_G) (y : Nat → ClassId) (b0 : Nat) (σ : th_M) (E : th_E) (hO : ok y E σ) (a : Nat) (h_a : kd E a = 3) (q : Nat) (h_q : kd E q = 12) (st : Int) (rst : rng st) (l_st : 0 ≤ st) (u_st : st ≤ 400) (ln : Int) (rln : rng ln) (l_ln : 0 ≤ ln) (u_ln : ln ≤ 400) (Bq : Int → Int) (hy0 : ∀ k : Int, 0 ≤ k → k < ln → (aF σ (ad E q 0) k.toNat).toInt = Bq k) (hy1 : ∀ k, ln ≤ k → Bq k = -1) (hy2 : gI σ a 4 < 401) (hy3 : st < ln) (hy4 : isLt (Bq st)) : Met l yX8_findWord wsX8_findWord ({ frames := 1, cells := 0, slots := 0, locals := 40 }) (th_P G y b0 σ [.ref a, .ref (ad E q 0), .int (I st), .int (I ln)]) (th_Qi G b0 (fun r σ1 => ok y E σ1 ∧ fr [3] E σ σ1 ∧ (∃ v, rng v ∧ tadd E σ σ1 a 256 st v (r - st) ∧ st < r ∧ r ≤ ln ∧ (∀ q, st ≤ q → q < r → isLt (Bq q)) ∧ ¬ isLt (Bq r) ∧ (r - st ≤ 6 → v = wv Bq st (r - st).toNat)))) 0 0 (th_A b0) := by
  refine Met.ofW (cc := cX8_findWord) (maxL := 6) (ret := (some .int)) (by decide) rfl ?_
  intro p e s m args below meth c s₁ B hml hv
  obtain ⟨rfl, hH, hK⟩ := hv
  have hx := B.exec
  have hb := B.bytes
  have hr := B.returns
  have hts := atoms_spec (ws := wsX8_findWord) B.pre
  have hown : s.vm.findClass RX8 = some m.cls := findClass_of_methodNamed B.named
  have hlocks := B.notSynchronized
  have h00 : b0 ≤ s.heap.size := hH.1
  have hS : va_S (th_A b0) s.heap s.heap [] := va_S.rf
  have hF : fr [3] E σ σ := fr.rf
  have hBe := hy1
  have fl0 := hts (.methodLink RX8 34 Lib.Math.max.name) (by decide +kernel)
  have fl1 := hts (.static Lib.Math.max.name) (by decide +kernel)
  have fl2 := hts (.initialized "java/lang/Math") (by decide +kernel)
  have fl3 := hts (.code Lib.Math.max.name Lib.Math.max.code 2 (some .int)) (by decide +kernel)
  have hl := lv_entry ([.ref a, .ref (ad E q 0), .int (I st), .int (I ln)]) (n := 6) (Nat.le_of_ble_eq_true rfl)
  rw [lg_entry_eq]
  generalize (lg_sl ([.ref a, .ref (ad E q 0), .int (I st), .int (I ln)]) ++ List.replicate (6 - (lg_sl ([.ref a, .ref (ad E q 0), .int (I st), .int (I ln)])).length) Slot.unset).toArray = ls at hl ⊢
  have hl : lv_has ls 6 [(0, .ref a), (1, .ref (ad E q 0)), (2, .int (I st)), (3, .int (I ln))] := hl
  obtain ⟨a40, ea40, ra40, la40, ua40⟩ := hO.gi h_a (by decide) k3_4
  obtain ⟨f_1, ef_2⟩ : ∃ f9, aF σ (ad E q 0) = f9 := ⟨_, rfl⟩
  have hBf : ∀ k : Int, 0 ≤ k → k < ln → (f_1 k.toNat).toInt = Bq k := fun k h1 h2 => by rw [← ef_2]; exact hy0 k h1 h2
  refine lv_iconst (v := I 0) hx hb dX8_findWord_0 (by decide) ?_
  refine lv_istore (lv' := [(4, .int (I 0)), (0, .ref a), (1, .ref (ad E q 0)), (2, .int (I st)), (3, .int (I ln))]) hx hb dX8_findWord_1 hl (by decide) rfl (fun ls hl => ?_)
  refine lv_iconst (v := I 0) hx hb dX8_findWord_3 (by decide) ?_
  refine lv_iload_n hx hb dX8_findWord_4 rfl (lv_at hl 3 rfl) ?_
  refine va_mmax hx hb (by rw [hml]; exact hl.1.symm) hown fl0 fl1 fl2 fl3 (Nat.le_of_ble_eq_true rfl) (Nat.le_of_ble_eq_true rfl) (Nat.zero_le _) (Nat.zero_le _) dX8_findWord_5 ?_
  refine th_mmax (show rng 0 from ⟨by decide, by decide⟩) rst (fun z_3 rz_3 hz_3 => ?_)
  refine lv_istore (lv' := [(5, .int (I z_3)), (4, .int (I 0)), (0, .ref a), (1, .ref (ad E q 0)), (2, .int (I st)), (3, .int (I ln))]) hx hb dX8_findWord_8 hl (by decide) rfl (fun ls hl => ?_)
  refine th_loop (α := Int × Int) (pc := 10) (fun x9 => (400 - x9.2).toNat) (fun x9 σ9 H9 l9 ls9 => σ9 = σ ∧ th_H G b0 σ9 H9 ∧ va_S (th_A b0) s.heap H9 l9 ∧ lv_has ls9 6 [(0, .ref a), (1, .ref (ad E q 0)), (2, .int (I st)), (3, .int (I ln)), (4, .int (I x9.1)), (5, .int (I x9.2))] ∧ rng x9.1 ∧ rng x9.2 ∧ (st ≤ x9.2) ∧ (x9.2 ≤ ln) ∧ (∀ q, st ≤ q → q < x9.2 → isLt (Bq q)) ∧ (x9.2 - st ≤ 6 → x9.1 = wv Bq st (x9.2 - st).toNat)) ?_ (0, z_3) σ _ _ _ ⟨rfl, hH, hS, lv_sub hl [2, 3, 4, 5, 1, 0] rfl, (show rng 0 from ⟨by decide, by decide⟩), rz_3, by first | omega | (dsimp only; omega), by first | omega | (dsimp only; omega), (fun q h1 h2 => absurd h2 (by omega)), (fun h9 => by rw [show (z_3 - st).toNat = 0 by omega]; rfl)⟩
  intro x9 σ_J_19 H locs ls hI9 ihJ_19
  obtain ⟨v4q18, v5q18⟩ := x9
  obtain ⟨eJ_19, hH, hS, hl, rv4q18, rv5q18, J_19_0, J_19_1, J_19_2, J_19_3⟩ := hI9
  replace eJ_19 := eJ_19.symm
  subst eJ_19
  have hl : lv_has ls 6 [(0, .ref a), (1, .ref (ad E q 0)), (2, .int (I st)), (3, .int (I ln)), (4, .int (I v4q18)), (5, .int (I v5q18))] := hl
  have rv4q18 : rng v4q18 := rv4q18
  have rv5q18 : rng v5q18 := rv5q18
  replace J_19_0 : st ≤ v5q18 := J_19_0
  replace J_19_1 : v5q18 ≤ ln := J_19_1
  replace J_19_2 : ∀ q, st ≤ q → q < v5q18 → isLt (Bq q) := J_19_2
  replace J_19_3 : v5q18 - st ≤ 6 → v4q18 = wv Bq st (v5q18 - st).toNat := J_19_3
  refine lv_iload hx hb dX8_findWord_10 (lv_at hl 5 rfl) ?_
  refine lv_iload_n hx hb dX8_findWord_12 rfl (lv_at hl 3 rfl) ?_
  refine lv_icmp_ge (tgt := 55) hx hb dX8_findWord_13 (by decide) (fun c_20 => ?_) (fun c_20 => ?_)
  · replace c_20 := (I_le (a := ln) (b := v5q18) rln rv5q18).mp c_20
    refine lv_aload_n hx hb dX8_findWord_55 rfl (lv_at hl 0 rfl) ?_
    refine lv_sipush (v := I 256) hx hb dX8_findWord_56 (by decide) ?_
    refine lv_iload_n hx hb dX8_findWord_59 rfl (lv_at hl 2 rfl) ?_
    refine lv_iload hx hb dX8_findWord_60 (lv_at hl 4 rfl) ?_
    refine lv_iload hx hb dX8_findWord_62 (lv_at hl 5 rfl) ?_
    refine lv_iload_n hx hb dX8_findWord_64 rfl (lv_at hl 2 rfl) ?_
    refine lv_isub hx hb dX8_findWord_65 ?_
    refine th_subo (fun z_21 rz_21 hz_21 => ?_)
    obtain ⟨_, hc_22⟩ := hO.cell h_a (by decide) (ci := 8) rfl
    refine th_callv (va_runV (As := [.int (I 256), .int (I st), .int (I v4q18), .int (I z_21)]) (rest := []) ⟨hx, hb, hml, hown, hts⟩ (f_addToken l G y b0 σ E hO a h_a 256 (show rng 256 from (show rng 256 from ⟨by decide, by decide⟩)) st (show rng st from rst) v4q18 (show rng v4q18 from rv4q18) z_21 (show rng z_21 from rz_21) (by omega)) (cwV 4 hts gX8_findWord_X8_addToken rfl rfl rfl (by decide +kernel) ⟨Nat.le_of_ble_eq_true rfl, Nat.le_of_ble_eq_true rfl⟩) (th_PV hK hH rfl hc_22) rfl rfl hl.1 rfl (lv_room (Nat.le_of_ble_eq_true rfl)) dX8_findWord_66 ⟨Nat.le_of_ble_eq_true rfl, Nat.le_of_ble_eq_true rfl⟩) hS (fun σ_s_24 H locs hw_23 hH hS => ?_)
    obtain ⟨hO9, hF9, hw_23⟩ := hw_23
    have ef_25 : aF σ_s_24 (ad E q 0) = f_1 := (fr.af hO hF9 h_q (by decide) (by decide) k12_0 isA1).trans ef_2
    replace hO := hO9
    replace hF := hF.tu hF9 (by decide)
    replace hw_23 : tadd E σ σ_s_24 a 256 st v4q18 z_21 := hw_23
    refine lv_iload hx hb dX8_findWord_69 (lv_at hl 5 rfl) ?_
    exact th_iret hx hb hr hlocks hH hS (z := v5q18) rv5q18 ⟨hO, hF, ⟨v4q18, rv4q18, (by rw [show v5q18 - st = z_21 by omega]; exact hw_23), run_gt hy4 (by omega) (by first | (have h9 := hBe v5q18 (by omega); unfold isLt; omega) | (unfold isLt; omega)), by omega, J_19_2, (by first | (have h9 := hBe v5q18 (by omega); unfold isLt; omega) | (unfold isLt; omega)), J_19_3⟩⟩ dX8_findWord_71
  · replace c_20 := mt (I_le (a := ln) (b := v5q18) rln rv5q18).mpr c_20
    refine lv_iload hx hb dX8_findWord_16 (lv_at hl 5 rfl) ?_
    refine lv_aload_n hx hb dX8_findWord_18 rfl (lv_at hl 1 rfl) ?_
    refine ok_alen hx hb hK hH hO h_q (by decide) k12_0 isA1 (by decide) dX8_findWord_19 ?_
    refine lv_icmp_ge (tgt := 55) hx hb dX8_findWord_20 (by decide) (fun c_26 => ?_) (fun c_26 => ?_)
    · replace c_26 := (I_le (a := 400) (b := v5q18) (show rng 400 from ⟨by decide, by decide⟩) rv5q18).mp c_26
      refine lv_aload_n hx hb dX8_findWord_55 rfl (lv_at hl 0 rfl) ?_
      refine lv_sipush (v := I 256) hx hb dX8_findWord_56 (by decide) ?_
      refine lv_iload_n hx hb dX8_findWord_59 rfl (lv_at hl 2 rfl) ?_
      refine lv_iload hx hb dX8_findWord_60 (lv_at hl 4 rfl) ?_
      refine lv_iload hx hb dX8_findWord_62 (lv_at hl 5 rfl) ?_
      refine lv_iload_n hx hb dX8_findWord_64 rfl (lv_at hl 2 rfl) ?_
      refine lv_isub hx hb dX8_findWord_65 ?_
      refine th_subo (fun z_27 rz_27 hz_27 => ?_)
      obtain ⟨_, hc_28⟩ := hO.cell h_a (by decide) (ci := 8) rfl
      refine th_callv (va_runV (As := [.int (I 256), .int (I st), .int (I v4q18), .int (I z_27)]) (rest := []) ⟨hx, hb, hml, hown, hts⟩ (f_addToken l G y b0 σ E hO a h_a 256 (show rng 256 from (show rng 256 from ⟨by decide, by decide⟩)) st (show rng st from rst) v4q18 (show rng v4q18 from rv4q18) z_27 (show rng z_27 from rz_27) (by omega)) (cwV 4 hts gX8_findWord_X8_addToken rfl rfl rfl (by decide +kernel) ⟨Nat.le_of_ble_eq_true rfl, Nat.le_of_ble_eq_true rfl⟩) (th_PV hK hH rfl hc_28) rfl rfl hl.1 rfl (lv_room (Nat.le_of_ble_eq_true rfl)) dX8_findWord_66 ⟨Nat.le_of_ble_eq_true rfl, Nat.le_of_ble_eq_true rfl⟩) hS (fun σ_s_30 H locs hw_29 hH hS => ?_)
      obtain ⟨hO9, hF9, hw_29⟩ := hw_29
      have ef_31 : aF σ_s_30 (ad E q 0) = f_1 := (fr.af hO hF9 h_q (by decide) (by decide) k12_0 isA1).trans ef_2
      replace hO := hO9
      replace hF := hF.tu hF9 (by decide)
      replace hw_29 : tadd E σ σ_s_30 a 256 st v4q18 z_27 := hw_29
      refine lv_iload hx hb dX8_findWord_69 (lv_at hl 5 rfl) ?_
      exact th_iret hx hb hr hlocks hH hS (z := v5q18) rv5q18 ⟨hO, hF, ⟨v4q18, rv4q18, (by rw [show v5q18 - st = z_27 by omega]; exact hw_29), run_gt hy4 (by omega) (by first | (have h9 := hBe v5q18 (by omega); unfold isLt; omega) | (unfold isLt; omega)), by omega, J_19_2, (by first | (have h9 := hBe v5q18 (by omega); unfold isLt; omega) | (unfold isLt; omega)), J_19_3⟩⟩ dX8_findWord_71
    · replace c_26 := mt (I_le (a := 400) (b := v5q18) (show rng 400 from ⟨by decide, by decide⟩) rv5q18).mpr c_26
      refine lv_aload_n hx hb dX8_findWord_23 rfl (lv_at hl 1 rfl) ?_
      refine lv_iload hx hb dX8_findWord_24 (lv_at hl 5 rfl) ?_
      refine ok_iald hx hb hK hH hO h_q (by decide) k12_0 isA1 rv5q18 (by omega) (by omega) dX8_findWord_26 (fun z_32 ez_32 rz_32 el9 => ?_)
      have ez9 : (f_1 (v5q18).toNat).toInt = z_32 := by rw [← ef_2]; exact ez_32
      have ez_33 := ez9
      have hbz_32 : Bq v5q18 = z_32 := (hBf v5q18 (by omega) (by omega)).symm.trans ez_33
      refine th_calli (va_runS (As := [.int (I z_32)]) (rest := []) ⟨hx, hb, hml, hown, hts⟩ (f_isLetter l G y b0 σ E hO z_32 (show rng z_32 from rz_32)) (va_cwS 1 hts gX8_findWord_X8_isLetter rfl rfl rfl (by decide +kernel) ⟨Nat.le_of_ble_eq_true rfl, Nat.le_of_ble_eq_true rfl⟩) (th_PS hK hH) rfl rfl hl.1 rfl (lv_room (Nat.le_of_ble_eq_true rfl)) dX8_findWord_27 ⟨Nat.le_of_ble_eq_true rfl, Nat.le_of_ble_eq_true rfl⟩) hS (fun z_36 σ_s_35 H locs rz_36 hw_34 hH hS => ?_)
      obtain ⟨e9, bhw_34, hw_34⟩ := hw_34
      replace e9 := e9.symm
      subst e9
      replace hw_34 : (z_36 = 1 ∧ 97 ≤ z_32 ∧ z_32 ≤ 122) ∨ (z_36 = 0 ∧ ¬ (97 ≤ z_32 ∧ z_32 ≤ 122)) := hw_34
      refine lv_if_eq (tgt := 55) hx hb dX8_findWord_30 (by decide) (fun c_37 => ?_) (fun c_37 => ?_)
      · replace c_37 := (I_eq (a := z_36) (b := 0) rz_36 (show rng 0 from ⟨by decide, by decide⟩)).mp c_37
        refine lv_aload_n hx hb dX8_findWord_55 rfl (lv_at hl 0 rfl) ?_
        refine lv_sipush (v := I 256) hx hb dX8_findWord_56 (by decide) ?_
        refine lv_iload_n hx hb dX8_findWord_59 rfl (lv_at hl 2 rfl) ?_
        refine lv_iload hx hb dX8_findWord_60 (lv_at hl 4 rfl) ?_
        refine lv_iload hx hb dX8_findWord_62 (lv_at hl 5 rfl) ?_
        refine lv_iload_n hx hb dX8_findWord_64 rfl (lv_at hl 2 rfl) ?_
        refine lv_isub hx hb dX8_findWord_65 ?_
        refine th_subo (fun z_38 rz_38 hz_38 => ?_)
        obtain ⟨_, hc_39⟩ := hO.cell h_a (by decide) (ci := 8) rfl
        refine th_callv (va_runV (As := [.int (I 256), .int (I st), .int (I v4q18), .int (I z_38)]) (rest := []) ⟨hx, hb, hml, hown, hts⟩ (f_addToken l G y b0 σ E hO a h_a 256 (show rng 256 from (show rng 256 from ⟨by decide, by decide⟩)) st (show rng st from rst) v4q18 (show rng v4q18 from rv4q18) z_38 (show rng z_38 from rz_38) (by omega)) (cwV 4 hts gX8_findWord_X8_addToken rfl rfl rfl (by decide +kernel) ⟨Nat.le_of_ble_eq_true rfl, Nat.le_of_ble_eq_true rfl⟩) (th_PV hK hH rfl hc_39) rfl rfl hl.1 rfl (lv_room (Nat.le_of_ble_eq_true rfl)) dX8_findWord_66 ⟨Nat.le_of_ble_eq_true rfl, Nat.le_of_ble_eq_true rfl⟩) hS (fun σ_s_41 H locs hw_40 hH hS => ?_)
        obtain ⟨hO9, hF9, hw_40⟩ := hw_40
        have ef_42 : aF σ_s_41 (ad E q 0) = f_1 := (fr.af hO hF9 h_q (by decide) (by decide) k12_0 isA1).trans ef_2
        replace hO := hO9
        replace hF := hF.tu hF9 (by decide)
        replace hw_40 : tadd E σ σ_s_41 a 256 st v4q18 z_38 := hw_40
        refine lv_iload hx hb dX8_findWord_69 (lv_at hl 5 rfl) ?_
        exact th_iret hx hb hr hlocks hH hS (z := v5q18) rv5q18 ⟨hO, hF, ⟨v4q18, rv4q18, (by rw [show v5q18 - st = z_38 by omega]; exact hw_40), run_gt hy4 (by omega) (by first | (have h9 := hBe v5q18 (by omega); unfold isLt; omega) | (unfold isLt; omega)), by omega, J_19_2, (by first | (have h9 := hBe v5q18 (by omega); unfold isLt; omega) | (unfold isLt; omega)), J_19_3⟩⟩ dX8_findWord_71
      · replace c_37 := mt (I_eq (a := z_36) (b := 0) rz_36 (show rng 0 from ⟨by decide, by decide⟩)).mpr c_37
        refine lv_iload hx hb dX8_findWord_33 (lv_at hl 4 rfl) ?_
        refine lv_iconst (v := I 5) hx hb dX8_findWord_35 (by decide) ?_
        refine lv_ishl hx hb dX8_findWord_36 ?_
        refine lv_aload_n hx hb dX8_findWord_37 rfl (lv_at hl 1 rfl) ?_
        refine lv_iload hx hb dX8_findWord_38 (lv_at hl 5 rfl) ?_
        refine ok_iald hx hb hK hH hO h_q (by decide) k12_0 isA1 rv5q18 (by omega) (by omega) dX8_findWord_40 (fun z_43 ez_43 rz_43 el9 => ?_)
        have ez9 : (f_1 (v5q18).toNat).toInt = z_43 := by rw [← ef_2]; exact ez_43
        have ez_44 := ez9
        have hbz_43 : Bq v5q18 = z_43 := (hBf v5q18 (by omega) (by omega)).symm.trans ez_44
        refine lv_bipush (v := I 97) hx hb dX8_findWord_41 (by decide) ?_
        refine lv_isub hx hb dX8_findWord_43 ?_
        refine th_subo (fun z_45 rz_45 hz_45 => ?_)
        refine lv_iconst (v := I 1) hx hb dX8_findWord_44 (by decide) ?_
        refine lv_iadd hx hb dX8_findWord_45 ?_
        refine th_addo (fun z_46 rz_46 hz_46 => ?_)
        refine lv_ior hx hb dX8_findWord_46 ?_
        refine th_so5 (fun z_47 rz_47 hz_47 => ?_)
        refine lv_istore (lv' := [(4, .int (I z_47)), (0, .ref a), (1, .ref (ad E q 0)), (2, .int (I st)), (3, .int (I ln)), (5, .int (I v5q18))]) hx hb dX8_findWord_47 hl (by decide) rfl (fun ls hl => ?_)
        refine lv_iinc (v := I (v5q18 + 1)) (lv' := [(5, .int (I (v5q18 + 1))), (4, .int (I z_47)), (0, .ref a), (1, .ref (ad E q 0)), (2, .int (I st)), (3, .int (I ln))]) hx hb dX8_findWord_49 hl (k := 5) rfl (I_add _ _) (by decide) rfl (fun ls hl => ?_)
        refine lv_goto (tgt := 10) hx hb dX8_findWord_52 (by decide) ?_
        exact ihJ_19 (z_47, v5q18 + 1) σ _ _ _ (by first | omega | (dsimp only; omega)) ⟨rfl, hH, hS, lv_sub hl [2, 3, 4, 5, 1, 0] rfl, rz_47, ⟨by first | omega | (dsimp only; omega), by first | omega | (dsimp only; omega)⟩, by first | omega | (dsimp only; omega), by first | omega | (dsimp only; omega), (fun q h1 h2 => by
          by_cases e9 : q = v5q18
          · rw [e9]; unfold isLt; omega
          · exact J_19_2 q h1 (by first | omega | (dsimp only at h2; omega))), (wv_next (by omega) J_19_2 (by unfold isLt; omega) J_19_3 (fun g0 g1 g2 g3 => by have g4 := hz_47 g0 g1 (by omega) (by omega); omega))⟩

set_option maxHeartbeats 4000000 in
set_option maxRecDepth 100000 in
theorem f_findDigits (l : Launch) (G : va_G) (y : Nat → ClassId) (b0 : Nat) (σ : th_M) (E : th_E) (hO : ok y E σ) (a : Nat) (h_a : kd E a = 3) (q : Nat) (h_q : kd E q = 12) (st : Int) (rst : rng st) (l_st : 0 ≤ st) (u_st : st ≤ 400) (ln : Int) (rln : rng ln) (l_ln : 0 ≤ ln) (u_ln : ln ≤ 400) (Bq : Int → Int) (hy0 : ∀ k : Int, 0 ≤ k → k < ln → (aF σ (ad E q 0) k.toNat).toInt = Bq k) (hy1 : ∀ k, ln ≤ k → Bq k = -1) (hy2 : gI σ a 4 < 401) (hy3 : st < ln) (hy4 : isDg (Bq st)) : Met l yX8_findDigits wsX8_findDigits ({ frames := 1, cells := 0, slots := 0, locals := 40 }) (th_P G y b0 σ [.ref a, .ref (ad E q 0), .int (I st), .int (I ln)]) (th_Qi G b0 (fun r σ1 => ok y E σ1 ∧ fr [3] E σ σ1 ∧ (∃ v, rng v ∧ tadd E σ σ1 a 257 st v (r - st) ∧ st < r ∧ r ≤ ln ∧ (∀ q, st ≤ q → q < r → isDg (Bq q)) ∧ ¬ isDg (Bq r)))) 0 0 (th_A b0) := by
  refine Met.ofW (cc := cX8_findDigits) (maxL := 6) (ret := (some .int)) (by decide) rfl ?_
  intro p e s m args below meth c s₁ B hml hv
  obtain ⟨rfl, hH, hK⟩ := hv
  have hx := B.exec
  have hb := B.bytes
  have hr := B.returns
  have hts := atoms_spec (ws := wsX8_findDigits) B.pre
  have hown : s.vm.findClass RX8 = some m.cls := findClass_of_methodNamed B.named
  have hlocks := B.notSynchronized
  have h00 : b0 ≤ s.heap.size := hH.1
  have hS : va_S (th_A b0) s.heap s.heap [] := va_S.rf
  have hF : fr [3] E σ σ := fr.rf
  have hBe := hy1
  have fl0 := hts (.methodLink RX8 34 Lib.Math.max.name) (by decide +kernel)
  have fl1 := hts (.static Lib.Math.max.name) (by decide +kernel)
  have fl2 := hts (.initialized "java/lang/Math") (by decide +kernel)
  have fl3 := hts (.code Lib.Math.max.name Lib.Math.max.code 2 (some .int)) (by decide +kernel)
  have hl := lv_entry ([.ref a, .ref (ad E q 0), .int (I st), .int (I ln)]) (n := 6) (Nat.le_of_ble_eq_true rfl)
  rw [lg_entry_eq]
  generalize (lg_sl ([.ref a, .ref (ad E q 0), .int (I st), .int (I ln)]) ++ List.replicate (6 - (lg_sl ([.ref a, .ref (ad E q 0), .int (I st), .int (I ln)])).length) Slot.unset).toArray = ls at hl ⊢
  have hl : lv_has ls 6 [(0, .ref a), (1, .ref (ad E q 0)), (2, .int (I st)), (3, .int (I ln))] := hl
  obtain ⟨a40, ea40, ra40, la40, ua40⟩ := hO.gi h_a (by decide) k3_4
  obtain ⟨f_1, ef_2⟩ : ∃ f9, aF σ (ad E q 0) = f9 := ⟨_, rfl⟩
  have hBf : ∀ k : Int, 0 ≤ k → k < ln → (f_1 k.toNat).toInt = Bq k := fun k h1 h2 => by rw [← ef_2]; exact hy0 k h1 h2
  refine lv_iconst (v := I 0) hx hb dX8_findDigits_0 (by decide) ?_
  refine lv_istore (lv' := [(4, .int (I 0)), (0, .ref a), (1, .ref (ad E q 0)), (2, .int (I st)), (3, .int (I ln))]) hx hb dX8_findDigits_1 hl (by decide) rfl (fun ls hl => ?_)
  refine lv_iconst (v := I 0) hx hb dX8_findDigits_3 (by decide) ?_
  refine lv_iload_n hx hb dX8_findDigits_4 rfl (lv_at hl 3 rfl) ?_
  refine va_mmax hx hb (by rw [hml]; exact hl.1.symm) hown fl0 fl1 fl2 fl3 (Nat.le_of_ble_eq_true rfl) (Nat.le_of_ble_eq_true rfl) (Nat.zero_le _) (Nat.zero_le _) dX8_findDigits_5 ?_
  refine th_mmax (show rng 0 from ⟨by decide, by decide⟩) rst (fun z_3 rz_3 hz_3 => ?_)
  refine lv_istore (lv' := [(5, .int (I z_3)), (4, .int (I 0)), (0, .ref a), (1, .ref (ad E q 0)), (2, .int (I st)), (3, .int (I ln))]) hx hb dX8_findDigits_8 hl (by decide) rfl (fun ls hl => ?_)
  refine th_loop (α := Int × Int) (pc := 10) (fun x9 => (400 - x9.2).toNat) (fun x9 σ9 H9 l9 ls9 => σ9 = σ ∧ th_H G b0 σ9 H9 ∧ va_S (th_A b0) s.heap H9 l9 ∧ lv_has ls9 6 [(0, .ref a), (1, .ref (ad E q 0)), (2, .int (I st)), (3, .int (I ln)), (4, .int (I x9.1)), (5, .int (I x9.2))] ∧ rng x9.1 ∧ rng x9.2 ∧ (st ≤ x9.2) ∧ (x9.2 ≤ ln) ∧ (∀ q, st ≤ q → q < x9.2 → isDg (Bq q))) ?_ (0, z_3) σ _ _ _ ⟨rfl, hH, hS, lv_sub hl [2, 3, 4, 5, 1, 0] rfl, (show rng 0 from ⟨by decide, by decide⟩), rz_3, by first | omega | (dsimp only; omega), by first | omega | (dsimp only; omega), (fun q h1 h2 => absurd h2 (by omega))⟩
  intro x9 σ_J_18 H locs ls hI9 ihJ_18
  obtain ⟨v4q17, v5q17⟩ := x9
  obtain ⟨eJ_18, hH, hS, hl, rv4q17, rv5q17, J_18_0, J_18_1, J_18_2⟩ := hI9
  replace eJ_18 := eJ_18.symm
  subst eJ_18
  have hl : lv_has ls 6 [(0, .ref a), (1, .ref (ad E q 0)), (2, .int (I st)), (3, .int (I ln)), (4, .int (I v4q17)), (5, .int (I v5q17))] := hl
  have rv4q17 : rng v4q17 := rv4q17
  have rv5q17 : rng v5q17 := rv5q17
  replace J_18_0 : st ≤ v5q17 := J_18_0
  replace J_18_1 : v5q17 ≤ ln := J_18_1
  replace J_18_2 : ∀ q, st ≤ q → q < v5q17 → isDg (Bq q) := J_18_2
  refine lv_iload hx hb dX8_findDigits_10 (lv_at hl 5 rfl) ?_
  refine lv_iload_n hx hb dX8_findDigits_12 rfl (lv_at hl 3 rfl) ?_
  refine lv_icmp_ge (tgt := 54) hx hb dX8_findDigits_13 (by decide) (fun c_19 => ?_) (fun c_19 => ?_)
  · replace c_19 := (I_le (a := ln) (b := v5q17) rln rv5q17).mp c_19
    refine lv_aload_n hx hb dX8_findDigits_54 rfl (lv_at hl 0 rfl) ?_
    refine lv_sipush (v := I 257) hx hb dX8_findDigits_55 (by decide) ?_
    refine lv_iload_n hx hb dX8_findDigits_58 rfl (lv_at hl 2 rfl) ?_
    refine lv_iload hx hb dX8_findDigits_59 (lv_at hl 4 rfl) ?_
    refine lv_iload hx hb dX8_findDigits_61 (lv_at hl 5 rfl) ?_
    refine lv_iload_n hx hb dX8_findDigits_63 rfl (lv_at hl 2 rfl) ?_
    refine lv_isub hx hb dX8_findDigits_64 ?_
    refine th_subo (fun z_20 rz_20 hz_20 => ?_)
    obtain ⟨_, hc_21⟩ := hO.cell h_a (by decide) (ci := 8) rfl
    refine th_callv (va_runV (As := [.int (I 257), .int (I st), .int (I v4q17), .int (I z_20)]) (rest := []) ⟨hx, hb, hml, hown, hts⟩ (f_addToken l G y b0 σ E hO a h_a 257 (show rng 257 from (show rng 257 from ⟨by decide, by decide⟩)) st (show rng st from rst) v4q17 (show rng v4q17 from rv4q17) z_20 (show rng z_20 from rz_20) (by omega)) (cwV 4 hts gX8_findDigits_X8_addToken rfl rfl rfl (by decide +kernel) ⟨Nat.le_of_ble_eq_true rfl, Nat.le_of_ble_eq_true rfl⟩) (th_PV hK hH rfl hc_21) rfl rfl hl.1 rfl (lv_room (Nat.le_of_ble_eq_true rfl)) dX8_findDigits_65 ⟨Nat.le_of_ble_eq_true rfl, Nat.le_of_ble_eq_true rfl⟩) hS (fun σ_s_23 H locs hw_22 hH hS => ?_)
    obtain ⟨hO9, hF9, hw_22⟩ := hw_22
    have ef_24 : aF σ_s_23 (ad E q 0) = f_1 := (fr.af hO hF9 h_q (by decide) (by decide) k12_0 isA1).trans ef_2
    replace hO := hO9
    replace hF := hF.tu hF9 (by decide)
    replace hw_22 : tadd E σ σ_s_23 a 257 st v4q17 z_20 := hw_22
    refine lv_iload hx hb dX8_findDigits_68 (lv_at hl 5 rfl) ?_
    exact th_iret hx hb hr hlocks hH hS (z := v5q17) rv5q17 ⟨hO, hF, ⟨v4q17, rv4q17, (by rw [show v5q17 - st = z_20 by omega]; exact hw_22), run_gt hy4 (by omega) (by first | (have h9 := hBe v5q17 (by omega); unfold isDg; omega) | (unfold isDg; omega)), by omega, J_18_2, (by first | (have h9 := hBe v5q17 (by omega); unfold isDg; omega) | (unfold isDg; omega))⟩⟩ dX8_findDigits_70
  · replace c_19 := mt (I_le (a := ln) (b := v5q17) rln rv5q17).mpr c_19
    refine lv_iload hx hb dX8_findDigits_16 (lv_at hl 5 rfl) ?_
    refine lv_aload_n hx hb dX8_findDigits_18 rfl (lv_at hl 1 rfl) ?_
    refine ok_alen hx hb hK hH hO h_q (by decide) k12_0 isA1 (by decide) dX8_findDigits_19 ?_
    refine lv_icmp_ge (tgt := 54) hx hb dX8_findDigits_20 (by decide) (fun c_25 => ?_) (fun c_25 => ?_)
    · replace c_25 := (I_le (a := 400) (b := v5q17) (show rng 400 from ⟨by decide, by decide⟩) rv5q17).mp c_25
      refine lv_aload_n hx hb dX8_findDigits_54 rfl (lv_at hl 0 rfl) ?_
      refine lv_sipush (v := I 257) hx hb dX8_findDigits_55 (by decide) ?_
      refine lv_iload_n hx hb dX8_findDigits_58 rfl (lv_at hl 2 rfl) ?_
      refine lv_iload hx hb dX8_findDigits_59 (lv_at hl 4 rfl) ?_
      refine lv_iload hx hb dX8_findDigits_61 (lv_at hl 5 rfl) ?_
      refine lv_iload_n hx hb dX8_findDigits_63 rfl (lv_at hl 2 rfl) ?_
      refine lv_isub hx hb dX8_findDigits_64 ?_
      refine th_subo (fun z_26 rz_26 hz_26 => ?_)
      obtain ⟨_, hc_27⟩ := hO.cell h_a (by decide) (ci := 8) rfl
      refine th_callv (va_runV (As := [.int (I 257), .int (I st), .int (I v4q17), .int (I z_26)]) (rest := []) ⟨hx, hb, hml, hown, hts⟩ (f_addToken l G y b0 σ E hO a h_a 257 (show rng 257 from (show rng 257 from ⟨by decide, by decide⟩)) st (show rng st from rst) v4q17 (show rng v4q17 from rv4q17) z_26 (show rng z_26 from rz_26) (by omega)) (cwV 4 hts gX8_findDigits_X8_addToken rfl rfl rfl (by decide +kernel) ⟨Nat.le_of_ble_eq_true rfl, Nat.le_of_ble_eq_true rfl⟩) (th_PV hK hH rfl hc_27) rfl rfl hl.1 rfl (lv_room (Nat.le_of_ble_eq_true rfl)) dX8_findDigits_65 ⟨Nat.le_of_ble_eq_true rfl, Nat.le_of_ble_eq_true rfl⟩) hS (fun σ_s_29 H locs hw_28 hH hS => ?_)
      obtain ⟨hO9, hF9, hw_28⟩ := hw_28
      have ef_30 : aF σ_s_29 (ad E q 0) = f_1 := (fr.af hO hF9 h_q (by decide) (by decide) k12_0 isA1).trans ef_2
      replace hO := hO9
      replace hF := hF.tu hF9 (by decide)
      replace hw_28 : tadd E σ σ_s_29 a 257 st v4q17 z_26 := hw_28
      refine lv_iload hx hb dX8_findDigits_68 (lv_at hl 5 rfl) ?_
      exact th_iret hx hb hr hlocks hH hS (z := v5q17) rv5q17 ⟨hO, hF, ⟨v4q17, rv4q17, (by rw [show v5q17 - st = z_26 by omega]; exact hw_28), run_gt hy4 (by omega) (by first | (have h9 := hBe v5q17 (by omega); unfold isDg; omega) | (unfold isDg; omega)), by omega, J_18_2, (by first | (have h9 := hBe v5q17 (by omega); unfold isDg; omega) | (unfold isDg; omega))⟩⟩ dX8_findDigits_70
    · replace c_25 := mt (I_le (a := 400) (b := v5q17) (show rng 400 from ⟨by decide, by decide⟩) rv5q17).mpr c_25
      refine lv_aload_n hx hb dX8_findDigits_23 rfl (lv_at hl 1 rfl) ?_
      refine lv_iload hx hb dX8_findDigits_24 (lv_at hl 5 rfl) ?_
      refine ok_iald hx hb hK hH hO h_q (by decide) k12_0 isA1 rv5q17 (by omega) (by omega) dX8_findDigits_26 (fun z_31 ez_31 rz_31 el9 => ?_)
      have ez9 : (f_1 (v5q17).toNat).toInt = z_31 := by rw [← ef_2]; exact ez_31
      have ez_32 := ez9
      have hbz_31 : Bq v5q17 = z_31 := (hBf v5q17 (by omega) (by omega)).symm.trans ez_32
      refine th_calli (va_runS (As := [.int (I z_31)]) (rest := []) ⟨hx, hb, hml, hown, hts⟩ (f_isDigit l G y b0 σ E hO z_31 (show rng z_31 from rz_31)) (va_cwS 1 hts gX8_findDigits_X8_isDigit rfl rfl rfl (by decide +kernel) ⟨Nat.le_of_ble_eq_true rfl, Nat.le_of_ble_eq_true rfl⟩) (th_PS hK hH) rfl rfl hl.1 rfl (lv_room (Nat.le_of_ble_eq_true rfl)) dX8_findDigits_27 ⟨Nat.le_of_ble_eq_true rfl, Nat.le_of_ble_eq_true rfl⟩) hS (fun z_35 σ_s_34 H locs rz_35 hw_33 hH hS => ?_)
      obtain ⟨e9, bhw_33, hw_33⟩ := hw_33
      replace e9 := e9.symm
      subst e9
      replace hw_33 : (z_35 = 1 ∧ 48 ≤ z_31 ∧ z_31 ≤ 57) ∨ (z_35 = 0 ∧ ¬ (48 ≤ z_31 ∧ z_31 ≤ 57)) := hw_33
      refine lv_if_eq (tgt := 54) hx hb dX8_findDigits_30 (by decide) (fun c_36 => ?_) (fun c_36 => ?_)
      · replace c_36 := (I_eq (a := z_35) (b := 0) rz_35 (show rng 0 from ⟨by decide, by decide⟩)).mp c_36
        refine lv_aload_n hx hb dX8_findDigits_54 rfl (lv_at hl 0 rfl) ?_
        refine lv_sipush (v := I 257) hx hb dX8_findDigits_55 (by decide) ?_
        refine lv_iload_n hx hb dX8_findDigits_58 rfl (lv_at hl 2 rfl) ?_
        refine lv_iload hx hb dX8_findDigits_59 (lv_at hl 4 rfl) ?_
        refine lv_iload hx hb dX8_findDigits_61 (lv_at hl 5 rfl) ?_
        refine lv_iload_n hx hb dX8_findDigits_63 rfl (lv_at hl 2 rfl) ?_
        refine lv_isub hx hb dX8_findDigits_64 ?_
        refine th_subo (fun z_37 rz_37 hz_37 => ?_)
        obtain ⟨_, hc_38⟩ := hO.cell h_a (by decide) (ci := 8) rfl
        refine th_callv (va_runV (As := [.int (I 257), .int (I st), .int (I v4q17), .int (I z_37)]) (rest := []) ⟨hx, hb, hml, hown, hts⟩ (f_addToken l G y b0 σ E hO a h_a 257 (show rng 257 from (show rng 257 from ⟨by decide, by decide⟩)) st (show rng st from rst) v4q17 (show rng v4q17 from rv4q17) z_37 (show rng z_37 from rz_37) (by omega)) (cwV 4 hts gX8_findDigits_X8_addToken rfl rfl rfl (by decide +kernel) ⟨Nat.le_of_ble_eq_true rfl, Nat.le_of_ble_eq_true rfl⟩) (th_PV hK hH rfl hc_38) rfl rfl hl.1 rfl (lv_room (Nat.le_of_ble_eq_true rfl)) dX8_findDigits_65 ⟨Nat.le_of_ble_eq_true rfl, Nat.le_of_ble_eq_true rfl⟩) hS (fun σ_s_40 H locs hw_39 hH hS => ?_)
        obtain ⟨hO9, hF9, hw_39⟩ := hw_39
        have ef_41 : aF σ_s_40 (ad E q 0) = f_1 := (fr.af hO hF9 h_q (by decide) (by decide) k12_0 isA1).trans ef_2
        replace hO := hO9
        replace hF := hF.tu hF9 (by decide)
        replace hw_39 : tadd E σ σ_s_40 a 257 st v4q17 z_37 := hw_39
        refine lv_iload hx hb dX8_findDigits_68 (lv_at hl 5 rfl) ?_
        exact th_iret hx hb hr hlocks hH hS (z := v5q17) rv5q17 ⟨hO, hF, ⟨v4q17, rv4q17, (by rw [show v5q17 - st = z_37 by omega]; exact hw_39), run_gt hy4 (by omega) (by first | (have h9 := hBe v5q17 (by omega); unfold isDg; omega) | (unfold isDg; omega)), by omega, J_18_2, (by first | (have h9 := hBe v5q17 (by omega); unfold isDg; omega) | (unfold isDg; omega))⟩⟩ dX8_findDigits_70
      · replace c_36 := mt (I_eq (a := z_35) (b := 0) rz_35 (show rng 0 from ⟨by decide, by decide⟩)).mpr c_36
        refine lv_iload hx hb dX8_findDigits_33 (lv_at hl 4 rfl) ?_
        refine lv_bipush (v := I 10) hx hb dX8_findDigits_35 (by decide) ?_
        refine lv_imul hx hb dX8_findDigits_37 ?_
        refine nq_top (I_mul _ _) ?_
        refine lv_aload_n hx hb dX8_findDigits_38 rfl (lv_at hl 1 rfl) ?_
        refine lv_iload hx hb dX8_findDigits_39 (lv_at hl 5 rfl) ?_
        refine ok_iald hx hb hK hH hO h_q (by decide) k12_0 isA1 rv5q17 (by omega) (by omega) dX8_findDigits_41 (fun z_42 ez_42 rz_42 el9 => ?_)
        have ez9 : (f_1 (v5q17).toNat).toInt = z_42 := by rw [← ef_2]; exact ez_42
        have ez_43 := ez9
        have hbz_42 : Bq v5q17 = z_42 := (hBf v5q17 (by omega) (by omega)).symm.trans ez_43
        refine lv_iadd hx hb dX8_findDigits_42 ?_
        refine th_addo (fun z_44 rz_44 hz_44 => ?_)
        refine lv_bipush (v := I 48) hx hb dX8_findDigits_43 (by decide) ?_
        refine lv_isub hx hb dX8_findDigits_45 ?_
        refine th_subo (fun z_45 rz_45 hz_45 => ?_)
        refine lv_istore (lv' := [(4, .int (I z_45)), (0, .ref a), (1, .ref (ad E q 0)), (2, .int (I st)), (3, .int (I ln)), (5, .int (I v5q17))]) hx hb dX8_findDigits_46 hl (by decide) rfl (fun ls hl => ?_)
        refine lv_iinc (v := I (v5q17 + 1)) (lv' := [(5, .int (I (v5q17 + 1))), (4, .int (I z_45)), (0, .ref a), (1, .ref (ad E q 0)), (2, .int (I st)), (3, .int (I ln))]) hx hb dX8_findDigits_48 hl (k := 5) rfl (I_add _ _) (by decide) rfl (fun ls hl => ?_)
        refine lv_goto (tgt := 10) hx hb dX8_findDigits_51 (by decide) ?_
        exact ihJ_18 (z_45, v5q17 + 1) σ _ _ _ (by first | omega | (dsimp only; omega)) ⟨rfl, hH, hS, lv_sub hl [2, 3, 4, 5, 1, 0] rfl, rz_45, ⟨by first | omega | (dsimp only; omega), by first | omega | (dsimp only; omega)⟩, by first | omega | (dsimp only; omega), by first | omega | (dsimp only; omega), (fun q h1 h2 => by
          by_cases e9 : q = v5q17
          · rw [e9]; unfold isDg; omega
          · exact J_18_2 q h1 (by first | omega | (dsimp only at h2; omega)))⟩

set_option maxHeartbeats 4000000 in
set_option maxRecDepth 100000 in
theorem f_begin (l : Launch) (G : va_G) (y : Nat → ClassId) (b0 : Nat) (σ : th_M) (E : th_E) (hO : ok y E σ) (a : Nat) (h_a : kd E a = 3) (q : Nat) (h_q : kd E q = 12) (n : Int) (rn : rng n) (Bq : Int → Int) (hy0 : 0 ≤ n ∧ n ≤ 400) (hy1 : ∀ k : Int, 0 ≤ k → k < n → (aF σ (ad E q 0) k.toNat).toInt = Bq k) (hy2 : ∀ k, n ≤ k → Bq k = -1) (hy3 : byt Bq) (hy4 : ∀ k, 0 ≤ k → k < n → 0 ≤ Bq k) : Met l yX8_begin wsX8_begin ({ frames := 2, cells := 0, slots := 0, locals := 69 }) (th_P G y b0 σ [.ref a, .ref (ad E q 0), .int (I n)]) (th_Qv G b0 (fun σ1 => ok y E σ1 ∧ fr [3] E σ σ1 ∧ (∃ T, TSt E σ1 a T 0 0 ∧ tkSt Bq T))) 0 0 (th_A b0) := by
  refine Met.ofW (cc := cX8_begin) (maxL := 8) (ret := none) (by decide) rfl ?_
  intro p e s m args below meth c s₁ B hml hv
  obtain ⟨rfl, hH, hK⟩ := hv
  have hx := B.exec
  have hb := B.bytes
  have hr := B.returns
  have hts := atoms_spec (ws := wsX8_begin) B.pre
  have hown : s.vm.findClass RX8 = some m.cls := findClass_of_methodNamed B.named
  have hlocks := B.notSynchronized
  have h00 : b0 ≤ s.heap.size := hH.1
  have hS : va_S (th_A b0) s.heap s.heap [] := va_S.rf
  have hF : fr [3] E σ σ := fr.rf
  have hBe := hy2
  have inX8 : ∀ w ∈ wsX80, w ∈ wsX8_begin := by decide +kernel
  have fl0 := hts (.methodLink RX8 28 Lib.Math.min.name) (by decide +kernel)
  have fl1 := hts (.static Lib.Math.min.name) (by decide +kernel)
  have fl2 := hts (.initialized "java/lang/Math") (by decide +kernel)
  have fl3 := hts (.code Lib.Math.min.name Lib.Math.min.code 2 (some .int)) (by decide +kernel)
  have fl4 := hts (.methodLink RX8 34 Lib.Math.max.name) (by decide +kernel)
  have fl5 := hts (.static Lib.Math.max.name) (by decide +kernel)
  have fl6 := hts (.code Lib.Math.max.name Lib.Math.max.code 2 (some .int)) (by decide +kernel)
  have fl7 := hts (.fieldLink RX8 37 "NestQuery$Tokens" "found" "I") (by decide +kernel)
  have fl8 := hts (.fieldLink RX8 58 "NestQuery$Tokens" "fault" "I") (by decide +kernel)
  have fl9 := hts (.fieldLink RX8 24 "NestQuery$Tokens" "faultPlace" "I") (by decide +kernel)
  have fl10 := hts (.fieldLink RX8 61 "NestQuery$Tokens" "at" "I") (by decide +kernel)
  have fl11 := hts (.fieldLink RX8 11 "NestQuery$Tokens" "kinds" "[I") (by decide +kernel)
  have fl12 := hts (.fieldLink RX8 64 "NestQuery$Tokens" "kind" "I") (by decide +kernel)
  have hl := lv_entry ([.ref a, .ref (ad E q 0), .int (I n)]) (n := 8) (Nat.le_of_ble_eq_true rfl)
  rw [lg_entry_eq]
  generalize (lg_sl ([.ref a, .ref (ad E q 0), .int (I n)]) ++ List.replicate (8 - (lg_sl ([.ref a, .ref (ad E q 0), .int (I n)])).length) Slot.unset).toArray = ls at hl ⊢
  have hl : lv_has ls 8 [(0, .ref a), (1, .ref (ad E q 0)), (2, .int (I n))] := hl
  obtain ⟨f_1, ef_2⟩ : ∃ f9, aF σ (ad E q 0) = f9 := ⟨_, rfl⟩
  have hBf : ∀ k : Int, 0 ≤ k → k < n → (f_1 k.toNat).toInt = Bq k := fun k h1 h2 => by rw [← ef_2]; exact hy1 k h1 h2
  refine lv_iconst (v := I 0) hx hb dX8_begin_0 (by decide) ?_
  refine lv_iload_n hx hb dX8_begin_1 rfl (lv_at hl 2 rfl) ?_
  refine lv_aload_n hx hb dX8_begin_2 rfl (lv_at hl 1 rfl) ?_
  refine ok_alen hx hb hK hH hO h_q (by decide) k12_0 isA1 (by decide) dX8_begin_3 ?_
  refine va_mmin hx hb (by rw [hml]; exact hl.1.symm) hown fl0 fl1 fl2 fl3 (Nat.le_of_ble_eq_true rfl) (Nat.le_of_ble_eq_true rfl) (Nat.zero_le _) (Nat.zero_le _) dX8_begin_4 ?_
  refine th_mmin rn (show rng 400 from ⟨by decide, by decide⟩) (fun z_3 rz_3 hz_3 => ?_)
  refine va_mmax hx hb (by rw [hml]; exact hl.1.symm) hown fl4 fl5 fl2 fl6 (Nat.le_of_ble_eq_true rfl) (Nat.le_of_ble_eq_true rfl) (Nat.zero_le _) (Nat.zero_le _) dX8_begin_7 ?_
  refine th_mmax (show rng 0 from ⟨by decide, by decide⟩) rz_3 (fun z_4 rz_4 hz_4 => ?_)
  refine lv_istore_n (lv' := [(3, .int (I z_4)), (0, .ref a), (1, .ref (ad E q 0)), (2, .int (I n))]) hx hb dX8_begin_10 rfl hl (by decide) rfl (fun ls hl => ?_)
  refine lv_aload_n hx hb dX8_begin_11 rfl (lv_at hl 1 rfl) ?_
  refine lv_iconst (v := I 0) hx hb dX8_begin_12 (by decide) ?_
  refine ok.putI hO h_a (by decide) k3_4 (show rng 0 from ⟨by decide, by decide⟩) (by omega) (by omega) (fun _ he hl9 kk => th_put (ci := 8) (v := .int (I 0)) (ty := .int) (C := RX8) (T := TX8) (N := 9) hx hb hts inX8 tyX8 tyX8_ok nmX8 hown hK hH hS h00 he rfl 4 (by decide) fl7 rfl (by decide +kernel) rfl rfl hl9 dX8_begin_13 kk) (fun σ_s_5 H locs hO hF9 hg9 hi9 ha9 hH hS => ?_)
  replace hF := hF.tu hF9 (by decide)
  have ef_6 : aF σ_s_5 (ad E q 0) = f_1 := (ha9 _).trans ef_2
  have e_7 := hg9
  refine lv_iconst (v := I 0) hx hb dX8_begin_16 (by decide) ?_
  refine lv_istore (lv' := [(4, .int (I 0)), (3, .int (I z_4)), (0, .ref a), (1, .ref (ad E q 0)), (2, .int (I n))]) hx hb dX8_begin_17 hl (by decide) rfl (fun ls hl => ?_)
  refine lv_iconst (v := I 0) hx hb dX8_begin_19 (by decide) ?_
  refine lv_istore (lv' := [(5, .int (I 0)), (4, .int (I 0)), (3, .int (I z_4)), (0, .ref a), (1, .ref (ad E q 0)), (2, .int (I n))]) hx hb dX8_begin_20 hl (by decide) rfl (fun ls hl => ?_)
  replace hl : lv_has ls 8 [(5, .int (I 0)), (4, .int (I 0)), (3, .int (I z_4)), (0, .ref a), (1, .ref (ad E q 0))] := lv_sub hl [0, 1, 2, 3, 4] rfl
  refine th_loop (α := Int × Int) (pc := 22) (fun x9 => (401 - x9.2).toNat) (fun x9 σ9 H9 l9 ls9 => ok y E σ9 ∧ fr [3] E σ σ9 ∧ th_H G b0 σ9 H9 ∧ va_S (th_A b0) s.heap H9 l9 ∧ lv_has ls9 8 [(0, .ref a), (1, .ref (ad E q 0)), (3, .int (I z_4)), (4, .int (I x9.1)), (5, .int (I x9.2))] ∧ rng x9.1 ∧ rng x9.2 ∧ (0 ≤ x9.2) ∧ (x9.2 ≤ x9.1) ∧ (x9.1 ≤ n) ∧ (gI σ9 a 4 ≤ x9.2) ∧ (pfx Bq (tT E σ9 a)) ∧ (tEnd (tT E σ9 a) ≤ x9.1) ∧ (∀ q, tEnd (tT E σ9 a) ≤ q → q < x9.1 → isBk (Bq q)) ∧ (aF σ9 (ad E q 0) = f_1)) ?_ (0, 0) σ_s_5 _ _ _ ⟨hO, hF, hH, hS, lv_sub hl [3, 4, 2, 1, 0] rfl, (show rng 0 from ⟨by decide, by decide⟩), (show rng 0 from ⟨by decide, by decide⟩), by first | omega | (dsimp only; omega), by first | omega | (dsimp only; omega), by first | omega | (dsimp only; omega), by first | omega | (dsimp only; omega), (pfx.nil (by omega)).1, (Int.le_of_eq (pfx.nil (B := Bq) (by omega)).2), (fun q h1 h2 => absurd h2 (by have h9 := (pfx.nil (B := Bq) (E := E) (σ := σ_s_5) (a := a) (by omega)).2; omega)), ef_6⟩
  intro x9 σ_J_137 H locs ls hI9 ihJ_137
  obtain ⟨v4q136, v5q136⟩ := x9
  obtain ⟨hO, hF, hH, hS, hl, rv4q136, rv5q136, J_137_0, J_137_1, J_137_2, J_137_3, J_137_4, J_137_5, J_137_6, J_137_7⟩ := hI9
  have hl : lv_has ls 8 [(0, .ref a), (1, .ref (ad E q 0)), (3, .int (I z_4)), (4, .int (I v4q136)), (5, .int (I v5q136))] := hl
  have rv4q136 : rng v4q136 := rv4q136
  have rv5q136 : rng v5q136 := rv5q136
  replace J_137_0 : 0 ≤ v5q136 := J_137_0
  replace J_137_1 : v5q136 ≤ v4q136 := J_137_1
  replace J_137_2 : v4q136 ≤ n := J_137_2
  replace J_137_3 : gI σ_J_137 a 4 ≤ v5q136 := J_137_3
  replace J_137_4 : pfx Bq (tT E σ_J_137 a) := J_137_4
  replace J_137_5 : tEnd (tT E σ_J_137 a) ≤ v4q136 := J_137_5
  replace J_137_6 : ∀ q, tEnd (tT E σ_J_137 a) ≤ q → q < v4q136 → isBk (Bq q) := J_137_6
  replace J_137_7 : aF σ_J_137 (ad E q 0) = f_1 := J_137_7
  obtain ⟨z_138, e_139, rz_138, lz_138, uz_138⟩ := hO.gi h_a (by decide) k3_4
  refine lv_iload hx hb dX8_begin_22 (lv_at hl 4 rfl) ?_
  refine lv_iload_n hx hb dX8_begin_24 rfl (lv_at hl 2 rfl) ?_
  refine lv_icmp_gt (tgt := 186) hx hb dX8_begin_25 (by decide) (fun c_140 => ?_) (fun c_140 => ?_)
  · replace c_140 := (I_lt (a := z_4) (b := v5q136) rz_4 rv5q136).mp c_140
    refine lv_aload_n hx hb dX8_begin_186 rfl (lv_at hl 0 rfl) ?_
    refine lv_sipush (v := I 259) hx hb dX8_begin_187 (by decide) ?_
    refine lv_iload_n hx hb dX8_begin_190 rfl (lv_at hl 2 rfl) ?_
    refine lv_iconst (v := I 0) hx hb dX8_begin_191 (by decide) ?_
    refine lv_iconst (v := I 0) hx hb dX8_begin_192 (by decide) ?_
    obtain ⟨_, hc_141⟩ := hO.cell h_a (by decide) (ci := 8) rfl
    refine th_callv (va_runV (As := [.int (I 259), .int (I z_4), .int (I 0), .int (I 0)]) (rest := []) ⟨hx, hb, hml, hown, hts⟩ (f_addToken l G y b0 σ_J_137 E hO a h_a 259 (show rng 259 from (show rng 259 from ⟨by decide, by decide⟩)) z_4 (show rng z_4 from rz_4) 0 (show rng 0 from (show rng 0 from ⟨by decide, by decide⟩)) 0 (show rng 0 from (show rng 0 from ⟨by decide, by decide⟩)) (by omega)) (cwV 4 hts gX8_begin_X8_addToken rfl rfl rfl (by decide +kernel) ⟨Nat.le_of_ble_eq_true rfl, Nat.le_of_ble_eq_true rfl⟩) (th_PV hK hH rfl hc_141) rfl rfl hl.1 rfl (lv_room (Nat.le_of_ble_eq_true rfl)) dX8_begin_193 ⟨Nat.le_of_ble_eq_true rfl, Nat.le_of_ble_eq_true rfl⟩) hS (fun σ_s_143 H locs hw_142 hH hS => ?_)
    obtain ⟨hO9, hF9, hw_142⟩ := hw_142
    have ef_144 : aF σ_s_143 (ad E q 0) = f_1 := (fr.af hO hF9 h_q (by decide) (by decide) k12_0 isA1).trans J_137_7
    replace hO := hO9
    replace hF := hF.tu hF9 (by decide)
    replace hw_142 : tadd E σ_J_137 σ_s_143 a 259 z_4 0 0 := hw_142
    have hmhw_142 := hw_142.2.2.2.2
    obtain ⟨T, hTd⟩ : ∃ T, T = tT E σ_s_143 a := ⟨_, rfl⟩
    have hSt : tkSt Bq T := by rw [hTd]; exact pfx.fin hy3 J_137_4 hw_142 rz_4 ⟨by decide, by decide⟩ ⟨by decide, by decide⟩ (by omega) (by omega) (Tok.stop (by omega) (fun q h1 h2 => J_137_6 q h1 (by omega)) (hBe z_4 (by omega)))
    have htkT : tks E σ_s_143 a T := by rw [hTd]; exact tT_tks
    refine lv_aload_n hx hb dX8_begin_196 rfl (lv_at hl 0 rfl) ?_
    refine lv_iconst (v := I 0) hx hb dX8_begin_197 (by decide) ?_
    refine ok.putI hO h_a (by decide) k3_7 (show rng 0 from ⟨by decide, by decide⟩) (by omega) (by omega) (fun _ he hl9 kk => th_put (ci := 8) (v := .int (I 0)) (ty := .int) (C := RX8) (T := TX8) (N := 9) hx hb hts inX8 tyX8 tyX8_ok nmX8 hown hK hH hS h00 he rfl 7 (by decide) fl8 rfl (by decide +kernel) rfl rfl hl9 dX8_begin_198 kk) (fun σ_s_145 H locs hO hF9 hg9 hi9 ha9 hH hS => ?_)
    replace hF := hF.tu hF9 (by decide)
    have ef_146 : aF σ_s_145 (ad E q 0) = f_1 := (ha9 _).trans ef_144
    have htk_147 : tks E σ_s_145 a T := tks.put htkT ha9 (hi9 _ _ (Or.inr (by decide)))
    have e_148 := hg9
    refine lv_aload_n hx hb dX8_begin_201 rfl (lv_at hl 0 rfl) ?_
    refine lv_iconst (v := I (-1)) hx hb dX8_begin_202 (by decide) ?_
    refine ok.putI hO h_a (by decide) k3_8 (show rng (-1) from ⟨by decide, by decide⟩) (by omega) (by omega) (fun _ he hl9 kk => th_put (ci := 8) (v := .int (I (-1))) (ty := .int) (C := RX8) (T := TX8) (N := 9) hx hb hts inX8 tyX8 tyX8_ok nmX8 hown hK hH hS h00 he rfl 8 (by decide) fl9 rfl (by decide +kernel) rfl rfl hl9 dX8_begin_203 kk) (fun σ_s_149 H locs hO hF9 hg9 hi9 ha9 hH hS => ?_)
    replace hF := hF.tu hF9 (by decide)
    have e_150 : gI σ_s_149 a 7 = 0 := (hi9 _ _ (Or.inr (by decide))).trans e_148
    have ef_151 : aF σ_s_149 (ad E q 0) = f_1 := (ha9 _).trans ef_146
    have htk_152 : tks E σ_s_149 a T := tks.put htk_147 ha9 (hi9 _ _ (Or.inr (by decide)))
    have e_153 := hg9
    refine lv_aload_n hx hb dX8_begin_206 rfl (lv_at hl 0 rfl) ?_
    refine lv_iconst (v := I 0) hx hb dX8_begin_207 (by decide) ?_
    refine ok.putI hO h_a (by decide) k3_5 (show rng 0 from ⟨by decide, by decide⟩) (by omega) (by omega) (fun _ he hl9 kk => th_put (ci := 8) (v := .int (I 0)) (ty := .int) (C := RX8) (T := TX8) (N := 9) hx hb hts inX8 tyX8 tyX8_ok nmX8 hown hK hH hS h00 he rfl 5 (by decide) fl10 rfl (by decide +kernel) rfl rfl hl9 dX8_begin_208 kk) (fun σ_s_154 H locs hO hF9 hg9 hi9 ha9 hH hS => ?_)
    replace hF := hF.tu hF9 (by decide)
    have e_155 : gI σ_s_154 a 7 = 0 := (hi9 _ _ (Or.inr (by decide))).trans e_150
    have e_156 : gI σ_s_154 a 8 = (-1) := (hi9 _ _ (Or.inr (by decide))).trans e_153
    have ef_157 : aF σ_s_154 (ad E q 0) = f_1 := (ha9 _).trans ef_151
    have htk_158 : tks E σ_s_154 a T := tks.put htk_152 ha9 (hi9 _ _ (Or.inr (by decide)))
    have e_159 := hg9
    refine lv_aload_n hx hb dX8_begin_211 rfl (lv_at hl 0 rfl) ?_
    refine lv_aload_n hx hb dX8_begin_212 rfl (lv_at hl 0 rfl) ?_
    refine ok.getR hO h_a (by decide) k3_0 (by decide) (fun _ _ he hv kk => th_get (ci := 8) (C := RX8) (T := TX8) (N := 9) hx hb hts inX8 hown hK hH he rfl 0 (by decide) fl11 hv dX8_begin_213 kk) ?_
    refine lv_iconst (v := I 0) hx hb dX8_begin_216 (by decide) ?_
    refine ok_iald hx hb hK hH hO h_a (by decide) k3_0 isA1 (show rng 0 from ⟨by decide, by decide⟩) (by omega) (by omega) dX8_begin_217 (fun z_160 ez_160 rz_160 el9 => ?_)
    have ht_161 : tK T 0 = z_160 := by unfold tK; rw [← htk_158.1]; exact ez_160
    refine ok.putI hO h_a (by decide) k3_6 rz_160 (by omega) (by omega) (fun _ he hl9 kk => th_put (ci := 8) (v := .int (I z_160)) (ty := .int) (C := RX8) (T := TX8) (N := 9) hx hb hts inX8 tyX8 tyX8_ok nmX8 hown hK hH hS h00 he rfl 6 (by decide) fl12 rfl (by decide +kernel) rfl rfl hl9 dX8_begin_218 kk) (fun σ_s_162 H locs hO hF9 hg9 hi9 ha9 hH hS => ?_)
    replace hF := hF.tu hF9 (by decide)
    have e_163 : gI σ_s_162 a 7 = 0 := (hi9 _ _ (Or.inr (by decide))).trans e_155
    have e_164 : gI σ_s_162 a 8 = (-1) := (hi9 _ _ (Or.inr (by decide))).trans e_156
    have e_165 : gI σ_s_162 a 5 = 0 := (hi9 _ _ (Or.inr (by decide))).trans e_159
    have ef_166 : aF σ_s_162 (ad E q 0) = f_1 := (ha9 _).trans ef_157
    have htk_167 : tks E σ_s_162 a T := tks.put htk_158 ha9 (hi9 _ _ (Or.inr (by decide)))
    have e_168 := hg9
    exact th_vret hx hb hr hlocks hH hS ⟨hO, hF, ⟨T, ⟨htk_167, hSt.tfin, by have h8 := hSt.2.1; have h9 := hSt.2.2.1; omega⟩, hSt⟩⟩ dX8_begin_221
  · replace c_140 := mt (I_lt (a := z_4) (b := v5q136) rz_4 rv5q136).mpr c_140
    refine lv_iload hx hb dX8_begin_28 (lv_at hl 3 rfl) ?_
    refine lv_iload_n hx hb dX8_begin_30 rfl (lv_at hl 2 rfl) ?_
    refine lv_icmp_ge (tgt := 186) hx hb dX8_begin_31 (by decide) (fun c_169 => ?_) (fun c_169 => ?_)
    · replace c_169 := (I_le (a := z_4) (b := v4q136) rz_4 rv4q136).mp c_169
      refine lv_aload_n hx hb dX8_begin_186 rfl (lv_at hl 0 rfl) ?_
      refine lv_sipush (v := I 259) hx hb dX8_begin_187 (by decide) ?_
      refine lv_iload_n hx hb dX8_begin_190 rfl (lv_at hl 2 rfl) ?_
      refine lv_iconst (v := I 0) hx hb dX8_begin_191 (by decide) ?_
      refine lv_iconst (v := I 0) hx hb dX8_begin_192 (by decide) ?_
      obtain ⟨_, hc_170⟩ := hO.cell h_a (by decide) (ci := 8) rfl
      refine th_callv (va_runV (As := [.int (I 259), .int (I z_4), .int (I 0), .int (I 0)]) (rest := []) ⟨hx, hb, hml, hown, hts⟩ (f_addToken l G y b0 σ_J_137 E hO a h_a 259 (show rng 259 from (show rng 259 from ⟨by decide, by decide⟩)) z_4 (show rng z_4 from rz_4) 0 (show rng 0 from (show rng 0 from ⟨by decide, by decide⟩)) 0 (show rng 0 from (show rng 0 from ⟨by decide, by decide⟩)) (by omega)) (cwV 4 hts gX8_begin_X8_addToken rfl rfl rfl (by decide +kernel) ⟨Nat.le_of_ble_eq_true rfl, Nat.le_of_ble_eq_true rfl⟩) (th_PV hK hH rfl hc_170) rfl rfl hl.1 rfl (lv_room (Nat.le_of_ble_eq_true rfl)) dX8_begin_193 ⟨Nat.le_of_ble_eq_true rfl, Nat.le_of_ble_eq_true rfl⟩) hS (fun σ_s_172 H locs hw_171 hH hS => ?_)
      obtain ⟨hO9, hF9, hw_171⟩ := hw_171
      have ef_173 : aF σ_s_172 (ad E q 0) = f_1 := (fr.af hO hF9 h_q (by decide) (by decide) k12_0 isA1).trans J_137_7
      replace hO := hO9
      replace hF := hF.tu hF9 (by decide)
      replace hw_171 : tadd E σ_J_137 σ_s_172 a 259 z_4 0 0 := hw_171
      have hmhw_171 := hw_171.2.2.2.2
      obtain ⟨T, hTd⟩ : ∃ T, T = tT E σ_s_172 a := ⟨_, rfl⟩
      have hSt : tkSt Bq T := by rw [hTd]; exact pfx.fin hy3 J_137_4 hw_171 rz_4 ⟨by decide, by decide⟩ ⟨by decide, by decide⟩ (by omega) (by omega) (Tok.stop (by omega) (fun q h1 h2 => J_137_6 q h1 (by omega)) (hBe z_4 (by omega)))
      have htkT : tks E σ_s_172 a T := by rw [hTd]; exact tT_tks
      refine lv_aload_n hx hb dX8_begin_196 rfl (lv_at hl 0 rfl) ?_
      refine lv_iconst (v := I 0) hx hb dX8_begin_197 (by decide) ?_
      refine ok.putI hO h_a (by decide) k3_7 (show rng 0 from ⟨by decide, by decide⟩) (by omega) (by omega) (fun _ he hl9 kk => th_put (ci := 8) (v := .int (I 0)) (ty := .int) (C := RX8) (T := TX8) (N := 9) hx hb hts inX8 tyX8 tyX8_ok nmX8 hown hK hH hS h00 he rfl 7 (by decide) fl8 rfl (by decide +kernel) rfl rfl hl9 dX8_begin_198 kk) (fun σ_s_174 H locs hO hF9 hg9 hi9 ha9 hH hS => ?_)
      replace hF := hF.tu hF9 (by decide)
      have ef_175 : aF σ_s_174 (ad E q 0) = f_1 := (ha9 _).trans ef_173
      have htk_176 : tks E σ_s_174 a T := tks.put htkT ha9 (hi9 _ _ (Or.inr (by decide)))
      have e_177 := hg9
      refine lv_aload_n hx hb dX8_begin_201 rfl (lv_at hl 0 rfl) ?_
      refine lv_iconst (v := I (-1)) hx hb dX8_begin_202 (by decide) ?_
      refine ok.putI hO h_a (by decide) k3_8 (show rng (-1) from ⟨by decide, by decide⟩) (by omega) (by omega) (fun _ he hl9 kk => th_put (ci := 8) (v := .int (I (-1))) (ty := .int) (C := RX8) (T := TX8) (N := 9) hx hb hts inX8 tyX8 tyX8_ok nmX8 hown hK hH hS h00 he rfl 8 (by decide) fl9 rfl (by decide +kernel) rfl rfl hl9 dX8_begin_203 kk) (fun σ_s_178 H locs hO hF9 hg9 hi9 ha9 hH hS => ?_)
      replace hF := hF.tu hF9 (by decide)
      have e_179 : gI σ_s_178 a 7 = 0 := (hi9 _ _ (Or.inr (by decide))).trans e_177
      have ef_180 : aF σ_s_178 (ad E q 0) = f_1 := (ha9 _).trans ef_175
      have htk_181 : tks E σ_s_178 a T := tks.put htk_176 ha9 (hi9 _ _ (Or.inr (by decide)))
      have e_182 := hg9
      refine lv_aload_n hx hb dX8_begin_206 rfl (lv_at hl 0 rfl) ?_
      refine lv_iconst (v := I 0) hx hb dX8_begin_207 (by decide) ?_
      refine ok.putI hO h_a (by decide) k3_5 (show rng 0 from ⟨by decide, by decide⟩) (by omega) (by omega) (fun _ he hl9 kk => th_put (ci := 8) (v := .int (I 0)) (ty := .int) (C := RX8) (T := TX8) (N := 9) hx hb hts inX8 tyX8 tyX8_ok nmX8 hown hK hH hS h00 he rfl 5 (by decide) fl10 rfl (by decide +kernel) rfl rfl hl9 dX8_begin_208 kk) (fun σ_s_183 H locs hO hF9 hg9 hi9 ha9 hH hS => ?_)
      replace hF := hF.tu hF9 (by decide)
      have e_184 : gI σ_s_183 a 7 = 0 := (hi9 _ _ (Or.inr (by decide))).trans e_179
      have e_185 : gI σ_s_183 a 8 = (-1) := (hi9 _ _ (Or.inr (by decide))).trans e_182
      have ef_186 : aF σ_s_183 (ad E q 0) = f_1 := (ha9 _).trans ef_180
      have htk_187 : tks E σ_s_183 a T := tks.put htk_181 ha9 (hi9 _ _ (Or.inr (by decide)))
      have e_188 := hg9
      refine lv_aload_n hx hb dX8_begin_211 rfl (lv_at hl 0 rfl) ?_
      refine lv_aload_n hx hb dX8_begin_212 rfl (lv_at hl 0 rfl) ?_
      refine ok.getR hO h_a (by decide) k3_0 (by decide) (fun _ _ he hv kk => th_get (ci := 8) (C := RX8) (T := TX8) (N := 9) hx hb hts inX8 hown hK hH he rfl 0 (by decide) fl11 hv dX8_begin_213 kk) ?_
      refine lv_iconst (v := I 0) hx hb dX8_begin_216 (by decide) ?_
      refine ok_iald hx hb hK hH hO h_a (by decide) k3_0 isA1 (show rng 0 from ⟨by decide, by decide⟩) (by omega) (by omega) dX8_begin_217 (fun z_189 ez_189 rz_189 el9 => ?_)
      have ht_190 : tK T 0 = z_189 := by unfold tK; rw [← htk_187.1]; exact ez_189
      refine ok.putI hO h_a (by decide) k3_6 rz_189 (by omega) (by omega) (fun _ he hl9 kk => th_put (ci := 8) (v := .int (I z_189)) (ty := .int) (C := RX8) (T := TX8) (N := 9) hx hb hts inX8 tyX8 tyX8_ok nmX8 hown hK hH hS h00 he rfl 6 (by decide) fl12 rfl (by decide +kernel) rfl rfl hl9 dX8_begin_218 kk) (fun σ_s_191 H locs hO hF9 hg9 hi9 ha9 hH hS => ?_)
      replace hF := hF.tu hF9 (by decide)
      have e_192 : gI σ_s_191 a 7 = 0 := (hi9 _ _ (Or.inr (by decide))).trans e_184
      have e_193 : gI σ_s_191 a 8 = (-1) := (hi9 _ _ (Or.inr (by decide))).trans e_185
      have e_194 : gI σ_s_191 a 5 = 0 := (hi9 _ _ (Or.inr (by decide))).trans e_188
      have ef_195 : aF σ_s_191 (ad E q 0) = f_1 := (ha9 _).trans ef_186
      have htk_196 : tks E σ_s_191 a T := tks.put htk_187 ha9 (hi9 _ _ (Or.inr (by decide)))
      have e_197 := hg9
      exact th_vret hx hb hr hlocks hH hS ⟨hO, hF, ⟨T, ⟨htk_196, hSt.tfin, by have h8 := hSt.2.1; have h9 := hSt.2.2.1; omega⟩, hSt⟩⟩ dX8_begin_221
    · replace c_169 := mt (I_le (a := z_4) (b := v4q136) rz_4 rv4q136).mpr c_169
      refine lv_aload_n hx hb dX8_begin_34 rfl (lv_at hl 1 rfl) ?_
      refine lv_iload hx hb dX8_begin_35 (lv_at hl 3 rfl) ?_
      refine ok_iald hx hb hK hH hO h_q (by decide) k12_0 isA1 rv4q136 (by omega) (by omega) dX8_begin_37 (fun z_198 ez_198 rz_198 el9 => ?_)
      have ez9 : (f_1 (v4q136).toNat).toInt = z_198 := by rw [← J_137_7]; exact ez_198
      have ez_199 := ez9
      have hbz_198 : Bq v4q136 = z_198 := (hBf v4q136 (by omega) (by omega)).symm.trans ez_199
      refine lv_istore (lv' := [(6, .int (I z_198)), (0, .ref a), (1, .ref (ad E q 0)), (3, .int (I z_4)), (4, .int (I v4q136)), (5, .int (I v5q136))]) hx hb dX8_begin_38 hl (by decide) rfl (fun ls hl => ?_)
      refine lv_iload hx hb dX8_begin_40 (lv_at hl 0 rfl) ?_
      refine lv_bipush (v := I 32) hx hb dX8_begin_42 (by decide) ?_
      refine lv_icmp_eq (tgt := 54) hx hb dX8_begin_44 (by decide) (fun c_200 => ?_) (fun c_200 => ?_)
      · replace c_200 := (I_eq (a := z_198) (b := 32) rz_198 (show rng 32 from ⟨by decide, by decide⟩)).mp c_200
        refine lv_iinc (v := I (v4q136 + 1)) (lv' := [(4, .int (I (v4q136 + 1))), (6, .int (I z_198)), (0, .ref a), (1, .ref (ad E q 0)), (3, .int (I z_4)), (5, .int (I v5q136))]) hx hb dX8_begin_54 hl (k := 4) rfl (I_add _ _) (by decide) rfl (fun ls hl => ?_)
        refine lv_goto (tgt := 180) hx hb dX8_begin_57 (by decide) ?_
        refine lv_iinc (v := I (v5q136 + 1)) (lv' := [(5, .int (I (v5q136 + 1))), (4, .int (I (v4q136 + 1))), (6, .int (I z_198)), (0, .ref a), (1, .ref (ad E q 0)), (3, .int (I z_4))]) hx hb dX8_begin_180 hl (k := 5) rfl (I_add _ _) (by decide) rfl (fun ls hl => ?_)
        refine lv_goto (tgt := 22) hx hb dX8_begin_183 (by decide) ?_
        replace hl : lv_has ls 8 [(5, .int (I (v5q136 + 1))), (4, .int (I (v4q136 + 1))), (0, .ref a), (1, .ref (ad E q 0)), (3, .int (I z_4))] := lv_sub hl [0, 1, 3, 4, 5] rfl
        exact ihJ_137 (v4q136 + 1, v5q136 + 1) σ_J_137 _ _ _ (by first | omega | (dsimp only; omega)) ⟨hO, hF, hH, hS, lv_sub hl [2, 3, 4, 1, 0] rfl, ⟨by first | omega | (dsimp only; omega), by first | omega | (dsimp only; omega)⟩, ⟨by first | omega | (dsimp only; omega), by first | omega | (dsimp only; omega)⟩, by first | omega | (dsimp only; omega), by first | omega | (dsimp only; omega), by first | omega | (dsimp only; omega), by first | omega | (dsimp only; omega), J_137_4, (by first | omega | (dsimp only; omega)), (fun q h1 h2 => by
          by_cases e9 : q = v4q136
          · rw [e9]; unfold isBk; omega
          · exact J_137_6 q h1 (by first | omega | (dsimp only at h2; omega))), J_137_7⟩
      · replace c_200 := mt (I_eq (a := z_198) (b := 32) rz_198 (show rng 32 from ⟨by decide, by decide⟩)).mpr c_200
        refine lv_iload hx hb dX8_begin_47 (lv_at hl 0 rfl) ?_
        refine lv_bipush (v := I 10) hx hb dX8_begin_49 (by decide) ?_
        refine lv_icmp_ne (tgt := 60) hx hb dX8_begin_51 (by decide) (fun c_201 => ?_) (fun c_201 => ?_)
        · replace c_201 := mt (I_eq (a := z_198) (b := 10) rz_198 (show rng 10 from ⟨by decide, by decide⟩)).mpr c_201
          refine lv_iload hx hb dX8_begin_60 (lv_at hl 0 rfl) ?_
          refine th_calli (va_runS (As := [.int (I z_198)]) (rest := []) ⟨hx, hb, hml, hown, hts⟩ (f_isLetter l G y b0 σ_J_137 E hO z_198 (show rng z_198 from rz_198)) (va_cwS 1 hts gX8_begin_X8_isLetter rfl rfl rfl (by decide +kernel) ⟨Nat.le_of_ble_eq_true rfl, Nat.le_of_ble_eq_true rfl⟩) (th_PS hK hH) rfl rfl hl.1 rfl (lv_room (Nat.le_of_ble_eq_true rfl)) dX8_begin_62 ⟨Nat.le_of_ble_eq_true rfl, Nat.le_of_ble_eq_true rfl⟩) hS (fun z_204 σ_s_203 H locs rz_204 hw_202 hH hS => ?_)
          obtain ⟨e9, bhw_202, hw_202⟩ := hw_202
          replace e9 := e9.symm
          subst e9
          replace hw_202 : (z_204 = 1 ∧ 97 ≤ z_198 ∧ z_198 ≤ 122) ∨ (z_204 = 0 ∧ ¬ (97 ≤ z_198 ∧ z_198 ≤ 122)) := hw_202
          refine lv_if_eq (tgt := 81) hx hb dX8_begin_65 (by decide) (fun c_205 => ?_) (fun c_205 => ?_)
          · replace c_205 := (I_eq (a := z_204) (b := 0) rz_204 (show rng 0 from ⟨by decide, by decide⟩)).mp c_205
            refine lv_iload hx hb dX8_begin_81 (lv_at hl 0 rfl) ?_
            refine th_calli (va_runS (As := [.int (I z_198)]) (rest := []) ⟨hx, hb, hml, hown, hts⟩ (f_isDigit l G y b0 σ_J_137 E hO z_198 (show rng z_198 from rz_198)) (va_cwS 1 hts gX8_begin_X8_isDigit rfl rfl rfl (by decide +kernel) ⟨Nat.le_of_ble_eq_true rfl, Nat.le_of_ble_eq_true rfl⟩) (th_PS hK hH) rfl rfl hl.1 rfl (lv_room (Nat.le_of_ble_eq_true rfl)) dX8_begin_83 ⟨Nat.le_of_ble_eq_true rfl, Nat.le_of_ble_eq_true rfl⟩) hS (fun z_208 σ_s_207 H locs rz_208 hw_206 hH hS => ?_)
            obtain ⟨e9, bhw_206, hw_206⟩ := hw_206
            replace e9 := e9.symm
            subst e9
            replace hw_206 : (z_208 = 1 ∧ 48 ≤ z_198 ∧ z_198 ≤ 57) ∨ (z_208 = 0 ∧ ¬ (48 ≤ z_198 ∧ z_198 ≤ 57)) := hw_206
            refine lv_if_eq (tgt := 102) hx hb dX8_begin_86 (by decide) (fun c_209 => ?_) (fun c_209 => ?_)
            · replace c_209 := (I_eq (a := z_208) (b := 0) rz_208 (show rng 0 from ⟨by decide, by decide⟩)).mp c_209
              refine lv_iload hx hb dX8_begin_102 (lv_at hl 0 rfl) ?_
              refine lv_bipush (v := I 46) hx hb dX8_begin_104 (by decide) ?_
              refine lv_icmp_ne (tgt := 132) hx hb dX8_begin_106 (by decide) (fun c_210 => ?_) (fun c_210 => ?_)
              · replace c_210 := mt (I_eq (a := z_198) (b := 46) rz_198 (show rng 46 from ⟨by decide, by decide⟩)).mpr c_210
                refine lv_iconst (v := I 0) hx hb dX8_begin_132 (by decide) ?_
                refine lv_istore (lv' := [(7, .int (I 0)), (6, .int (I z_198)), (0, .ref a), (1, .ref (ad E q 0)), (3, .int (I z_4)), (4, .int (I v4q136)), (5, .int (I v5q136))]) hx hb dX8_begin_133 hl (by decide) rfl (fun ls hl => ?_)
                refine lv_aload_n hx hb dX8_begin_135 rfl (lv_at hl 2 rfl) ?_
                refine lv_iload hx hb dX8_begin_136 (lv_at hl 0 rfl) ?_
                refine lv_if_eq (tgt := 147) hx hb dX8_begin_138 (by decide) (fun _ => ?_) (fun c_211 => absurd (by decide) c_211)
                refine lv_iload hx hb dX8_begin_147 (lv_at hl 1 rfl) ?_
                refine lv_iload hx hb dX8_begin_149 (lv_at hl 5 rfl) ?_
                refine lv_iconst (v := I 0) hx hb dX8_begin_151 (by decide) ?_
                refine lv_iload hx hb dX8_begin_152 (lv_at hl 0 rfl) ?_
                refine lv_if_eq (tgt := 161) hx hb dX8_begin_154 (by decide) (fun _ => ?_) (fun c_212 => absurd (by decide) c_212)
                refine lv_iconst (v := I 1) hx hb dX8_begin_161 (by decide) ?_
                obtain ⟨_, hc_213⟩ := hO.cell h_a (by decide) (ci := 8) rfl
                refine th_callv (va_runV (As := [.int (I z_198), .int (I v4q136), .int (I 0), .int (I 1)]) (rest := []) ⟨hx, hb, hml, hown, hts⟩ (f_addToken l G y b0 σ_J_137 E hO a h_a z_198 (show rng z_198 from rz_198) v4q136 (show rng v4q136 from rv4q136) 0 (show rng 0 from (show rng 0 from ⟨by decide, by decide⟩)) 1 (show rng 1 from (show rng 1 from ⟨by decide, by decide⟩)) (by omega)) (cwV 4 hts gX8_begin_X8_addToken rfl rfl rfl (by decide +kernel) ⟨Nat.le_of_ble_eq_true rfl, Nat.le_of_ble_eq_true rfl⟩) (th_PV hK hH rfl hc_213) rfl rfl hl.1 rfl (lv_room (Nat.le_of_ble_eq_true rfl)) dX8_begin_162 ⟨Nat.le_of_ble_eq_true rfl, Nat.le_of_ble_eq_true rfl⟩) hS (fun σ_s_215 H locs hw_214 hH hS => ?_)
                obtain ⟨hO9, hF9, hw_214⟩ := hw_214
                have ef_216 : aF σ_s_215 (ad E q 0) = f_1 := (fr.af hO hF9 h_q (by decide) (by decide) k12_0 isA1).trans J_137_7
                replace hO := hO9
                replace hF := hF.tu hF9 (by decide)
                replace hw_214 : tadd E σ_J_137 σ_s_215 a z_198 v4q136 0 1 := hw_214
                have hmhw_214 := hw_214.2.2.2.2
                have hy39 := hy3 v4q136
                have hy49 := hy4 v4q136 (by omega) (by omega)
                have hp_217 : pfx Bq (tT E σ_s_215 a) := pfx.add J_137_4 hw_214 rz_198 rv4q136 ⟨by decide, by decide⟩ ⟨by decide, by decide⟩ (by omega) (Tok.sign J_137_5 J_137_6 (by omega) (by omega) (by omega) (by omega) (by omega) (by first | omega | (have h9 := hBe (v4q136 + 1) (by omega); omega))) (by omega)
                have he_218 : tEnd (tT E σ_s_215 a) = v4q136 + 1 := hw_214.end rz_198 rv4q136 ⟨by decide, by decide⟩ ⟨by decide, by decide⟩ (by omega)
                refine lv_iload hx hb dX8_begin_165 (lv_at hl 5 rfl) ?_
                refine lv_iload hx hb dX8_begin_167 (lv_at hl 0 rfl) ?_
                refine lv_if_eq (tgt := 176) hx hb dX8_begin_169 (by decide) (fun _ => ?_) (fun c_219 => absurd (by decide) c_219)
                refine lv_iconst (v := I 1) hx hb dX8_begin_176 (by decide) ?_
                refine lv_iadd hx hb dX8_begin_177 ?_
                refine th_addo (fun z_220 rz_220 hz_220 => ?_)
                refine lv_istore (lv' := [(4, .int (I z_220)), (7, .int (I 0)), (6, .int (I z_198)), (0, .ref a), (1, .ref (ad E q 0)), (3, .int (I z_4)), (5, .int (I v5q136))]) hx hb dX8_begin_178 hl (by decide) rfl (fun ls hl => ?_)
                refine lv_iinc (v := I (v5q136 + 1)) (lv' := [(5, .int (I (v5q136 + 1))), (4, .int (I z_220)), (7, .int (I 0)), (6, .int (I z_198)), (0, .ref a), (1, .ref (ad E q 0)), (3, .int (I z_4))]) hx hb dX8_begin_180 hl (k := 6) rfl (I_add _ _) (by decide) rfl (fun ls hl => ?_)
                refine lv_goto (tgt := 22) hx hb dX8_begin_183 (by decide) ?_
                replace hl : lv_has ls 8 [(5, .int (I (v5q136 + 1))), (4, .int (I z_220)), (0, .ref a), (1, .ref (ad E q 0)), (3, .int (I z_4))] := lv_sub hl [0, 1, 4, 5, 6] rfl
                exact ihJ_137 (z_220, v5q136 + 1) σ_s_215 _ _ _ (by first | omega | (dsimp only; omega)) ⟨hO, hF, hH, hS, lv_sub hl [2, 3, 4, 1, 0] rfl, rz_220, ⟨by first | omega | (dsimp only; omega), by first | omega | (dsimp only; omega)⟩, by first | omega | (dsimp only; omega), by first | omega | (dsimp only; omega), by first | omega | (dsimp only; omega), by first | omega | (dsimp only; omega), hp_217, (by have h9 := he_218; first | omega | (dsimp only; omega)), (fun q h1 h2 => absurd h2 (by have h9 := he_218; first | omega | (dsimp only; omega))), ef_216⟩
              · replace c_210 := (I_eq (a := z_198) (b := 46) rz_198 (show rng 46 from ⟨by decide, by decide⟩)).mp c_210
                refine lv_iload hx hb dX8_begin_109 (lv_at hl 4 rfl) ?_
                refine lv_iconst (v := I 1) hx hb dX8_begin_111 (by decide) ?_
                refine lv_iadd hx hb dX8_begin_112 ?_
                refine th_addo (fun z_221 rz_221 hz_221 => ?_)
                refine lv_iload_n hx hb dX8_begin_113 rfl (lv_at hl 3 rfl) ?_
                refine lv_icmp_ge (tgt := 132) hx hb dX8_begin_114 (by decide) (fun c_222 => ?_) (fun c_222 => ?_)
                · replace c_222 := (I_le (a := z_4) (b := z_221) rz_4 rz_221).mp c_222
                  refine lv_iconst (v := I 0) hx hb dX8_begin_132 (by decide) ?_
                  refine lv_istore (lv' := [(7, .int (I 0)), (6, .int (I z_198)), (0, .ref a), (1, .ref (ad E q 0)), (3, .int (I z_4)), (4, .int (I v4q136)), (5, .int (I v5q136))]) hx hb dX8_begin_133 hl (by decide) rfl (fun ls hl => ?_)
                  refine lv_aload_n hx hb dX8_begin_135 rfl (lv_at hl 2 rfl) ?_
                  refine lv_iload hx hb dX8_begin_136 (lv_at hl 0 rfl) ?_
                  refine lv_if_eq (tgt := 147) hx hb dX8_begin_138 (by decide) (fun _ => ?_) (fun c_223 => absurd (by decide) c_223)
                  refine lv_iload hx hb dX8_begin_147 (lv_at hl 1 rfl) ?_
                  refine lv_iload hx hb dX8_begin_149 (lv_at hl 5 rfl) ?_
                  refine lv_iconst (v := I 0) hx hb dX8_begin_151 (by decide) ?_
                  refine lv_iload hx hb dX8_begin_152 (lv_at hl 0 rfl) ?_
                  refine lv_if_eq (tgt := 161) hx hb dX8_begin_154 (by decide) (fun _ => ?_) (fun c_224 => absurd (by decide) c_224)
                  refine lv_iconst (v := I 1) hx hb dX8_begin_161 (by decide) ?_
                  obtain ⟨_, hc_225⟩ := hO.cell h_a (by decide) (ci := 8) rfl
                  refine th_callv (va_runV (As := [.int (I z_198), .int (I v4q136), .int (I 0), .int (I 1)]) (rest := []) ⟨hx, hb, hml, hown, hts⟩ (f_addToken l G y b0 σ_J_137 E hO a h_a z_198 (show rng z_198 from rz_198) v4q136 (show rng v4q136 from rv4q136) 0 (show rng 0 from (show rng 0 from ⟨by decide, by decide⟩)) 1 (show rng 1 from (show rng 1 from ⟨by decide, by decide⟩)) (by omega)) (cwV 4 hts gX8_begin_X8_addToken rfl rfl rfl (by decide +kernel) ⟨Nat.le_of_ble_eq_true rfl, Nat.le_of_ble_eq_true rfl⟩) (th_PV hK hH rfl hc_225) rfl rfl hl.1 rfl (lv_room (Nat.le_of_ble_eq_true rfl)) dX8_begin_162 ⟨Nat.le_of_ble_eq_true rfl, Nat.le_of_ble_eq_true rfl⟩) hS (fun σ_s_227 H locs hw_226 hH hS => ?_)
                  obtain ⟨hO9, hF9, hw_226⟩ := hw_226
                  have ef_228 : aF σ_s_227 (ad E q 0) = f_1 := (fr.af hO hF9 h_q (by decide) (by decide) k12_0 isA1).trans J_137_7
                  replace hO := hO9
                  replace hF := hF.tu hF9 (by decide)
                  replace hw_226 : tadd E σ_J_137 σ_s_227 a z_198 v4q136 0 1 := hw_226
                  have hmhw_226 := hw_226.2.2.2.2
                  have hy39 := hy3 v4q136
                  have hy49 := hy4 v4q136 (by omega) (by omega)
                  have hp_229 : pfx Bq (tT E σ_s_227 a) := pfx.add J_137_4 hw_226 rz_198 rv4q136 ⟨by decide, by decide⟩ ⟨by decide, by decide⟩ (by omega) (Tok.sign J_137_5 J_137_6 (by omega) (by omega) (by omega) (by omega) (by omega) (by first | omega | (have h9 := hBe (v4q136 + 1) (by omega); omega))) (by omega)
                  have he_230 : tEnd (tT E σ_s_227 a) = v4q136 + 1 := hw_226.end rz_198 rv4q136 ⟨by decide, by decide⟩ ⟨by decide, by decide⟩ (by omega)
                  refine lv_iload hx hb dX8_begin_165 (lv_at hl 5 rfl) ?_
                  refine lv_iload hx hb dX8_begin_167 (lv_at hl 0 rfl) ?_
                  refine lv_if_eq (tgt := 176) hx hb dX8_begin_169 (by decide) (fun _ => ?_) (fun c_231 => absurd (by decide) c_231)
                  refine lv_iconst (v := I 1) hx hb dX8_begin_176 (by decide) ?_
                  refine lv_iadd hx hb dX8_begin_177 ?_
                  refine th_addo (fun z_232 rz_232 hz_232 => ?_)
                  refine lv_istore (lv' := [(4, .int (I z_232)), (7, .int (I 0)), (6, .int (I z_198)), (0, .ref a), (1, .ref (ad E q 0)), (3, .int (I z_4)), (5, .int (I v5q136))]) hx hb dX8_begin_178 hl (by decide) rfl (fun ls hl => ?_)
                  refine lv_iinc (v := I (v5q136 + 1)) (lv' := [(5, .int (I (v5q136 + 1))), (4, .int (I z_232)), (7, .int (I 0)), (6, .int (I z_198)), (0, .ref a), (1, .ref (ad E q 0)), (3, .int (I z_4))]) hx hb dX8_begin_180 hl (k := 6) rfl (I_add _ _) (by decide) rfl (fun ls hl => ?_)
                  refine lv_goto (tgt := 22) hx hb dX8_begin_183 (by decide) ?_
                  replace hl : lv_has ls 8 [(5, .int (I (v5q136 + 1))), (4, .int (I z_232)), (0, .ref a), (1, .ref (ad E q 0)), (3, .int (I z_4))] := lv_sub hl [0, 1, 4, 5, 6] rfl
                  exact ihJ_137 (z_232, v5q136 + 1) σ_s_227 _ _ _ (by first | omega | (dsimp only; omega)) ⟨hO, hF, hH, hS, lv_sub hl [2, 3, 4, 1, 0] rfl, rz_232, ⟨by first | omega | (dsimp only; omega), by first | omega | (dsimp only; omega)⟩, by first | omega | (dsimp only; omega), by first | omega | (dsimp only; omega), by first | omega | (dsimp only; omega), by first | omega | (dsimp only; omega), hp_229, (by have h9 := he_230; first | omega | (dsimp only; omega)), (fun q h1 h2 => absurd h2 (by have h9 := he_230; first | omega | (dsimp only; omega))), ef_228⟩
                · replace c_222 := mt (I_le (a := z_4) (b := z_221) rz_4 rz_221).mpr c_222
                  refine lv_aload_n hx hb dX8_begin_117 rfl (lv_at hl 2 rfl) ?_
                  refine lv_iload hx hb dX8_begin_118 (lv_at hl 4 rfl) ?_
                  refine lv_iconst (v := I 1) hx hb dX8_begin_120 (by decide) ?_
                  refine lv_iadd hx hb dX8_begin_121 ?_
                  refine th_addo (fun z_233 rz_233 hz_233 => ?_)
                  refine ok_iald hx hb hK hH hO h_q (by decide) k12_0 isA1 rz_233 (by omega) (by omega) dX8_begin_122 (fun z_234 ez_234 rz_234 el9 => ?_)
                  have ez9 : (f_1 (z_233).toNat).toInt = z_234 := by rw [← J_137_7]; exact ez_234
                  have ez_235 := ez9
                  have hbz_234 : Bq z_233 = z_234 := (hBf z_233 (by omega) (by omega)).symm.trans ez_235
                  have hb9 : Bq (v4q136 + 1) = z_234 := by rw [show v4q136 + 1 = z_233 by omega]; exact hbz_234
                  refine lv_bipush (v := I 46) hx hb dX8_begin_123 (by decide) ?_
                  refine lv_icmp_ne (tgt := 132) hx hb dX8_begin_125 (by decide) (fun c_236 => ?_) (fun c_236 => ?_)
                  · replace c_236 := mt (I_eq (a := z_234) (b := 46) rz_234 (show rng 46 from ⟨by decide, by decide⟩)).mpr c_236
                    refine lv_iconst (v := I 0) hx hb dX8_begin_132 (by decide) ?_
                    refine lv_istore (lv' := [(7, .int (I 0)), (6, .int (I z_198)), (0, .ref a), (1, .ref (ad E q 0)), (3, .int (I z_4)), (4, .int (I v4q136)), (5, .int (I v5q136))]) hx hb dX8_begin_133 hl (by decide) rfl (fun ls hl => ?_)
                    refine lv_aload_n hx hb dX8_begin_135 rfl (lv_at hl 2 rfl) ?_
                    refine lv_iload hx hb dX8_begin_136 (lv_at hl 0 rfl) ?_
                    refine lv_if_eq (tgt := 147) hx hb dX8_begin_138 (by decide) (fun _ => ?_) (fun c_237 => absurd (by decide) c_237)
                    refine lv_iload hx hb dX8_begin_147 (lv_at hl 1 rfl) ?_
                    refine lv_iload hx hb dX8_begin_149 (lv_at hl 5 rfl) ?_
                    refine lv_iconst (v := I 0) hx hb dX8_begin_151 (by decide) ?_
                    refine lv_iload hx hb dX8_begin_152 (lv_at hl 0 rfl) ?_
                    refine lv_if_eq (tgt := 161) hx hb dX8_begin_154 (by decide) (fun _ => ?_) (fun c_238 => absurd (by decide) c_238)
                    refine lv_iconst (v := I 1) hx hb dX8_begin_161 (by decide) ?_
                    obtain ⟨_, hc_239⟩ := hO.cell h_a (by decide) (ci := 8) rfl
                    refine th_callv (va_runV (As := [.int (I z_198), .int (I v4q136), .int (I 0), .int (I 1)]) (rest := []) ⟨hx, hb, hml, hown, hts⟩ (f_addToken l G y b0 σ_J_137 E hO a h_a z_198 (show rng z_198 from rz_198) v4q136 (show rng v4q136 from rv4q136) 0 (show rng 0 from (show rng 0 from ⟨by decide, by decide⟩)) 1 (show rng 1 from (show rng 1 from ⟨by decide, by decide⟩)) (by omega)) (cwV 4 hts gX8_begin_X8_addToken rfl rfl rfl (by decide +kernel) ⟨Nat.le_of_ble_eq_true rfl, Nat.le_of_ble_eq_true rfl⟩) (th_PV hK hH rfl hc_239) rfl rfl hl.1 rfl (lv_room (Nat.le_of_ble_eq_true rfl)) dX8_begin_162 ⟨Nat.le_of_ble_eq_true rfl, Nat.le_of_ble_eq_true rfl⟩) hS (fun σ_s_241 H locs hw_240 hH hS => ?_)
                    obtain ⟨hO9, hF9, hw_240⟩ := hw_240
                    have ef_242 : aF σ_s_241 (ad E q 0) = f_1 := (fr.af hO hF9 h_q (by decide) (by decide) k12_0 isA1).trans J_137_7
                    replace hO := hO9
                    replace hF := hF.tu hF9 (by decide)
                    replace hw_240 : tadd E σ_J_137 σ_s_241 a z_198 v4q136 0 1 := hw_240
                    have hmhw_240 := hw_240.2.2.2.2
                    have hy39 := hy3 v4q136
                    have hy49 := hy4 v4q136 (by omega) (by omega)
                    have hp_243 : pfx Bq (tT E σ_s_241 a) := pfx.add J_137_4 hw_240 rz_198 rv4q136 ⟨by decide, by decide⟩ ⟨by decide, by decide⟩ (by omega) (Tok.sign J_137_5 J_137_6 (by omega) (by omega) (by omega) (by omega) (by omega) (by first | omega | (have h9 := hBe (v4q136 + 1) (by omega); omega))) (by omega)
                    have he_244 : tEnd (tT E σ_s_241 a) = v4q136 + 1 := hw_240.end rz_198 rv4q136 ⟨by decide, by decide⟩ ⟨by decide, by decide⟩ (by omega)
                    refine lv_iload hx hb dX8_begin_165 (lv_at hl 5 rfl) ?_
                    refine lv_iload hx hb dX8_begin_167 (lv_at hl 0 rfl) ?_
                    refine lv_if_eq (tgt := 176) hx hb dX8_begin_169 (by decide) (fun _ => ?_) (fun c_245 => absurd (by decide) c_245)
                    refine lv_iconst (v := I 1) hx hb dX8_begin_176 (by decide) ?_
                    refine lv_iadd hx hb dX8_begin_177 ?_
                    refine th_addo (fun z_246 rz_246 hz_246 => ?_)
                    refine lv_istore (lv' := [(4, .int (I z_246)), (7, .int (I 0)), (6, .int (I z_198)), (0, .ref a), (1, .ref (ad E q 0)), (3, .int (I z_4)), (5, .int (I v5q136))]) hx hb dX8_begin_178 hl (by decide) rfl (fun ls hl => ?_)
                    refine lv_iinc (v := I (v5q136 + 1)) (lv' := [(5, .int (I (v5q136 + 1))), (4, .int (I z_246)), (7, .int (I 0)), (6, .int (I z_198)), (0, .ref a), (1, .ref (ad E q 0)), (3, .int (I z_4))]) hx hb dX8_begin_180 hl (k := 6) rfl (I_add _ _) (by decide) rfl (fun ls hl => ?_)
                    refine lv_goto (tgt := 22) hx hb dX8_begin_183 (by decide) ?_
                    replace hl : lv_has ls 8 [(5, .int (I (v5q136 + 1))), (4, .int (I z_246)), (0, .ref a), (1, .ref (ad E q 0)), (3, .int (I z_4))] := lv_sub hl [0, 1, 4, 5, 6] rfl
                    exact ihJ_137 (z_246, v5q136 + 1) σ_s_241 _ _ _ (by first | omega | (dsimp only; omega)) ⟨hO, hF, hH, hS, lv_sub hl [2, 3, 4, 1, 0] rfl, rz_246, ⟨by first | omega | (dsimp only; omega), by first | omega | (dsimp only; omega)⟩, by first | omega | (dsimp only; omega), by first | omega | (dsimp only; omega), by first | omega | (dsimp only; omega), by first | omega | (dsimp only; omega), hp_243, (by have h9 := he_244; first | omega | (dsimp only; omega)), (fun q h1 h2 => absurd h2 (by have h9 := he_244; first | omega | (dsimp only; omega))), ef_242⟩
                  · replace c_236 := (I_eq (a := z_234) (b := 46) rz_234 (show rng 46 from ⟨by decide, by decide⟩)).mp c_236
                    refine lv_iconst (v := I 1) hx hb dX8_begin_128 (by decide) ?_
                    refine lv_goto (tgt := 133) hx hb dX8_begin_129 (by decide) ?_
                    refine lv_istore (lv' := [(7, .int (I 1)), (6, .int (I z_198)), (0, .ref a), (1, .ref (ad E q 0)), (3, .int (I z_4)), (4, .int (I v4q136)), (5, .int (I v5q136))]) hx hb dX8_begin_133 hl (by decide) rfl (fun ls hl => ?_)
                    refine lv_aload_n hx hb dX8_begin_135 rfl (lv_at hl 2 rfl) ?_
                    refine lv_iload hx hb dX8_begin_136 (lv_at hl 0 rfl) ?_
                    refine lv_if_eq (tgt := 147) hx hb dX8_begin_138 (by decide) (fun c_247 => absurd c_247 (by decide)) (fun _ => ?_)
                    refine lv_sipush (v := I 258) hx hb dX8_begin_141 (by decide) ?_
                    refine lv_goto (tgt := 149) hx hb dX8_begin_144 (by decide) ?_
                    refine lv_iload hx hb dX8_begin_149 (lv_at hl 5 rfl) ?_
                    refine lv_iconst (v := I 0) hx hb dX8_begin_151 (by decide) ?_
                    refine lv_iload hx hb dX8_begin_152 (lv_at hl 0 rfl) ?_
                    refine lv_if_eq (tgt := 161) hx hb dX8_begin_154 (by decide) (fun c_248 => absurd c_248 (by decide)) (fun _ => ?_)
                    refine lv_iconst (v := I 2) hx hb dX8_begin_157 (by decide) ?_
                    refine lv_goto (tgt := 162) hx hb dX8_begin_158 (by decide) ?_
                    obtain ⟨_, hc_249⟩ := hO.cell h_a (by decide) (ci := 8) rfl
                    refine th_callv (va_runV (As := [.int (I 258), .int (I v4q136), .int (I 0), .int (I 2)]) (rest := []) ⟨hx, hb, hml, hown, hts⟩ (f_addToken l G y b0 σ_J_137 E hO a h_a 258 (show rng 258 from (show rng 258 from ⟨by decide, by decide⟩)) v4q136 (show rng v4q136 from rv4q136) 0 (show rng 0 from (show rng 0 from ⟨by decide, by decide⟩)) 2 (show rng 2 from (show rng 2 from ⟨by decide, by decide⟩)) (by omega)) (cwV 4 hts gX8_begin_X8_addToken rfl rfl rfl (by decide +kernel) ⟨Nat.le_of_ble_eq_true rfl, Nat.le_of_ble_eq_true rfl⟩) (th_PV hK hH rfl hc_249) rfl rfl hl.1 rfl (lv_room (Nat.le_of_ble_eq_true rfl)) dX8_begin_162 ⟨Nat.le_of_ble_eq_true rfl, Nat.le_of_ble_eq_true rfl⟩) hS (fun σ_s_251 H locs hw_250 hH hS => ?_)
                    obtain ⟨hO9, hF9, hw_250⟩ := hw_250
                    have ef_252 : aF σ_s_251 (ad E q 0) = f_1 := (fr.af hO hF9 h_q (by decide) (by decide) k12_0 isA1).trans J_137_7
                    replace hO := hO9
                    replace hF := hF.tu hF9 (by decide)
                    replace hw_250 : tadd E σ_J_137 σ_s_251 a 258 v4q136 0 2 := hw_250
                    have hmhw_250 := hw_250.2.2.2.2
                    have hy39 := hy3 v4q136
                    have hy49 := hy4 v4q136 (by omega) (by omega)
                    have hp_253 : pfx Bq (tT E σ_s_251 a) := pfx.add J_137_4 hw_250 ⟨by decide, by decide⟩ rv4q136 ⟨by decide, by decide⟩ ⟨by decide, by decide⟩ (by omega) (Tok.dots J_137_5 J_137_6 (by omega) (by omega)) (by omega)
                    have he_254 : tEnd (tT E σ_s_251 a) = v4q136 + 2 := hw_250.end ⟨by decide, by decide⟩ rv4q136 ⟨by decide, by decide⟩ ⟨by decide, by decide⟩ (by omega)
                    refine lv_iload hx hb dX8_begin_165 (lv_at hl 5 rfl) ?_
                    refine lv_iload hx hb dX8_begin_167 (lv_at hl 0 rfl) ?_
                    refine lv_if_eq (tgt := 176) hx hb dX8_begin_169 (by decide) (fun c_255 => absurd c_255 (by decide)) (fun _ => ?_)
                    refine lv_iconst (v := I 2) hx hb dX8_begin_172 (by decide) ?_
                    refine lv_goto (tgt := 177) hx hb dX8_begin_173 (by decide) ?_
                    refine lv_iadd hx hb dX8_begin_177 ?_
                    refine th_addo (fun z_256 rz_256 hz_256 => ?_)
                    refine lv_istore (lv' := [(4, .int (I z_256)), (7, .int (I 1)), (6, .int (I z_198)), (0, .ref a), (1, .ref (ad E q 0)), (3, .int (I z_4)), (5, .int (I v5q136))]) hx hb dX8_begin_178 hl (by decide) rfl (fun ls hl => ?_)
                    refine lv_iinc (v := I (v5q136 + 1)) (lv' := [(5, .int (I (v5q136 + 1))), (4, .int (I z_256)), (7, .int (I 1)), (6, .int (I z_198)), (0, .ref a), (1, .ref (ad E q 0)), (3, .int (I z_4))]) hx hb dX8_begin_180 hl (k := 6) rfl (I_add _ _) (by decide) rfl (fun ls hl => ?_)
                    refine lv_goto (tgt := 22) hx hb dX8_begin_183 (by decide) ?_
                    replace hl : lv_has ls 8 [(5, .int (I (v5q136 + 1))), (4, .int (I z_256)), (0, .ref a), (1, .ref (ad E q 0)), (3, .int (I z_4))] := lv_sub hl [0, 1, 4, 5, 6] rfl
                    exact ihJ_137 (z_256, v5q136 + 1) σ_s_251 _ _ _ (by first | omega | (dsimp only; omega)) ⟨hO, hF, hH, hS, lv_sub hl [2, 3, 4, 1, 0] rfl, rz_256, ⟨by first | omega | (dsimp only; omega), by first | omega | (dsimp only; omega)⟩, by first | omega | (dsimp only; omega), by first | omega | (dsimp only; omega), by first | omega | (dsimp only; omega), by first | omega | (dsimp only; omega), hp_253, (by have h9 := he_254; first | omega | (dsimp only; omega)), (fun q h1 h2 => absurd h2 (by have h9 := he_254; first | omega | (dsimp only; omega))), ef_252⟩
            · replace c_209 := mt (I_eq (a := z_208) (b := 0) rz_208 (show rng 0 from ⟨by decide, by decide⟩)).mpr c_209
              refine lv_aload_n hx hb dX8_begin_89 rfl (lv_at hl 1 rfl) ?_
              refine lv_aload_n hx hb dX8_begin_90 rfl (lv_at hl 2 rfl) ?_
              refine lv_iload hx hb dX8_begin_91 (lv_at hl 4 rfl) ?_
              refine lv_iload_n hx hb dX8_begin_93 rfl (lv_at hl 3 rfl) ?_
              obtain ⟨_, hc_257⟩ := hO.cell h_a (by decide) (ci := 8) rfl
              refine th_calli (va_runV (As := [.ref (ad E q 0), .int (I v4q136), .int (I z_4)]) (rest := []) ⟨hx, hb, hml, hown, hts⟩ (f_findDigits l G y b0 σ_J_137 E hO a h_a q h_q v4q136 (show rng v4q136 from rv4q136) (by omega) (by omega) z_4 (show rng z_4 from rz_4) (by omega) (by omega) Bq ((fun k h1 h2 => by rw [J_137_7]; exact hBf k h1 (by omega))) ((fun k h1 => hBe k (by omega))) (by omega) (by omega) ((by unfold isDg; omega))) (cwV 3 hts gX8_begin_X8_findDigits rfl rfl rfl (by decide +kernel) ⟨Nat.le_of_ble_eq_true rfl, Nat.le_of_ble_eq_true rfl⟩) (th_PV hK hH rfl hc_257) rfl rfl hl.1 rfl (lv_room (Nat.le_of_ble_eq_true rfl)) dX8_begin_94 ⟨Nat.le_of_ble_eq_true rfl, Nat.le_of_ble_eq_true rfl⟩) hS (fun z_260 σ_s_259 H locs rz_260 hw_258 hH hS => ?_)
              obtain ⟨hO9, hF9, hw_258⟩ := hw_258
              have ef_261 : aF σ_s_259 (ad E q 0) = f_1 := (fr.af hO hF9 h_q (by decide) (by decide) k12_0 isA1).trans J_137_7
              replace hO := hO9
              replace hF := hF.tu hF9 (by decide)
              replace hw_258 : ∃ v, rng v ∧ tadd E σ_J_137 σ_s_259 a 257 v4q136 v (z_260 - v4q136) ∧ v4q136 < z_260 ∧ z_260 ≤ z_4 ∧ (∀ q, v4q136 ≤ q → q < z_260 → isDg (Bq q)) ∧ ¬ isDg (Bq z_260) := hw_258
              obtain ⟨v_264, rv_265, ht_266, a_267, a_268, a_269, a_270⟩ := hw_258
              have hmht_266 := ht_266.2.2.2.2
              have hp_262 : pfx Bq (tT E σ_s_259 a) := pfx.add J_137_4 ht_266 ⟨by decide, by decide⟩ rv4q136 rv_265 ⟨by omega, by omega⟩ (by omega) (Tok.digits J_137_5 J_137_6 a_267 a_269 a_270) (by decide)
              have he_263 : tEnd (tT E σ_s_259 a) = v4q136 + (z_260 - v4q136) := ht_266.end ⟨by decide, by decide⟩ rv4q136 rv_265 ⟨by omega, by omega⟩ (by omega)
              refine lv_istore (lv' := [(4, .int (I z_260)), (6, .int (I z_198)), (0, .ref a), (1, .ref (ad E q 0)), (3, .int (I z_4)), (5, .int (I v5q136))]) hx hb dX8_begin_97 hl (by decide) rfl (fun ls hl => ?_)
              refine lv_goto (tgt := 180) hx hb dX8_begin_99 (by decide) ?_
              refine lv_iinc (v := I (v5q136 + 1)) (lv' := [(5, .int (I (v5q136 + 1))), (4, .int (I z_260)), (6, .int (I z_198)), (0, .ref a), (1, .ref (ad E q 0)), (3, .int (I z_4))]) hx hb dX8_begin_180 hl (k := 5) rfl (I_add _ _) (by decide) rfl (fun ls hl => ?_)
              refine lv_goto (tgt := 22) hx hb dX8_begin_183 (by decide) ?_
              replace hl : lv_has ls 8 [(5, .int (I (v5q136 + 1))), (4, .int (I z_260)), (0, .ref a), (1, .ref (ad E q 0)), (3, .int (I z_4))] := lv_sub hl [0, 1, 3, 4, 5] rfl
              exact ihJ_137 (z_260, v5q136 + 1) σ_s_259 _ _ _ (by first | omega | (dsimp only; omega)) ⟨hO, hF, hH, hS, lv_sub hl [2, 3, 4, 1, 0] rfl, rz_260, ⟨by first | omega | (dsimp only; omega), by first | omega | (dsimp only; omega)⟩, by first | omega | (dsimp only; omega), by first | omega | (dsimp only; omega), by first | omega | (dsimp only; omega), by first | omega | (dsimp only; omega), hp_262, (by have h9 := he_263; first | omega | (dsimp only; omega)), (fun q h1 h2 => absurd h2 (by have h9 := he_263; first | omega | (dsimp only; omega))), ef_261⟩
          · replace c_205 := mt (I_eq (a := z_204) (b := 0) rz_204 (show rng 0 from ⟨by decide, by decide⟩)).mpr c_205
            refine lv_aload_n hx hb dX8_begin_68 rfl (lv_at hl 1 rfl) ?_
            refine lv_aload_n hx hb dX8_begin_69 rfl (lv_at hl 2 rfl) ?_
            refine lv_iload hx hb dX8_begin_70 (lv_at hl 4 rfl) ?_
            refine lv_iload_n hx hb dX8_begin_72 rfl (lv_at hl 3 rfl) ?_
            obtain ⟨_, hc_272⟩ := hO.cell h_a (by decide) (ci := 8) rfl
            refine th_calli (va_runV (As := [.ref (ad E q 0), .int (I v4q136), .int (I z_4)]) (rest := []) ⟨hx, hb, hml, hown, hts⟩ (f_findWord l G y b0 σ_J_137 E hO a h_a q h_q v4q136 (show rng v4q136 from rv4q136) (by omega) (by omega) z_4 (show rng z_4 from rz_4) (by omega) (by omega) Bq ((fun k h1 h2 => by rw [J_137_7]; exact hBf k h1 (by omega))) ((fun k h1 => hBe k (by omega))) (by omega) (by omega) ((by unfold isLt; omega))) (cwV 3 hts gX8_begin_X8_findWord rfl rfl rfl (by decide +kernel) ⟨Nat.le_of_ble_eq_true rfl, Nat.le_of_ble_eq_true rfl⟩) (th_PV hK hH rfl hc_272) rfl rfl hl.1 rfl (lv_room (Nat.le_of_ble_eq_true rfl)) dX8_begin_73 ⟨Nat.le_of_ble_eq_true rfl, Nat.le_of_ble_eq_true rfl⟩) hS (fun z_275 σ_s_274 H locs rz_275 hw_273 hH hS => ?_)
            obtain ⟨hO9, hF9, hw_273⟩ := hw_273
            have ef_276 : aF σ_s_274 (ad E q 0) = f_1 := (fr.af hO hF9 h_q (by decide) (by decide) k12_0 isA1).trans J_137_7
            replace hO := hO9
            replace hF := hF.tu hF9 (by decide)
            replace hw_273 : ∃ v, rng v ∧ tadd E σ_J_137 σ_s_274 a 256 v4q136 v (z_275 - v4q136) ∧ v4q136 < z_275 ∧ z_275 ≤ z_4 ∧ (∀ q, v4q136 ≤ q → q < z_275 → isLt (Bq q)) ∧ ¬ isLt (Bq z_275) ∧ (z_275 - v4q136 ≤ 6 → v = wv Bq v4q136 (z_275 - v4q136).toNat) := hw_273
            obtain ⟨v_279, rv_280, ht_281, a_282, a_283, a_284, a_285, a_286⟩ := hw_273
            have hmht_281 := ht_281.2.2.2.2
            have hp_277 : pfx Bq (tT E σ_s_274 a) := pfx.add J_137_4 ht_281 ⟨by decide, by decide⟩ rv4q136 rv_280 ⟨by omega, by omega⟩ (by omega) (Tok.word J_137_5 J_137_6 a_282 a_284 a_285 a_286) (by decide)
            have he_278 : tEnd (tT E σ_s_274 a) = v4q136 + (z_275 - v4q136) := ht_281.end ⟨by decide, by decide⟩ rv4q136 rv_280 ⟨by omega, by omega⟩ (by omega)
            refine lv_istore (lv' := [(4, .int (I z_275)), (6, .int (I z_198)), (0, .ref a), (1, .ref (ad E q 0)), (3, .int (I z_4)), (5, .int (I v5q136))]) hx hb dX8_begin_76 hl (by decide) rfl (fun ls hl => ?_)
            refine lv_goto (tgt := 180) hx hb dX8_begin_78 (by decide) ?_
            refine lv_iinc (v := I (v5q136 + 1)) (lv' := [(5, .int (I (v5q136 + 1))), (4, .int (I z_275)), (6, .int (I z_198)), (0, .ref a), (1, .ref (ad E q 0)), (3, .int (I z_4))]) hx hb dX8_begin_180 hl (k := 5) rfl (I_add _ _) (by decide) rfl (fun ls hl => ?_)
            refine lv_goto (tgt := 22) hx hb dX8_begin_183 (by decide) ?_
            replace hl : lv_has ls 8 [(5, .int (I (v5q136 + 1))), (4, .int (I z_275)), (0, .ref a), (1, .ref (ad E q 0)), (3, .int (I z_4))] := lv_sub hl [0, 1, 3, 4, 5] rfl
            exact ihJ_137 (z_275, v5q136 + 1) σ_s_274 _ _ _ (by first | omega | (dsimp only; omega)) ⟨hO, hF, hH, hS, lv_sub hl [2, 3, 4, 1, 0] rfl, rz_275, ⟨by first | omega | (dsimp only; omega), by first | omega | (dsimp only; omega)⟩, by first | omega | (dsimp only; omega), by first | omega | (dsimp only; omega), by first | omega | (dsimp only; omega), by first | omega | (dsimp only; omega), hp_277, (by have h9 := he_278; first | omega | (dsimp only; omega)), (fun q h1 h2 => absurd h2 (by have h9 := he_278; first | omega | (dsimp only; omega))), ef_276⟩
        · replace c_201 := (I_eq (a := z_198) (b := 10) rz_198 (show rng 10 from ⟨by decide, by decide⟩)).mp c_201
          refine lv_iinc (v := I (v4q136 + 1)) (lv' := [(4, .int (I (v4q136 + 1))), (6, .int (I z_198)), (0, .ref a), (1, .ref (ad E q 0)), (3, .int (I z_4)), (5, .int (I v5q136))]) hx hb dX8_begin_54 hl (k := 4) rfl (I_add _ _) (by decide) rfl (fun ls hl => ?_)
          refine lv_goto (tgt := 180) hx hb dX8_begin_57 (by decide) ?_
          refine lv_iinc (v := I (v5q136 + 1)) (lv' := [(5, .int (I (v5q136 + 1))), (4, .int (I (v4q136 + 1))), (6, .int (I z_198)), (0, .ref a), (1, .ref (ad E q 0)), (3, .int (I z_4))]) hx hb dX8_begin_180 hl (k := 5) rfl (I_add _ _) (by decide) rfl (fun ls hl => ?_)
          refine lv_goto (tgt := 22) hx hb dX8_begin_183 (by decide) ?_
          replace hl : lv_has ls 8 [(5, .int (I (v5q136 + 1))), (4, .int (I (v4q136 + 1))), (0, .ref a), (1, .ref (ad E q 0)), (3, .int (I z_4))] := lv_sub hl [0, 1, 3, 4, 5] rfl
          exact ihJ_137 (v4q136 + 1, v5q136 + 1) σ_J_137 _ _ _ (by first | omega | (dsimp only; omega)) ⟨hO, hF, hH, hS, lv_sub hl [2, 3, 4, 1, 0] rfl, ⟨by first | omega | (dsimp only; omega), by first | omega | (dsimp only; omega)⟩, ⟨by first | omega | (dsimp only; omega), by first | omega | (dsimp only; omega)⟩, by first | omega | (dsimp only; omega), by first | omega | (dsimp only; omega), by first | omega | (dsimp only; omega), by first | omega | (dsimp only; omega), J_137_4, (by first | omega | (dsimp only; omega)), (fun q h1 h2 => by
            by_cases e9 : q = v4q136
            · rw [e9]; unfold isBk; omega
            · exact J_137_6 q h1 (by first | omega | (dsimp only at h2; omega))), J_137_7⟩

set_option maxHeartbeats 4000000 in
set_option maxRecDepth 100000 in
theorem r6_read (l : Launch) (G : va_G) (y : Nat → ClassId) (b0 : Nat) (σ : th_M) (E : th_E) (hO : ok y E σ) (a : Nat) (h_a : kd E a = 10) (q : Nat) (h_q : kd E q = 12) (n : Int) (rn : rng n) (b : Nat) (h_b : kd E b = 1) (Bq : Int → Int) (hy0 : 0 ≤ n ∧ n ≤ 400) (hy1 : ∀ k : Int, 0 ≤ k → k < n → (aF σ (ad E q 0) k.toNat).toInt = Bq k) (hy2 : ∀ k, n ≤ k → Bq k = -1) (hy3 : byt Bq) (hy4 : ∀ k, 0 ≤ k → k < n → 0 ≤ Bq k) : Met l yX1_read wsX1_read ({ frames := 45, cells := 0, slots := 0, locals := 1707 }) (th_P G y b0 σ [.ref a, .ref (ad E q 0), .int (I n), .ref b]) (th_Qi G b0 (fun r σ1 => ok y E σ1 ∧ fr [3, 1] E σ σ1 ∧ (∃ T, tkSt Bq T ∧ TopR T r (gI σ1 (ad E a 0) 8)))) 0 0 (th_A b0) := by
  refine Met.ofW (cc := cX1_read) (maxL := 4) (ret := (some .int)) (by decide) rfl ?_
  intro p e s m args below meth c s₁ B hml hv
  obtain ⟨rfl, hH, hK⟩ := hv
  have hx := B.exec
  have hb := B.bytes
  have hr := B.returns
  have hts := atoms_spec (ws := wsX1_read) B.pre
  have hown : s.vm.findClass RX1 = some m.cls := findClass_of_methodNamed B.named
  have hlocks := B.notSynchronized
  have h00 : b0 ≤ s.heap.size := hH.1
  have hS : va_S (th_A b0) s.heap s.heap [] := va_S.rf
  have hF : fr [3, 1] E σ σ := fr.rf
  have inX1 : ∀ w ∈ wsX10, w ∈ wsX1_read := by decide +kernel
  have inX8 : ∀ w ∈ wsX80, w ∈ wsX1_read := by decide +kernel
  have fl0 := hts (.fieldLink RX1 9 "NestQuery$DataReader" "tokens" "LNestQuery$Tokens;") (by decide +kernel)
  have hl := lv_entry ([.ref a, .ref (ad E q 0), .int (I n), .ref b]) (n := 4) (Nat.le_of_ble_eq_true rfl)
  rw [lg_entry_eq]
  generalize (lg_sl ([.ref a, .ref (ad E q 0), .int (I n), .ref b]) ++ List.replicate (4 - (lg_sl ([.ref a, .ref (ad E q 0), .int (I n), .ref b])).length) Slot.unset).toArray = ls at hl ⊢
  have hl : lv_has ls 4 [(0, .ref a), (1, .ref (ad E q 0)), (2, .int (I n)), (3, .ref b)] := hl
  have hkt : kd E (ad E a 0) = 3 := ok.pk hO h_a (by decide) k10_0 rfl
  refine lv_aload_n hx hb dX1_read_0 rfl (lv_at hl 0 rfl) ?_
  have hp_1 : kd E (ad E a 0) = 3 := ok.pk hO h_a (by decide) k10_0 rfl
  refine ok.getR hO h_a (by decide) k10_0 (by decide) (fun _ _ he hv kk => th_get (ci := 1) (C := RX1) (T := TX1) (N := 1) hx hb hts inX1 hown hK hH he rfl 0 (by decide) fl0 hv dX1_read_1 kk) ?_
  refine lv_aload_n hx hb dX1_read_4 rfl (lv_at hl 1 rfl) ?_
  refine lv_iload_n hx hb dX1_read_5 rfl (lv_at hl 2 rfl) ?_
  obtain ⟨_, hc_2⟩ := hO.cell hp_1 (by decide) (ci := 8) rfl
  refine th_callv (va_runV (As := [.ref (ad E q 0), .int (I n)]) (rest := []) ⟨hx, hb, hml, hown, hts⟩ (f_begin l G y b0 σ E hO (ad E a 0) hp_1 q h_q n (show rng n from rn) Bq (by omega) (hy1) (hy2) (hy3) (hy4)) (cwV 2 hts gX1_read_X8_begin rfl rfl rfl (by decide +kernel) ⟨Nat.le_of_ble_eq_true rfl, Nat.le_of_ble_eq_true rfl⟩) (th_PV hK hH rfl hc_2) rfl rfl hl.1 rfl (lv_room (Nat.le_of_ble_eq_true rfl)) dX1_read_6 ⟨Nat.le_of_ble_eq_true rfl, Nat.le_of_ble_eq_true rfl⟩) hS (fun σ_s_4 H locs hw_3 hH hS => ?_)
  obtain ⟨hO9, hF9, hw_3⟩ := hw_3
  replace hO := hO9
  replace hF := hF.tu hF9 (by decide)
  replace hw_3 : ∃ T, TSt E σ_s_4 (ad E a 0) T 0 0 ∧ tkSt Bq T := hw_3
  obtain ⟨T, hT_5, hw_3⟩ := hw_3
  have hUhT_5 := hT_5.2.2
  refine lv_aload_n hx hb dX1_read_9 rfl (lv_at hl 3 rfl) ?_
  obtain ⟨_, hc_6⟩ := hO.cell h_b (by decide) (ci := 9) rfl
  refine th_callv (va_runV (As := []) (rest := []) ⟨hx, hb, hml, hown, hts⟩ (tw1_clear l G y b0 σ_s_4 E hO b h_b) (cwV 0 hts gX1_read_X9_clear rfl rfl rfl (by decide +kernel) ⟨Nat.le_of_ble_eq_true rfl, Nat.le_of_ble_eq_true rfl⟩) (th_PV hK hH rfl hc_6) rfl rfl hl.1 rfl (lv_room (Nat.le_of_ble_eq_true rfl)) dX1_read_10 ⟨Nat.le_of_ble_eq_true rfl, Nat.le_of_ble_eq_true rfl⟩) hS (fun σ_s_8 H locs hw_7 hH hS => ?_)
  obtain ⟨hO9, hF9, hw_7⟩ := hw_7
  have hT_9 : TSt E σ_s_8 (ad E a 0) T (0 : Int) (0 : Int) := TSt.mv hO hF9 hkt (by decide) hT_5
  have hUhT_9 := hT_9.2.2
  replace hO := hO9
  replace hF := hF.tu hF9 (by decide)
  replace hw_7 : gI σ_s_8 b 4 = 0 := hw_7
  refine lv_aload_n hx hb dX1_read_13 rfl (lv_at hl 0 rfl) ?_
  refine lv_aload_n hx hb dX1_read_14 rfl (lv_at hl 3 rfl) ?_
  refine lv_iconst (v := I 0) hx hb dX1_read_15 (by decide) ?_
  refine lv_iconst (v := I 0) hx hb dX1_read_16 (by decide) ?_
  obtain ⟨_, hc_10⟩ := hO.cell h_a (by decide) (ci := 1) rfl
  refine th_callv (va_runV (As := [.ref b, .int (I 0), .int (I 0)]) (rest := []) ⟨hx, hb, hml, hown, hts⟩ (r6_readThing 9 l G y b0 σ_s_8 E hO a h_a b h_b 0 (show rng 0 from (show rng 0 from ⟨by decide, by decide⟩)) (by omega) (by omega) 0 (show rng 0 from (show rng 0 from ⟨by decide, by decide⟩)) T (0 : Int) (0 : Int) hT_9 (by omega)) (cwV 3 hts gX1_read_X1_readThing rfl rfl rfl (by decide +kernel) ⟨Nat.le_of_ble_eq_true rfl, Nat.le_of_ble_eq_true rfl⟩) (th_PV hK hH rfl hc_10) rfl rfl hl.1 rfl (lv_room (Nat.le_of_ble_eq_true rfl)) dX1_read_17 ⟨Nat.le_of_ble_eq_true rfl, Nat.le_of_ble_eq_true rfl⟩) hS (fun σ_s_12 H locs hw_11 hH hS => ?_)
  obtain ⟨hO9, hF9, hw_11⟩ := hw_11
  replace hO := hO9
  replace hF := hF.tu hF9 (by decide)
  replace hw_11 : ∃ c1 j1, TSt E σ_s_12 (ad E a 0) T c1 j1 ∧ ((0 : Int) ≠ 0 → c1 = (0 : Int) ∧ j1 = (0 : Int)) ∧ ((0 : Int) = 0 → PTh T 0 (0 : Int) (gI σ_s_8 b 4) c1 j1 (gI σ_s_12 b 4) ∧ (c1 = 0 → (0 : Int) < j1 ∧ gr E σ_s_8 σ_s_12 b (gI σ_s_8 b 4) 0 0)) := hw_11
  obtain ⟨cc_13, jj_14, hT_15, hw_11⟩ := hw_11
  have hUhT_15 := hT_15.2.2
  obtain ⟨⟨zz_16, hP_17, _⟩, _⟩ := hw_11.2 rfl
  rw [show gI σ_s_8 b 4 = 0 by omega] at hP_17
  refine lv_aload_n hx hb dX1_read_20 rfl (lv_at hl 0 rfl) ?_
  refine ok.getR hO h_a (by decide) k10_0 (by decide) (fun _ _ he hv kk => th_get (ci := 1) (C := RX1) (T := TX1) (N := 1) hx hb hts inX1 hown hK hH he rfl 0 (by decide) fl0 hv dX1_read_21 kk) ?_
  refine ok.getI hO hp_1 (by decide) k3_6 (fun _ _ he hv kk => th_getN (ci := 8) (C := RX8) (T := TX8) (N := 9) hx hb hts inX8 hown hK hH he rfl 6 (by decide) (nl_4 hK) hv dX1_read_24 kk) (fun z_18 e_19 rz_18 lz_18 uz_18 => ?_)
  refine lv_sipush (v := I 259) hx hb dX1_read_27 (by decide) ?_
  refine lv_icmp_eq (tgt := 41) hx hb dX1_read_30 (by decide) (fun c_20 => ?_) (fun c_20 => ?_)
  · replace c_20 := (I_eq (a := z_18) (b := 259) rz_18 (show rng 259 from ⟨by decide, by decide⟩)).mp c_20
    refine lv_aload_n hx hb dX1_read_41 rfl (lv_at hl 0 rfl) ?_
    refine ok.getR hO h_a (by decide) k10_0 (by decide) (fun _ _ he hv kk => th_get (ci := 1) (C := RX1) (T := TX1) (N := 1) hx hb hts inX1 hown hK hH he rfl 0 (by decide) fl0 hv dX1_read_42 kk) ?_
    refine ok.getI hO hp_1 (by decide) k3_7 (fun _ _ he hv kk => th_getN (ci := 8) (C := RX8) (T := TX8) (N := 9) hx hb hts inX8 hown hK hH he rfl 7 (by decide) (nl_7 hK) hv dX1_read_45 kk) (fun z_21 e_22 rz_21 lz_21 uz_21 => ?_)
    exact th_iret hx hb hr hlocks hH hS (z := z_21) rz_21 ⟨hO, hF, ⟨T, hw_3, cc_13, jj_14, zz_16, hP_17, by
      omega⟩⟩ dX1_read_48
  · replace c_20 := mt (I_eq (a := z_18) (b := 259) rz_18 (show rng 259 from ⟨by decide, by decide⟩)).mpr c_20
    refine lv_aload_n hx hb dX1_read_33 rfl (lv_at hl 0 rfl) ?_
    refine ok.getR hO h_a (by decide) k10_0 (by decide) (fun _ _ he hv kk => th_get (ci := 1) (C := RX1) (T := TX1) (N := 1) hx hb hts inX1 hown hK hH he rfl 0 (by decide) fl0 hv dX1_read_34 kk) ?_
    refine lv_iconst (v := I 1) hx hb dX1_read_37 (by decide) ?_
    obtain ⟨_, hc_23⟩ := hO.cell hp_1 (by decide) (ci := 8) rfl
    refine th_callv (va_runV (As := [.int (I 1)]) (rest := []) ⟨hx, hb, hml, hown, hts⟩ (f_fail l G y b0 σ_s_12 E hO (ad E a 0) hp_1 1 (show rng 1 from (show rng 1 from ⟨by decide, by decide⟩)) T cc_13 jj_14 hT_15 (by omega)) (cwV 1 hts gX1_read_X8_fail rfl rfl rfl (by decide +kernel) ⟨Nat.le_of_ble_eq_true rfl, Nat.le_of_ble_eq_true rfl⟩) (th_PV hK hH rfl hc_23) rfl rfl hl.1 rfl (lv_room (Nat.le_of_ble_eq_true rfl)) dX1_read_38 ⟨Nat.le_of_ble_eq_true rfl, Nat.le_of_ble_eq_true rfl⟩) hS (fun σ_s_25 H locs hw_24 hH hS => ?_)
    obtain ⟨hO9, hF9, hw_24⟩ := hw_24
    replace hO := hO9
    replace hF := hF.tu hF9 (by decide)
    replace hw_24 : ∃ c1 j1, TSt E σ_s_25 (ad E a 0) T c1 j1 ∧ j1 = jj_14 ∧ (cc_13 = 0 → c1 = 1) ∧ (cc_13 ≠ 0 → c1 = cc_13) := hw_24
    obtain ⟨cc_26, jj_27, hT_28, hw_24⟩ := hw_24
    have hUhT_28 := hT_28.2.2
    refine lv_aload_n hx hb dX1_read_41 rfl (lv_at hl 0 rfl) ?_
    refine ok.getR hO h_a (by decide) k10_0 (by decide) (fun _ _ he hv kk => th_get (ci := 1) (C := RX1) (T := TX1) (N := 1) hx hb hts inX1 hown hK hH he rfl 0 (by decide) fl0 hv dX1_read_42 kk) ?_
    refine ok.getI hO hp_1 (by decide) k3_7 (fun _ _ he hv kk => th_getN (ci := 8) (C := RX8) (T := TX8) (N := 9) hx hb hts inX8 hown hK hH he rfl 7 (by decide) (nl_7 hK) hv dX1_read_45 kk) (fun z_29 e_30 rz_29 lz_29 uz_29 => ?_)
    exact th_iret hx hb hr hlocks hH hS (z := z_29) rz_29 ⟨hO, hF, ⟨T, hw_3, cc_13, jj_14, zz_16, hP_17, by
      have h9 : tS T jj_27 = tS T jj_14 := by rw [show jj_27 = jj_14 by omega]
      omega⟩⟩ dX1_read_48
