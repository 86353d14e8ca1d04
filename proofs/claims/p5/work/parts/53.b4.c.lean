set_option maxHeartbeats 1000000 in
set_option maxRecDepth 100000 in
theorem p_clear (l : Launch) (G : va_G) (y : Nat → ClassId) (b0 : Nat) (σ : th_M) (E : th_E) (hO : ok y E σ) (a : Nat) (h_a : kd E a = 4) : Met l yX4_clear wsX4_clear ({ frames := 0, cells := 0, slots := 0, locals := 0 }) (th_P G y b0 σ [.ref a]) (th_Qv G b0 (fun σ1 => ok y E σ1 ∧ fr [4] E σ σ1 ∧ (True))) 0 0 (th_A b0) := by
  refine Met.ofW (cc := cX4_clear) (maxL := 1) (ret := none) (by decide) rfl ?_
  intro p e s m args below meth c s₁ B hml hv
  obtain ⟨rfl, hH, hK⟩ := hv
  have hx := B.exec
  have hb := B.bytes
  have hr := B.returns
  have hts := atoms_spec (ws := wsX4_clear) B.pre
  have hown : s.vm.findClass RX4 = some m.cls := findClass_of_methodNamed B.named
  have hlocks := B.notSynchronized
  have h00 : b0 ≤ s.heap.size := hH.1
  have hS : va_S (th_A b0) s.heap s.heap [] := va_S.rf
  have hF : fr [4] E σ σ := fr.rf
  have inX4 : ∀ w ∈ wsX40, w ∈ wsX4_clear := by decide +kernel
  have fl0 := hts (.fieldLink RX4 43 "NestQuery$Path" "stepCount" "I") (by decide +kernel)
  have fl1 := hts (.fieldLink RX4 47 "NestQuery$Path" "codeCount" "I") (by decide +kernel)
  have fl2 := hts (.fieldLink RX4 50 "NestQuery$Path" "littleCount" "I") (by decide +kernel)
  have fl3 := hts (.fieldLink RX4 53 "NestQuery$Path" "testCount" "I") (by decide +kernel)
  have hl := lv_entry ([.ref a]) (n := 1) (Nat.le_of_ble_eq_true rfl)
  rw [lg_entry_eq]
  generalize (lg_sl ([.ref a]) ++ List.replicate (1 - (lg_sl ([.ref a])).length) Slot.unset).toArray = ls at hl ⊢
  have hl : lv_has ls 1 [(0, .ref a)] := hl
  refine lv_aload_n hx hb dX4_clear_0 rfl (lv_at hl 0 rfl) ?_
  refine lv_iconst (v := I 0) hx hb dX4_clear_1 (by decide) ?_
  refine ok.putI hO h_a (by decide) k4_3 (show rng 0 from ⟨by decide, by decide⟩) (by omega) (by omega) (fun _ he hl9 kk => th_put (ci := 4) (v := .int (I 0)) (ty := .int) (C := RX4) (T := TX4) (N := 14) hx hb hts inX4 tyX4 tyX4_ok nmX4 hown hK hH hS h00 he rfl 3 (by decide) fl0 rfl (by decide +kernel) rfl rfl hl9 dX4_clear_2 kk) (fun σ_s_1 H locs hO hF9 hg9 hi9 ha9 hH hS => ?_)
  replace hF := hF.tu hF9 (by decide)
  have e_2 := hg9
  refine lv_aload_n hx hb dX4_clear_5 rfl (lv_at hl 0 rfl) ?_
  refine lv_iconst (v := I 0) hx hb dX4_clear_6 (by decide) ?_
  refine ok.putI hO h_a (by decide) k4_5 (show rng 0 from ⟨by decide, by decide⟩) (by omega) (by omega) (fun _ he hl9 kk => th_put (ci := 4) (v := .int (I 0)) (ty := .int) (C := RX4) (T := TX4) (N := 14) hx hb hts inX4 tyX4 tyX4_ok nmX4 hown hK hH hS h00 he rfl 5 (by decide) fl1 rfl (by decide +kernel) rfl rfl hl9 dX4_clear_7 kk) (fun σ_s_3 H locs hO hF9 hg9 hi9 ha9 hH hS => ?_)
  replace hF := hF.tu hF9 (by decide)
  have e_4 : gI σ_s_3 a 3 = 0 := (hi9 _ _ (Or.inr (by decide))).trans e_2
  have e_5 := hg9
  refine lv_aload_n hx hb dX4_clear_10 rfl (lv_at hl 0 rfl) ?_
  refine lv_iconst (v := I 0) hx hb dX4_clear_11 (by decide) ?_
  refine ok.putI hO h_a (by decide) k4_8 (show rng 0 from ⟨by decide, by decide⟩) (by omega) (by omega) (fun _ he hl9 kk => th_put (ci := 4) (v := .int (I 0)) (ty := .int) (C := RX4) (T := TX4) (N := 14) hx hb hts inX4 tyX4 tyX4_ok nmX4 hown hK hH hS h00 he rfl 8 (by decide) fl2 rfl (by decide +kernel) rfl rfl hl9 dX4_clear_12 kk) (fun σ_s_6 H locs hO hF9 hg9 hi9 ha9 hH hS => ?_)
  replace hF := hF.tu hF9 (by decide)
  have e_7 : gI σ_s_6 a 3 = 0 := (hi9 _ _ (Or.inr (by decide))).trans e_4
  have e_8 : gI σ_s_6 a 5 = 0 := (hi9 _ _ (Or.inr (by decide))).trans e_5
  have e_9 := hg9
  refine lv_aload_n hx hb dX4_clear_15 rfl (lv_at hl 0 rfl) ?_
  refine lv_iconst (v := I 0) hx hb dX4_clear_16 (by decide) ?_
  refine ok.putI hO h_a (by decide) k4_13 (show rng 0 from ⟨by decide, by decide⟩) (by omega) (by omega) (fun _ he hl9 kk => th_put (ci := 4) (v := .int (I 0)) (ty := .int) (C := RX4) (T := TX4) (N := 14) hx hb hts inX4 tyX4 tyX4_ok nmX4 hown hK hH hS h00 he rfl 13 (by decide) fl3 rfl (by decide +kernel) rfl rfl hl9 dX4_clear_17 kk) (fun σ_s_10 H locs hO hF9 hg9 hi9 ha9 hH hS => ?_)
  replace hF := hF.tu hF9 (by decide)
  have e_11 : gI σ_s_10 a 3 = 0 := (hi9 _ _ (Or.inr (by decide))).trans e_7
  have e_12 : gI σ_s_10 a 5 = 0 := (hi9 _ _ (Or.inr (by decide))).trans e_8
  have e_13 : gI σ_s_10 a 8 = 0 := (hi9 _ _ (Or.inr (by decide))).trans e_9
  have e_14 := hg9
  exact th_vret hx hb hr hlocks hH hS ⟨hO, hF, trivial⟩ dX4_clear_20

set_option maxHeartbeats 1000000 in
set_option maxRecDepth 100000 in
theorem p_addStep (l : Launch) (G : va_G) (y : Nat → ClassId) (b0 : Nat) (σ : th_M) (E : th_E) (hO : ok y E σ) (a : Nat) (h_a : kd E a = 4) (w1 : Int) (rw1 : rng w1) (w2 : Int) (rw2 : rng w2) (w3 : Int) (rw3 : rng w3) : Met l yX4_addStep wsX4_addStep ({ frames := 0, cells := 0, slots := 0, locals := 0 }) (th_P G y b0 σ [.ref a, .int (I w1), .int (I w2), .int (I w3)]) (th_Qv G b0 (fun σ1 => ok y E σ1 ∧ fr [4] E σ σ1 ∧ (True))) 0 0 (th_A b0) := by
  refine Met.ofW (cc := cX4_addStep) (maxL := 4) (ret := none) (by decide) rfl ?_
  intro p e s m args below meth c s₁ B hml hv
  obtain ⟨rfl, hH, hK⟩ := hv
  have hx := B.exec
  have hb := B.bytes
  have hr := B.returns
  have hts := atoms_spec (ws := wsX4_addStep) B.pre
  have hown : s.vm.findClass RX4 = some m.cls := findClass_of_methodNamed B.named
  have hlocks := B.notSynchronized
  have h00 : b0 ≤ s.heap.size := hH.1
  have hS : va_S (th_A b0) s.heap s.heap [] := va_S.rf
  have hF : fr [4] E σ σ := fr.rf
  have inX4 : ∀ w ∈ wsX40, w ∈ wsX4_addStep := by decide +kernel
  have fl0 := hts (.fieldLink RX4 43 "NestQuery$Path" "stepCount" "I") (by decide +kernel)
  have fl1 := hts (.fieldLink RX4 9 "NestQuery$Path" "stepKinds" "[I") (by decide +kernel)
  have fl2 := hts (.fieldLink RX4 15 "NestQuery$Path" "stepFirsts" "[I") (by decide +kernel)
  have fl3 := hts (.fieldLink RX4 18 "NestQuery$Path" "stepSeconds" "[I") (by decide +kernel)
  have hl := lv_entry ([.ref a, .int (I w1), .int (I w2), .int (I w3)]) (n := 4) (Nat.le_of_ble_eq_true rfl)
  rw [lg_entry_eq]
  generalize (lg_sl ([.ref a, .int (I w1), .int (I w2), .int (I w3)]) ++ List.replicate (4 - (lg_sl ([.ref a, .int (I w1), .int (I w2), .int (I w3)])).length) Slot.unset).toArray = ls at hl ⊢
  have hl : lv_has ls 4 [(0, .ref a), (1, .int (I w1)), (2, .int (I w2)), (3, .int (I w3))] := hl
  refine lv_aload_n hx hb dX4_addStep_0 rfl (lv_at hl 0 rfl) ?_
  refine ok.getI hO h_a (by decide) k4_3 (fun _ _ he hv kk => th_get (ci := 4) (C := RX4) (T := TX4) (N := 14) hx hb hts inX4 hown hK hH he rfl 3 (by decide) fl0 hv dX4_addStep_1 kk) (fun z_1 e_2 rz_1 lz_1 uz_1 => ?_)
  refine lv_if_lt (tgt := 56) hx hb dX4_addStep_4 (by decide) (fun c_3 => ?_) (fun c_3 => ?_)
  · replace c_3 := (I_lt (a := z_1) (b := 0) rz_1 (show rng 0 from ⟨by decide, by decide⟩)).mp c_3
    exact th_vret hx hb hr hlocks hH hS ⟨hO, hF, trivial⟩ dX4_addStep_56
  · replace c_3 := mt (I_lt (a := z_1) (b := 0) rz_1 (show rng 0 from ⟨by decide, by decide⟩)).mpr c_3
    refine lv_aload_n hx hb dX4_addStep_7 rfl (lv_at hl 0 rfl) ?_
    refine ok.getIc hO h_a (by decide) k4_3 e_2 (fun _ _ he hv kk => th_get (ci := 4) (C := RX4) (T := TX4) (N := 14) hx hb hts inX4 hown hK hH he rfl 3 (by decide) fl0 hv dX4_addStep_8 kk) ?_
    refine lv_bipush (v := I 8) hx hb dX4_addStep_11 (by decide) ?_
    refine lv_icmp_ge (tgt := 56) hx hb dX4_addStep_13 (by decide) (fun c_4 => ?_) (fun c_4 => ?_)
    · replace c_4 := (I_le (a := 8) (b := z_1) (show rng 8 from ⟨by decide, by decide⟩) rz_1).mp c_4
      exact th_vret hx hb hr hlocks hH hS ⟨hO, hF, trivial⟩ dX4_addStep_56
    · replace c_4 := mt (I_le (a := 8) (b := z_1) (show rng 8 from ⟨by decide, by decide⟩) rz_1).mpr c_4
      refine lv_aload_n hx hb dX4_addStep_16 rfl (lv_at hl 0 rfl) ?_
      refine ok.getR hO h_a (by decide) k4_0 (by decide) (fun _ _ he hv kk => th_get (ci := 4) (C := RX4) (T := TX4) (N := 14) hx hb hts inX4 hown hK hH he rfl 0 (by decide) fl1 hv dX4_addStep_17 kk) ?_
      refine lv_aload_n hx hb dX4_addStep_20 rfl (lv_at hl 0 rfl) ?_
      refine ok.getIc hO h_a (by decide) k4_3 e_2 (fun _ _ he hv kk => th_get (ci := 4) (C := RX4) (T := TX4) (N := 14) hx hb hts inX4 hown hK hH he rfl 3 (by decide) fl0 hv dX4_addStep_21 kk) ?_
      refine lv_iload_n hx hb dX4_addStep_24 rfl (lv_at hl 1 rfl) ?_
      refine ok_iast hx hb hK hH hS h00 hO h_a (by decide) k4_0 isA1 rz_1 (by omega) (by omega) rw1 el1 dX4_addStep_25 (fun σ_s_5 H locs hO hF9 hi9 ha9 hH hS => ?_)
      replace hF := hF.tu hF9 (by decide)
      have e_6 : gI σ_s_5 a 3 = z_1 := (hi9 _ _).trans e_2
      refine lv_aload_n hx hb dX4_addStep_26 rfl (lv_at hl 0 rfl) ?_
      refine ok.getR hO h_a (by decide) k4_1 (by decide) (fun _ _ he hv kk => th_get (ci := 4) (C := RX4) (T := TX4) (N := 14) hx hb hts inX4 hown hK hH he rfl 1 (by decide) fl2 hv dX4_addStep_27 kk) ?_
      refine lv_aload_n hx hb dX4_addStep_30 rfl (lv_at hl 0 rfl) ?_
      refine ok.getIc hO h_a (by decide) k4_3 e_6 (fun _ _ he hv kk => th_get (ci := 4) (C := RX4) (T := TX4) (N := 14) hx hb hts inX4 hown hK hH he rfl 3 (by decide) fl0 hv dX4_addStep_31 kk) ?_
      refine lv_iload_n hx hb dX4_addStep_34 rfl (lv_at hl 2 rfl) ?_
      refine ok_iast hx hb hK hH hS h00 hO h_a (by decide) k4_1 isA1 rz_1 (by omega) (by omega) rw2 el1 dX4_addStep_35 (fun σ_s_7 H locs hO hF9 hi9 ha9 hH hS => ?_)
      replace hF := hF.tu hF9 (by decide)
      have e_8 : gI σ_s_7 a 3 = z_1 := (hi9 _ _).trans e_6
      refine lv_aload_n hx hb dX4_addStep_36 rfl (lv_at hl 0 rfl) ?_
      refine ok.getR hO h_a (by decide) k4_2 (by decide) (fun _ _ he hv kk => th_get (ci := 4) (C := RX4) (T := TX4) (N := 14) hx hb hts inX4 hown hK hH he rfl 2 (by decide) fl3 hv dX4_addStep_37 kk) ?_
      refine lv_aload_n hx hb dX4_addStep_40 rfl (lv_at hl 0 rfl) ?_
      refine ok.getIc hO h_a (by decide) k4_3 e_8 (fun _ _ he hv kk => th_get (ci := 4) (C := RX4) (T := TX4) (N := 14) hx hb hts inX4 hown hK hH he rfl 3 (by decide) fl0 hv dX4_addStep_41 kk) ?_
      refine lv_iload_n hx hb dX4_addStep_44 rfl (lv_at hl 3 rfl) ?_
      refine ok_iast hx hb hK hH hS h00 hO h_a (by decide) k4_2 isA1 rz_1 (by omega) (by omega) rw3 el1 dX4_addStep_45 (fun σ_s_9 H locs hO hF9 hi9 ha9 hH hS => ?_)
      replace hF := hF.tu hF9 (by decide)
      have e_10 : gI σ_s_9 a 3 = z_1 := (hi9 _ _).trans e_8
      refine lv_aload_n hx hb dX4_addStep_46 rfl (lv_at hl 0 rfl) ?_
      refine lv_dup hx hb dX4_addStep_47 rfl ?_
      refine ok.getIc hO h_a (by decide) k4_3 e_10 (fun _ _ he hv kk => th_get (ci := 4) (C := RX4) (T := TX4) (N := 14) hx hb hts inX4 hown hK hH he rfl 3 (by decide) fl0 hv dX4_addStep_48 kk) ?_
      refine lv_iconst (v := I 1) hx hb dX4_addStep_51 (by decide) ?_
      refine lv_iadd hx hb dX4_addStep_52 ?_
      refine nq_top (I_add _ _) ?_
      refine ok.putI hO h_a (by decide) k4_3 ⟨by omega, by omega⟩ (by omega) (by omega) (fun _ he hl9 kk => th_put (ci := 4) (v := .int (I (z_1 + 1))) (ty := .int) (C := RX4) (T := TX4) (N := 14) hx hb hts inX4 tyX4 tyX4_ok nmX4 hown hK hH hS h00 he rfl 3 (by decide) fl0 rfl (by decide +kernel) rfl rfl hl9 dX4_addStep_53 kk) (fun σ_s_11 H locs hO hF9 hg9 hi9 ha9 hH hS => ?_)
      replace hF := hF.tu hF9 (by decide)
      have e_12 := hg9
      exact th_vret hx hb hr hlocks hH hS ⟨hO, hF, trivial⟩ dX4_addStep_56

set_option maxHeartbeats 1000000 in
set_option maxRecDepth 100000 in
theorem p_addCode (l : Launch) (G : va_G) (y : Nat → ClassId) (b0 : Nat) (σ : th_M) (E : th_E) (hO : ok y E σ) (a : Nat) (h_a : kd E a = 4) (w1 : Int) (rw1 : rng w1) : Met l yX4_addCode wsX4_addCode ({ frames := 0, cells := 0, slots := 0, locals := 0 }) (th_P G y b0 σ [.ref a, .int (I w1)]) (th_Qv G b0 (fun σ1 => ok y E σ1 ∧ fr [4] E σ σ1 ∧ (gI σ1 a 13 = gI σ a 13))) 0 0 (th_A b0) := by
  refine Met.ofW (cc := cX4_addCode) (maxL := 2) (ret := none) (by decide) rfl ?_
  intro p e s m args below meth c s₁ B hml hv
  obtain ⟨rfl, hH, hK⟩ := hv
  have hx := B.exec
  have hb := B.bytes
  have hr := B.returns
  have hts := atoms_spec (ws := wsX4_addCode) B.pre
  have hown : s.vm.findClass RX4 = some m.cls := findClass_of_methodNamed B.named
  have hlocks := B.notSynchronized
  have h00 : b0 ≤ s.heap.size := hH.1
  have hS : va_S (th_A b0) s.heap s.heap [] := va_S.rf
  have hF : fr [4] E σ σ := fr.rf
  have inX4 : ∀ w ∈ wsX40, w ∈ wsX4_addCode := by decide +kernel
  have fl0 := hts (.fieldLink RX4 47 "NestQuery$Path" "codeCount" "I") (by decide +kernel)
  have fl1 := hts (.fieldLink RX4 21 "NestQuery$Path" "code" "[I") (by decide +kernel)
  have hl := lv_entry ([.ref a, .int (I w1)]) (n := 2) (Nat.le_of_ble_eq_true rfl)
  rw [lg_entry_eq]
  generalize (lg_sl ([.ref a, .int (I w1)]) ++ List.replicate (2 - (lg_sl ([.ref a, .int (I w1)])).length) Slot.unset).toArray = ls at hl ⊢
  have hl : lv_has ls 2 [(0, .ref a), (1, .int (I w1))] := hl
  obtain ⟨a130, ea130, ra130, la130, ua130⟩ := hO.gi h_a (by decide) k4_13
  refine lv_aload_n hx hb dX4_addCode_0 rfl (lv_at hl 0 rfl) ?_
  refine ok.getI hO h_a (by decide) k4_5 (fun _ _ he hv kk => th_get (ci := 4) (C := RX4) (T := TX4) (N := 14) hx hb hts inX4 hown hK hH he rfl 5 (by decide) fl0 hv dX4_addCode_1 kk) (fun z_1 e_2 rz_1 lz_1 uz_1 => ?_)
  refine lv_if_lt (tgt := 37) hx hb dX4_addCode_4 (by decide) (fun c_3 => ?_) (fun c_3 => ?_)
  · replace c_3 := (I_lt (a := z_1) (b := 0) rz_1 (show rng 0 from ⟨by decide, by decide⟩)).mp c_3
    exact th_vret hx hb hr hlocks hH hS ⟨hO, hF, by omega⟩ dX4_addCode_37
  · replace c_3 := mt (I_lt (a := z_1) (b := 0) rz_1 (show rng 0 from ⟨by decide, by decide⟩)).mpr c_3
    refine lv_aload_n hx hb dX4_addCode_7 rfl (lv_at hl 0 rfl) ?_
    refine ok.getIc hO h_a (by decide) k4_5 e_2 (fun _ _ he hv kk => th_get (ci := 4) (C := RX4) (T := TX4) (N := 14) hx hb hts inX4 hown hK hH he rfl 5 (by decide) fl0 hv dX4_addCode_8 kk) ?_
    refine lv_sipush (v := I 128) hx hb dX4_addCode_11 (by decide) ?_
    refine lv_icmp_ge (tgt := 37) hx hb dX4_addCode_14 (by decide) (fun c_4 => ?_) (fun c_4 => ?_)
    · replace c_4 := (I_le (a := 128) (b := z_1) (show rng 128 from ⟨by decide, by decide⟩) rz_1).mp c_4
      exact th_vret hx hb hr hlocks hH hS ⟨hO, hF, by omega⟩ dX4_addCode_37
    · replace c_4 := mt (I_le (a := 128) (b := z_1) (show rng 128 from ⟨by decide, by decide⟩) rz_1).mpr c_4
      refine lv_aload_n hx hb dX4_addCode_17 rfl (lv_at hl 0 rfl) ?_
      refine ok.getR hO h_a (by decide) k4_4 (by decide) (fun _ _ he hv kk => th_get (ci := 4) (C := RX4) (T := TX4) (N := 14) hx hb hts inX4 hown hK hH he rfl 4 (by decide) fl1 hv dX4_addCode_18 kk) ?_
      refine lv_aload_n hx hb dX4_addCode_21 rfl (lv_at hl 0 rfl) ?_
      refine ok.getIc hO h_a (by decide) k4_5 e_2 (fun _ _ he hv kk => th_get (ci := 4) (C := RX4) (T := TX4) (N := 14) hx hb hts inX4 hown hK hH he rfl 5 (by decide) fl0 hv dX4_addCode_22 kk) ?_
      refine lv_iload_n hx hb dX4_addCode_25 rfl (lv_at hl 1 rfl) ?_
      refine ok_iast hx hb hK hH hS h00 hO h_a (by decide) k4_4 isA1 rz_1 (by omega) (by omega) rw1 el1 dX4_addCode_26 (fun σ_s_5 H locs hO hF9 hi9 ha9 hH hS => ?_)
      replace hF := hF.tu hF9 (by decide)
      have e_6 : gI σ_s_5 a 13 = a130 := (hi9 _ _).trans ea130
      have e_7 : gI σ_s_5 a 5 = z_1 := (hi9 _ _).trans e_2
      refine lv_aload_n hx hb dX4_addCode_27 rfl (lv_at hl 0 rfl) ?_
      refine lv_dup hx hb dX4_addCode_28 rfl ?_
      refine ok.getIc hO h_a (by decide) k4_5 e_7 (fun _ _ he hv kk => th_get (ci := 4) (C := RX4) (T := TX4) (N := 14) hx hb hts inX4 hown hK hH he rfl 5 (by decide) fl0 hv dX4_addCode_29 kk) ?_
      refine lv_iconst (v := I 1) hx hb dX4_addCode_32 (by decide) ?_
      refine lv_iadd hx hb dX4_addCode_33 ?_
      refine nq_top (I_add _ _) ?_
      refine ok.putI hO h_a (by decide) k4_5 ⟨by omega, by omega⟩ (by omega) (by omega) (fun _ he hl9 kk => th_put (ci := 4) (v := .int (I (z_1 + 1))) (ty := .int) (C := RX4) (T := TX4) (N := 14) hx hb hts inX4 tyX4 tyX4_ok nmX4 hown hK hH hS h00 he rfl 5 (by decide) fl0 rfl (by decide +kernel) rfl rfl hl9 dX4_addCode_34 kk) (fun σ_s_8 H locs hO hF9 hg9 hi9 ha9 hH hS => ?_)
      replace hF := hF.tu hF9 (by decide)
      have e_9 : gI σ_s_8 a 13 = a130 := (hi9 _ _ (Or.inr (by decide))).trans e_6
      have e_10 := hg9
      exact th_vret hx hb hr hlocks hH hS ⟨hO, hF, by omega⟩ dX4_addCode_37

set_option maxHeartbeats 1000000 in
set_option maxRecDepth 100000 in
theorem p_addLittle (l : Launch) (G : va_G) (y : Nat → ClassId) (b0 : Nat) (σ : th_M) (E : th_E) (hO : ok y E σ) (a : Nat) (h_a : kd E a = 4) (w1 : Int) (rw1 : rng w1) (l_w1 : 0 ≤ w1) (u_w1 : w1 ≤ 1) (w2 : Int) (rw2 : rng w2) : Met l yX4_addLittle wsX4_addLittle ({ frames := 0, cells := 0, slots := 0, locals := 0 }) (th_P G y b0 σ [.ref a, .int (I w1), .int (I w2)]) (th_Qv G b0 (fun σ1 => ok y E σ1 ∧ fr [4] E σ σ1 ∧ (True))) 0 0 (th_A b0) := by
  refine Met.ofW (cc := cX4_addLittle) (maxL := 3) (ret := none) (by decide) rfl ?_
  intro p e s m args below meth c s₁ B hml hv
  obtain ⟨rfl, hH, hK⟩ := hv
  have hx := B.exec
  have hb := B.bytes
  have hr := B.returns
  have hts := atoms_spec (ws := wsX4_addLittle) B.pre
  have hown : s.vm.findClass RX4 = some m.cls := findClass_of_methodNamed B.named
  have hlocks := B.notSynchronized
  have h00 : b0 ≤ s.heap.size := hH.1
  have hS : va_S (th_A b0) s.heap s.heap [] := va_S.rf
  have hF : fr [4] E σ σ := fr.rf
  have inX4 : ∀ w ∈ wsX40, w ∈ wsX4_addLittle := by decide +kernel
  have fl0 := hts (.fieldLink RX4 50 "NestQuery$Path" "littleCount" "I") (by decide +kernel)
  have fl1 := hts (.fieldLink RX4 24 "NestQuery$Path" "littleByKey" "[Z") (by decide +kernel)
  have fl2 := hts (.fieldLink RX4 28 "NestQuery$Path" "littleValues" "[I") (by decide +kernel)
  have hl := lv_entry ([.ref a, .int (I w1), .int (I w2)]) (n := 3) (Nat.le_of_ble_eq_true rfl)
  rw [lg_entry_eq]
  generalize (lg_sl ([.ref a, .int (I w1), .int (I w2)]) ++ List.replicate (3 - (lg_sl ([.ref a, .int (I w1), .int (I w2)])).length) Slot.unset).toArray = ls at hl ⊢
  have hl : lv_has ls 3 [(0, .ref a), (1, .int (I w1)), (2, .int (I w2))] := hl
  refine lv_aload_n hx hb dX4_addLittle_0 rfl (lv_at hl 0 rfl) ?_
  refine ok.getI hO h_a (by decide) k4_8 (fun _ _ he hv kk => th_get (ci := 4) (C := RX4) (T := TX4) (N := 14) hx hb hts inX4 hown hK hH he rfl 8 (by decide) fl0 hv dX4_addLittle_1 kk) (fun z_1 e_2 rz_1 lz_1 uz_1 => ?_)
  refine lv_if_lt (tgt := 47) hx hb dX4_addLittle_4 (by decide) (fun c_3 => ?_) (fun c_3 => ?_)
  · replace c_3 := (I_lt (a := z_1) (b := 0) rz_1 (show rng 0 from ⟨by decide, by decide⟩)).mp c_3
    exact th_vret hx hb hr hlocks hH hS ⟨hO, hF, trivial⟩ dX4_addLittle_47
  · replace c_3 := mt (I_lt (a := z_1) (b := 0) rz_1 (show rng 0 from ⟨by decide, by decide⟩)).mpr c_3
    refine lv_aload_n hx hb dX4_addLittle_7 rfl (lv_at hl 0 rfl) ?_
    refine ok.getIc hO h_a (by decide) k4_8 e_2 (fun _ _ he hv kk => th_get (ci := 4) (C := RX4) (T := TX4) (N := 14) hx hb hts inX4 hown hK hH he rfl 8 (by decide) fl0 hv dX4_addLittle_8 kk) ?_
    refine lv_sipush (v := I 200) hx hb dX4_addLittle_11 (by decide) ?_
    refine lv_icmp_ge (tgt := 47) hx hb dX4_addLittle_14 (by decide) (fun c_4 => ?_) (fun c_4 => ?_)
    · replace c_4 := (I_le (a := 200) (b := z_1) (show rng 200 from ⟨by decide, by decide⟩) rz_1).mp c_4
      exact th_vret hx hb hr hlocks hH hS ⟨hO, hF, trivial⟩ dX4_addLittle_47
    · replace c_4 := mt (I_le (a := 200) (b := z_1) (show rng 200 from ⟨by decide, by decide⟩) rz_1).mpr c_4
      refine lv_aload_n hx hb dX4_addLittle_17 rfl (lv_at hl 0 rfl) ?_
      refine ok.getR hO h_a (by decide) k4_6 (by decide) (fun _ _ he hv kk => th_get (ci := 4) (C := RX4) (T := TX4) (N := 14) hx hb hts inX4 hown hK hH he rfl 6 (by decide) fl1 hv dX4_addLittle_18 kk) ?_
      refine lv_aload_n hx hb dX4_addLittle_21 rfl (lv_at hl 0 rfl) ?_
      refine ok.getIc hO h_a (by decide) k4_8 e_2 (fun _ _ he hv kk => th_get (ci := 4) (C := RX4) (T := TX4) (N := 14) hx hb hts inX4 hown hK hH he rfl 8 (by decide) fl0 hv dX4_addLittle_22 kk) ?_
      refine lv_iload_n hx hb dX4_addLittle_25 rfl (lv_at hl 1 rfl) ?_
      refine ok_zast hx hb hK hH hS h00 hO h_a (by decide) k4_6 rz_1 (by omega) (by omega) (by omega) dX4_addLittle_26 (fun σ_s_5 H locs hO hF9 hi9 ha9 hH hS => ?_)
      replace hF := hF.tu hF9 (by decide)
      have e_6 : gI σ_s_5 a 8 = z_1 := (hi9 _ _).trans e_2
      refine lv_aload_n hx hb dX4_addLittle_27 rfl (lv_at hl 0 rfl) ?_
      refine ok.getR hO h_a (by decide) k4_7 (by decide) (fun _ _ he hv kk => th_get (ci := 4) (C := RX4) (T := TX4) (N := 14) hx hb hts inX4 hown hK hH he rfl 7 (by decide) fl2 hv dX4_addLittle_28 kk) ?_
      refine lv_aload_n hx hb dX4_addLittle_31 rfl (lv_at hl 0 rfl) ?_
      refine ok.getIc hO h_a (by decide) k4_8 e_6 (fun _ _ he hv kk => th_get (ci := 4) (C := RX4) (T := TX4) (N := 14) hx hb hts inX4 hown hK hH he rfl 8 (by decide) fl0 hv dX4_addLittle_32 kk) ?_
      refine lv_iload_n hx hb dX4_addLittle_35 rfl (lv_at hl 2 rfl) ?_
      refine ok_iast hx hb hK hH hS h00 hO h_a (by decide) k4_7 isA1 rz_1 (by omega) (by omega) rw2 el1 dX4_addLittle_36 (fun σ_s_7 H locs hO hF9 hi9 ha9 hH hS => ?_)
      replace hF := hF.tu hF9 (by decide)
      have e_8 : gI σ_s_7 a 8 = z_1 := (hi9 _ _).trans e_6
      refine lv_aload_n hx hb dX4_addLittle_37 rfl (lv_at hl 0 rfl) ?_
      refine lv_dup hx hb dX4_addLittle_38 rfl ?_
      refine ok.getIc hO h_a (by decide) k4_8 e_8 (fun _ _ he hv kk => th_get (ci := 4) (C := RX4) (T := TX4) (N := 14) hx hb hts inX4 hown hK hH he rfl 8 (by decide) fl0 hv dX4_addLittle_39 kk) ?_
      refine lv_iconst (v := I 1) hx hb dX4_addLittle_42 (by decide) ?_
      refine lv_iadd hx hb dX4_addLittle_43 ?_
      refine nq_top (I_add _ _) ?_
      refine ok.putI hO h_a (by decide) k4_8 ⟨by omega, by omega⟩ (by omega) (by omega) (fun _ he hl9 kk => th_put (ci := 4) (v := .int (I (z_1 + 1))) (ty := .int) (C := RX4) (T := TX4) (N := 14) hx hb hts inX4 tyX4 tyX4_ok nmX4 hown hK hH hS h00 he rfl 8 (by decide) fl0 rfl (by decide +kernel) rfl rfl hl9 dX4_addLittle_44 kk) (fun σ_s_9 H locs hO hF9 hg9 hi9 ha9 hH hS => ?_)
      replace hF := hF.tu hF9 (by decide)
      have e_10 := hg9
      exact th_vret hx hb hr hlocks hH hS ⟨hO, hF, trivial⟩ dX4_addLittle_47

set_option maxHeartbeats 1000000 in
set_option maxRecDepth 100000 in
theorem p_addTest (l : Launch) (G : va_G) (y : Nat → ClassId) (b0 : Nat) (σ : th_M) (E : th_E) (hO : ok y E σ) (a : Nat) (h_a : kd E a = 4) (w1 : Int) (rw1 : rng w1) (w2 : Int) (rw2 : rng w2) (w3 : Int) (rw3 : rng w3) : Met l yX4_addTest wsX4_addTest ({ frames := 1, cells := 0, slots := 0, locals := 25 }) (th_P G y b0 σ [.ref a, .int (I w1), .int (I w2), .int (I w3)]) (th_Qv G b0 (fun σ1 => ok y E σ1 ∧ fr [4] E σ σ1 ∧ (True))) 0 0 (th_A b0) := by
  refine Met.ofW (cc := cX4_addTest) (maxL := 4) (ret := none) (by decide) rfl ?_
  intro p e s m args below meth c s₁ B hml hv
  obtain ⟨rfl, hH, hK⟩ := hv
  have hx := B.exec
  have hb := B.bytes
  have hr := B.returns
  have hts := atoms_spec (ws := wsX4_addTest) B.pre
  have hown : s.vm.findClass RX4 = some m.cls := findClass_of_methodNamed B.named
  have hlocks := B.notSynchronized
  have h00 : b0 ≤ s.heap.size := hH.1
  have hS : va_S (th_A b0) s.heap s.heap [] := va_S.rf
  have hF : fr [4] E σ σ := fr.rf
  have inX4 : ∀ w ∈ wsX40, w ∈ wsX4_addTest := by decide +kernel
  have fl0 := hts (.fieldLink RX4 53 "NestQuery$Path" "testCount" "I") (by decide +kernel)
  have fl1 := hts (.fieldLink RX4 31 "NestQuery$Path" "testEnds" "[I") (by decide +kernel)
  have fl2 := hts (.fieldLink RX4 50 "NestQuery$Path" "littleCount" "I") (by decide +kernel)
  have fl3 := hts (.fieldLink RX4 34 "NestQuery$Path" "testSigns" "[I") (by decide +kernel)
  have fl4 := hts (.fieldLink RX4 37 "NestQuery$Path" "testKinds" "[I") (by decide +kernel)
  have fl5 := hts (.fieldLink RX4 40 "NestQuery$Path" "testValues" "[I") (by decide +kernel)
  have hl := lv_entry ([.ref a, .int (I w1), .int (I w2), .int (I w3)]) (n := 4) (Nat.le_of_ble_eq_true rfl)
  rw [lg_entry_eq]
  generalize (lg_sl ([.ref a, .int (I w1), .int (I w2), .int (I w3)]) ++ List.replicate (4 - (lg_sl ([.ref a, .int (I w1), .int (I w2), .int (I w3)])).length) Slot.unset).toArray = ls at hl ⊢
  have hl : lv_has ls 4 [(0, .ref a), (1, .int (I w1)), (2, .int (I w2)), (3, .int (I w3))] := hl
  refine lv_aload_n hx hb dX4_addTest_0 rfl (lv_at hl 0 rfl) ?_
  refine ok.getI hO h_a (by decide) k4_13 (fun _ _ he hv kk => th_get (ci := 4) (C := RX4) (T := TX4) (N := 14) hx hb hts inX4 hown hK hH he rfl 13 (by decide) fl0 hv dX4_addTest_1 kk) (fun z_1 e_2 rz_1 lz_1 uz_1 => ?_)
  refine lv_if_lt (tgt := 77) hx hb dX4_addTest_4 (by decide) (fun c_3 => ?_) (fun c_3 => ?_)
  · replace c_3 := (I_lt (a := z_1) (b := 0) rz_1 (show rng 0 from ⟨by decide, by decide⟩)).mp c_3
    exact th_vret hx hb hr hlocks hH hS ⟨hO, hF, trivial⟩ dX4_addTest_77
  · replace c_3 := mt (I_lt (a := z_1) (b := 0) rz_1 (show rng 0 from ⟨by decide, by decide⟩)).mpr c_3
    refine lv_aload_n hx hb dX4_addTest_7 rfl (lv_at hl 0 rfl) ?_
    refine ok.getIc hO h_a (by decide) k4_13 e_2 (fun _ _ he hv kk => th_get (ci := 4) (C := RX4) (T := TX4) (N := 14) hx hb hts inX4 hown hK hH he rfl 13 (by decide) fl0 hv dX4_addTest_8 kk) ?_
    refine lv_bipush (v := I 12) hx hb dX4_addTest_11 (by decide) ?_
    refine lv_icmp_ge (tgt := 77) hx hb dX4_addTest_13 (by decide) (fun c_4 => ?_) (fun c_4 => ?_)
    · replace c_4 := (I_le (a := 12) (b := z_1) (show rng 12 from ⟨by decide, by decide⟩) rz_1).mp c_4
      exact th_vret hx hb hr hlocks hH hS ⟨hO, hF, trivial⟩ dX4_addTest_77
    · replace c_4 := mt (I_le (a := 12) (b := z_1) (show rng 12 from ⟨by decide, by decide⟩) rz_1).mpr c_4
      refine lv_aload_n hx hb dX4_addTest_16 rfl (lv_at hl 0 rfl) ?_
      refine ok.getR hO h_a (by decide) k4_9 (by decide) (fun _ _ he hv kk => th_get (ci := 4) (C := RX4) (T := TX4) (N := 14) hx hb hts inX4 hown hK hH he rfl 9 (by decide) fl1 hv dX4_addTest_17 kk) ?_
      refine lv_aload_n hx hb dX4_addTest_20 rfl (lv_at hl 0 rfl) ?_
      refine ok.getIc hO h_a (by decide) k4_13 e_2 (fun _ _ he hv kk => th_get (ci := 4) (C := RX4) (T := TX4) (N := 14) hx hb hts inX4 hown hK hH he rfl 13 (by decide) fl0 hv dX4_addTest_21 kk) ?_
      refine lv_aload_n hx hb dX4_addTest_24 rfl (lv_at hl 0 rfl) ?_
      refine ok.getI hO h_a (by decide) k4_8 (fun _ _ he hv kk => th_get (ci := 4) (C := RX4) (T := TX4) (N := 14) hx hb hts inX4 hown hK hH he rfl 8 (by decide) fl2 hv dX4_addTest_25 kk) (fun z_5 e_6 rz_5 lz_5 uz_5 => ?_)
      refine ok_iast hx hb hK hH hS h00 hO h_a (by decide) k4_9 isA1 rz_1 (by omega) (by omega) rz_5 el1 dX4_addTest_28 (fun σ_s_7 H locs hO hF9 hi9 ha9 hH hS => ?_)
      replace hF := hF.tu hF9 (by decide)
      have e_8 : gI σ_s_7 a 13 = z_1 := (hi9 _ _).trans e_2
      have e_9 : gI σ_s_7 a 8 = z_5 := (hi9 _ _).trans e_6
      refine lv_aload_n hx hb dX4_addTest_29 rfl (lv_at hl 0 rfl) ?_
      refine ok.getR hO h_a (by decide) k4_10 (by decide) (fun _ _ he hv kk => th_get (ci := 4) (C := RX4) (T := TX4) (N := 14) hx hb hts inX4 hown hK hH he rfl 10 (by decide) fl3 hv dX4_addTest_30 kk) ?_
      refine lv_aload_n hx hb dX4_addTest_33 rfl (lv_at hl 0 rfl) ?_
      refine ok.getIc hO h_a (by decide) k4_13 e_8 (fun _ _ he hv kk => th_get (ci := 4) (C := RX4) (T := TX4) (N := 14) hx hb hts inX4 hown hK hH he rfl 13 (by decide) fl0 hv dX4_addTest_34 kk) ?_
      refine lv_iload_n hx hb dX4_addTest_37 rfl (lv_at hl 1 rfl) ?_
      refine ok_iast hx hb hK hH hS h00 hO h_a (by decide) k4_10 isA1 rz_1 (by omega) (by omega) rw1 el1 dX4_addTest_38 (fun σ_s_10 H locs hO hF9 hi9 ha9 hH hS => ?_)
      replace hF := hF.tu hF9 (by decide)
      have e_11 : gI σ_s_10 a 13 = z_1 := (hi9 _ _).trans e_8
      have e_12 : gI σ_s_10 a 8 = z_5 := (hi9 _ _).trans e_9
      refine lv_aload_n hx hb dX4_addTest_39 rfl (lv_at hl 0 rfl) ?_
      refine ok.getR hO h_a (by decide) k4_11 (by decide) (fun _ _ he hv kk => th_get (ci := 4) (C := RX4) (T := TX4) (N := 14) hx hb hts inX4 hown hK hH he rfl 11 (by decide) fl4 hv dX4_addTest_40 kk) ?_
      refine lv_aload_n hx hb dX4_addTest_43 rfl (lv_at hl 0 rfl) ?_
      refine ok.getIc hO h_a (by decide) k4_13 e_11 (fun _ _ he hv kk => th_get (ci := 4) (C := RX4) (T := TX4) (N := 14) hx hb hts inX4 hown hK hH he rfl 13 (by decide) fl0 hv dX4_addTest_44 kk) ?_
      refine lv_iload_n hx hb dX4_addTest_47 rfl (lv_at hl 2 rfl) ?_
      refine ok_iast hx hb hK hH hS h00 hO h_a (by decide) k4_11 isA1 rz_1 (by omega) (by omega) rw2 el1 dX4_addTest_48 (fun σ_s_13 H locs hO hF9 hi9 ha9 hH hS => ?_)
      replace hF := hF.tu hF9 (by decide)
      have e_14 : gI σ_s_13 a 13 = z_1 := (hi9 _ _).trans e_11
      have e_15 : gI σ_s_13 a 8 = z_5 := (hi9 _ _).trans e_12
      refine lv_aload_n hx hb dX4_addTest_49 rfl (lv_at hl 0 rfl) ?_
      refine ok.getR hO h_a (by decide) k4_12 (by decide) (fun _ _ he hv kk => th_get (ci := 4) (C := RX4) (T := TX4) (N := 14) hx hb hts inX4 hown hK hH he rfl 12 (by decide) fl5 hv dX4_addTest_50 kk) ?_
      refine lv_aload_n hx hb dX4_addTest_53 rfl (lv_at hl 0 rfl) ?_
      refine ok.getIc hO h_a (by decide) k4_13 e_14 (fun _ _ he hv kk => th_get (ci := 4) (C := RX4) (T := TX4) (N := 14) hx hb hts inX4 hown hK hH he rfl 13 (by decide) fl0 hv dX4_addTest_54 kk) ?_
      refine lv_iload_n hx hb dX4_addTest_57 rfl (lv_at hl 3 rfl) ?_
      refine ok_iast hx hb hK hH hS h00 hO h_a (by decide) k4_12 isA1 rz_1 (by omega) (by omega) rw3 el1 dX4_addTest_58 (fun σ_s_16 H locs hO hF9 hi9 ha9 hH hS => ?_)
      replace hF := hF.tu hF9 (by decide)
      have e_17 : gI σ_s_16 a 13 = z_1 := (hi9 _ _).trans e_14
      have e_18 : gI σ_s_16 a 8 = z_5 := (hi9 _ _).trans e_15
      refine lv_aload_n hx hb dX4_addTest_59 rfl (lv_at hl 0 rfl) ?_
      refine lv_aload_n hx hb dX4_addTest_60 rfl (lv_at hl 0 rfl) ?_
      refine ok.getIc hO h_a (by decide) k4_13 e_17 (fun _ _ he hv kk => th_get (ci := 4) (C := RX4) (T := TX4) (N := 14) hx hb hts inX4 hown hK hH he rfl 13 (by decide) fl0 hv dX4_addTest_61 kk) ?_
      obtain ⟨_, hc_19⟩ := hO.cell h_a (by decide) (ci := 4) rfl
      refine th_callv (va_runV (As := [.int (I z_1)]) (rest := []) ⟨hx, hb, hml, hown, hts⟩ (p_addCode l G y b0 σ_s_16 E hO a h_a z_1 (show rng z_1 from rz_1)) (cwV 1 hts gX4_addTest_X4_addCode rfl rfl rfl (by decide +kernel) ⟨Nat.le_of_ble_eq_true rfl, Nat.le_of_ble_eq_true rfl⟩) (th_PV hK hH rfl hc_19) rfl rfl hl.1 rfl (lv_room (Nat.le_of_ble_eq_true rfl)) dX4_addTest_64 ⟨Nat.le_of_ble_eq_true rfl, Nat.le_of_ble_eq_true rfl⟩) hS (fun σ_s_21 H locs hw_20 hH hS => ?_)
      obtain ⟨hO9, hF9, hw_20⟩ := hw_20
      replace hO := hO9
      replace hF := hF.tu hF9 (by decide)
      have hw_20 : gI σ_s_21 a 13 = gI σ_s_16 a 13 := hw_20
      refine lv_aload_n hx hb dX4_addTest_67 rfl (lv_at hl 0 rfl) ?_
      refine lv_dup hx hb dX4_addTest_68 rfl ?_
      refine ok.getI hO h_a (by decide) k4_13 (fun _ _ he hv kk => th_get (ci := 4) (C := RX4) (T := TX4) (N := 14) hx hb hts inX4 hown hK hH he rfl 13 (by decide) fl0 hv dX4_addTest_69 kk) (fun z_22 e_23 rz_22 lz_22 uz_22 => ?_)
      refine lv_iconst (v := I 1) hx hb dX4_addTest_72 (by decide) ?_
      refine lv_iadd hx hb dX4_addTest_73 ?_
      refine nq_top (I_add _ _) ?_
      refine ok.putI hO h_a (by decide) k4_13 ⟨by omega, by omega⟩ (by omega) (by omega) (fun _ he hl9 kk => th_put (ci := 4) (v := .int (I (z_22 + 1))) (ty := .int) (C := RX4) (T := TX4) (N := 14) hx hb hts inX4 tyX4 tyX4_ok nmX4 hown hK hH hS h00 he rfl 13 (by decide) fl0 rfl (by decide +kernel) rfl rfl hl9 dX4_addTest_74 kk) (fun σ_s_24 H locs hO hF9 hg9 hi9 ha9 hH hS => ?_)
      replace hF := hF.tu hF9 (by decide)
      have e_25 := hg9
      exact th_vret hx hb hr hlocks hH hS ⟨hO, hF, trivial⟩ dX4_addTest_77

set_option maxHeartbeats 1000000 in
set_option maxRecDepth 100000 in
theorem p_allWithin (l : Launch) (G : va_G) (y : Nat → ClassId) (b0 : Nat) (σ : th_M) (E : th_E) (hO : ok y E σ) (b : Nat) (h_b : kd E b = 1) (i : Int) (ri : rng i) (l_i : -1 ≤ i) (u_i : i ≤ 200) : Met l yX4_allWithin wsX4_allWithin ({ frames := 1, cells := 0, slots := 0, locals := 27 }) (th_P G y b0 σ [.ref b, .int (I i)]) (th_Ql G b0 (fun r σ1 => σ1 = σ ∧ (True))) 0 0 (th_A b0) := by
  refine Met.ofW (cc := cX4_allWithin) (maxL := 6) (ret := (some .long)) (by decide) rfl ?_
  intro p e s m args below meth c s₁ B hml hv
  obtain ⟨rfl, hH, hK⟩ := hv
  have hx := B.exec
  have hb := B.bytes
  have hr := B.returns
  have hts := atoms_spec (ws := wsX4_allWithin) B.pre
  have hown : s.vm.findClass RX4 = some m.cls := findClass_of_methodNamed B.named
  have hlocks := B.notSynchronized
  have h00 : b0 ≤ s.heap.size := hH.1
  have hS : va_S (th_A b0) s.heap s.heap [] := va_S.rf
  have fl0 := hts (.initialized RX10) (by decide +kernel)
  have fl1 := hts (.static yX10_bit) (by decide +kernel)
  have hl := lv_entry ([.ref b, .int (I i)]) (n := 6) (Nat.le_of_ble_eq_true rfl)
  rw [lg_entry_eq]
  generalize (lg_sl ([.ref b, .int (I i)]) ++ List.replicate (6 - (lg_sl ([.ref b, .int (I i)])).length) Slot.unset).toArray = ls at hl ⊢
  have hl : lv_has ls 6 [(0, .ref b), (1, .int (I i))] := hl
  refine lv_lconst (v := 0) hx hb dX4_allWithin_0 (by decide) ?_
  refine lv_lstore_n (lv' := [(2, .long 0), (0, .ref b), (1, .int (I i))]) hx hb dX4_allWithin_1 rfl hl (by decide) rfl (fun ls hl => ?_)
  refine lv_aload_n hx hb dX4_allWithin_2 rfl (lv_at hl 1 rfl) ?_
  refine lv_iload_n hx hb dX4_allWithin_3 rfl (lv_at hl 2 rfl) ?_
  obtain ⟨z_1, e_2, rz_1, lz_1, uz_1⟩ := hO.gi h_b (by decide) k1_4
  obtain ⟨_, hc_3⟩ := hO.cell h_b (by decide) (ci := 9) rfl
  refine th_calli (va_runV (As := [.int (I i)]) (rest := []) ⟨hx, hb, hml, hown, hts⟩ (t_end l G y b0 σ b (tvE E σ b 60) i (hO.isT1 h_b) (show rng i from ri)) (cwV 1 hts gX4_allWithin_X9_end rfl rfl rfl (by decide +kernel) ⟨Nat.le_of_ble_eq_true rfl, Nat.le_of_ble_eq_true rfl⟩) (th_PV hK hH rfl hc_3) rfl rfl hl.1 rfl (lv_room (Nat.le_of_ble_eq_true rfl)) dX4_allWithin_4 ⟨Nat.le_of_ble_eq_true rfl, Nat.le_of_ble_eq_true rfl⟩) hS (fun z_6 σ_s_5 H locs rz_6 hw_4 hH hS => ?_)
  obtain ⟨e9, hw_4⟩ := hw_4
  replace e9 := e9.symm
  subst e9
  have hw_4 : ((0 ≤ i ∧ i < (gI σ b 4)) ∧ i ≤ z_6 ∧ z_6 < (gI σ b 4)) ∨ (z_6 = -1 ∧ ¬ (0 ≤ i ∧ i < (gI σ b 4))) := hw_4
  refine lv_istore (lv' := [(4, .int (I z_6)), (2, .long 0), (0, .ref b), (1, .int (I i))]) hx hb dX4_allWithin_7 hl (by decide) rfl (fun ls hl => ?_)
  refine lv_iload_n hx hb dX4_allWithin_9 rfl (lv_at hl 3 rfl) ?_
  refine lv_istore (lv' := [(5, .int (I i)), (4, .int (I z_6)), (2, .long 0), (0, .ref b), (1, .int (I i))]) hx hb dX4_allWithin_10 hl (by decide) rfl (fun ls hl => ?_)
  replace hl : lv_has ls 6 [(5, .int (I i)), (4, .int (I z_6)), (2, .long 0)] := lv_sub hl [0, 1, 2] rfl
  refine th_loop (α := Int64 × Int) (pc := 12) (fun x9 => (300 - x9.2).toNat) (fun x9 σ9 H9 l9 ls9 => σ9 = σ ∧ th_H G b0 σ9 H9 ∧ va_S (th_A b0) s.heap H9 l9 ∧ lv_has ls9 6 [(2, .long x9.1), (4, .int (I z_6)), (5, .int (I x9.2))] ∧ rng x9.2 ∧ (-1 ≤ x9.2) ∧ (x9.2 ≤ 300)) ?_ (0, i) σ _ _ _ ⟨rfl, hH, hS, lv_sub hl [2, 1, 0] rfl, ri, by first | omega | (dsimp only; omega), by first | omega | (dsimp only; omega)⟩
  intro x9 σ_J_14 H locs ls hI9 ihJ_14
  obtain ⟨v2q13, v5q13⟩ := x9
  obtain ⟨eJ_14, hH, hS, hl, rv5q13, J_14_0, J_14_1⟩ := hI9
  replace eJ_14 := eJ_14.symm
  subst eJ_14
  have hl : lv_has ls 6 [(2, .long v2q13), (4, .int (I z_6)), (5, .int (I v5q13))] := hl
  have rv5q13 : rng v5q13 := rv5q13
  have J_14_0 : -1 ≤ v5q13 := J_14_0
  have J_14_1 : v5q13 ≤ 300 := J_14_1
  refine lv_iload hx hb dX4_allWithin_12 (lv_at hl 2 rfl) ?_
  refine lv_iload hx hb dX4_allWithin_14 (lv_at hl 1 rfl) ?_
  refine lv_icmp_gt (tgt := 33) hx hb dX4_allWithin_16 (by decide) (fun c_15 => ?_) (fun c_15 => ?_)
  · replace c_15 := (I_lt (a := z_6) (b := v5q13) rz_6 rv5q13).mp c_15
    refine lv_lload_n hx hb dX4_allWithin_33 rfl (lv_at hl 0 rfl) ?_
    exact th_lret hx hb hr hlocks hH hS (z := v2q13) ⟨rfl, trivial⟩ dX4_allWithin_34
  · replace c_15 := mt (I_lt (a := z_6) (b := v5q13) rz_6 rv5q13).mpr c_15
    refine lv_lload_n hx hb dX4_allWithin_19 rfl (lv_at hl 0 rfl) ?_
    refine lv_iload hx hb dX4_allWithin_20 (lv_at hl 2 rfl) ?_
    refine th_calll (va_runSN (As := [.int (I v5q13)]) (rest := [.long v2q13]) ⟨hx, hb, hml, hown, hts⟩ (n_bit l G y b0 σ E hO v5q13 (show rng v5q13 from rv5q13)) ⟨(va_cnB 1 hts gX4_allWithin_X10_bit_n73 rfl rfl rfl (ml_6 hK) fl0 (by decide +kernel) ⟨Nat.le_of_ble_eq_true rfl, Nat.le_of_ble_eq_true rfl⟩), fl1, trivial⟩ (th_PS hK hH) rfl rfl hl.1 rfl (lv_room (Nat.le_of_ble_eq_true rfl)) dX4_allWithin_22 ⟨Nat.le_of_ble_eq_true rfl, Nat.le_of_ble_eq_true rfl⟩) hS (fun w_18 σ_s_17 H locs hw_16 hH hS => ?_)
    obtain ⟨e9, hw_16⟩ := hw_16
    replace e9 := e9.symm
    subst e9
    refine lv_lor hx hb dX4_allWithin_25 ?_
    refine lv_topl (fun w_19 _ => ?_)
    refine lv_lstore_n (lv' := [(2, .long w_19), (4, .int (I z_6)), (5, .int (I v5q13))]) hx hb dX4_allWithin_26 rfl hl (by decide) rfl (fun ls hl => ?_)
    refine lv_iinc (v := I (v5q13 + 1)) (lv' := [(5, .int (I (v5q13 + 1))), (2, .long w_19), (4, .int (I z_6))]) hx hb dX4_allWithin_27 hl (k := 2) rfl (I_add _ _) (by decide) rfl (fun ls hl => ?_)
    refine lv_goto (tgt := 12) hx hb dX4_allWithin_30 (by decide) ?_
    exact ihJ_14 (w_19, v5q13 + 1) σ _ _ _ (by first | omega | (dsimp only; omega)) ⟨rfl, hH, hS, lv_sub hl [1, 2, 0] rfl, ⟨by first | omega | (dsimp only; omega), by first | omega | (dsimp only; omega)⟩, by first | omega | (dsimp only; omega), by first | omega | (dsimp only; omega)⟩

set_option maxHeartbeats 1000000 in
set_option maxRecDepth 100000 in
theorem p_children (l : Launch) (G : va_G) (y : Nat → ClassId) (b0 : Nat) (σ : th_M) (E : th_E) (hO : ok y E σ) (b : Nat) (h_b : kd E b = 1) (i : Int) (ri : rng i) (l_i : -1 ≤ i) (u_i : i ≤ 200) (w1 : Int) (rw1 : rng w1) (w2 : Int) (rw2 : rng w2) : Met l yX4_children wsX4_children ({ frames := 1, cells := 0, slots := 0, locals := 27 }) (th_P G y b0 σ [.ref b, .int (I i), .int (I w1), .int (I w2)]) (th_Ql G b0 (fun r σ1 => σ1 = σ ∧ (True))) 0 0 (th_A b0) := by
  refine Met.ofW (cc := cX4_children) (maxL := 10) (ret := (some .long)) (by decide) rfl ?_
  intro p e s m args below meth c s₁ B hml hv
  obtain ⟨rfl, hH, hK⟩ := hv
  have hx := B.exec
  have hb := B.bytes
  have hr := B.returns
  have hts := atoms_spec (ws := wsX4_children) B.pre
  have hown : s.vm.findClass RX4 = some m.cls := findClass_of_methodNamed B.named
  have hlocks := B.notSynchronized
  have h00 : b0 ≤ s.heap.size := hH.1
  have hS : va_S (th_A b0) s.heap s.heap [] := va_S.rf
  have fl0 := hts (.initialized RX10) (by decide +kernel)
  have fl1 := hts (.static yX10_bit) (by decide +kernel)
  have hl := lv_entry ([.ref b, .int (I i), .int (I w1), .int (I w2)]) (n := 10) (Nat.le_of_ble_eq_true rfl)
  rw [lg_entry_eq]
  generalize (lg_sl ([.ref b, .int (I i), .int (I w1), .int (I w2)]) ++ List.replicate (10 - (lg_sl ([.ref b, .int (I i), .int (I w1), .int (I w2)])).length) Slot.unset).toArray = ls at hl ⊢
  have hl : lv_has ls 10 [(0, .ref b), (1, .int (I i)), (2, .int (I w1)), (3, .int (I w2))] := hl
  refine lv_lconst (v := 0) hx hb dX4_children_0 (by decide) ?_
  refine lv_lstore (lv' := [(4, .long 0), (0, .ref b), (1, .int (I i)), (2, .int (I w1)), (3, .int (I w2))]) hx hb dX4_children_1 hl (by decide) rfl (fun ls hl => ?_)
  refine lv_aload_n hx hb dX4_children_3 rfl (lv_at hl 1 rfl) ?_
  refine lv_iload_n hx hb dX4_children_4 rfl (lv_at hl 2 rfl) ?_
  obtain ⟨_, hc_1⟩ := hO.cell h_b (by decide) (ci := 9) rfl
  refine th_calli (va_runV (As := [.int (I i)]) (rest := []) ⟨hx, hb, hml, hown, hts⟩ (t1_depthAt l G y b0 σ E hO b h_b i (show rng i from ri)) (cwV 1 hts gX4_children_X9_depthAt rfl rfl rfl (by decide +kernel) ⟨Nat.le_of_ble_eq_true rfl, Nat.le_of_ble_eq_true rfl⟩) (th_PV hK hH rfl hc_1) rfl rfl hl.1 rfl (lv_room (Nat.le_of_ble_eq_true rfl)) dX4_children_5 ⟨Nat.le_of_ble_eq_true rfl, Nat.le_of_ble_eq_true rfl⟩) hS (fun z_4 σ_s_3 H locs rz_4 hw_2 hH hS => ?_)
  obtain ⟨e9, hw_2⟩ := hw_2
  replace e9 := e9.symm
  subst e9
  have hw_2 : z_4 ≤ 7 ∧ ((0 ≤ i ∧ i < gI σ b 4) ∨ (z_4 = -1 ∧ ¬ (0 ≤ i ∧ i < gI σ b 4))) := hw_2
  refine lv_iconst (v := I 1) hx hb dX4_children_8 (by decide) ?_
  refine lv_iadd hx hb dX4_children_9 ?_
  refine th_addo (fun z_5 rz_5 hz_5 => ?_)
  refine lv_istore (lv' := [(6, .int (I z_5)), (4, .long 0), (0, .ref b), (1, .int (I i)), (2, .int (I w1)), (3, .int (I w2))]) hx hb dX4_children_10 hl (by decide) rfl (fun ls hl => ?_)
  refine lv_aload_n hx hb dX4_children_12 rfl (lv_at hl 2 rfl) ?_
  refine lv_iload_n hx hb dX4_children_13 rfl (lv_at hl 3 rfl) ?_
  obtain ⟨z_6, e_7, rz_6, lz_6, uz_6⟩ := hO.gi h_b (by decide) k1_4
  obtain ⟨_, hc_8⟩ := hO.cell h_b (by decide) (ci := 9) rfl
  refine th_calli (va_runV (As := [.int (I i)]) (rest := []) ⟨hx, hb, hml, hown, hts⟩ (t_end l G y b0 σ b (tvE E σ b 60) i (hO.isT1 h_b) (show rng i from ri)) (cwV 1 hts gX4_children_X9_end rfl rfl rfl (by decide +kernel) ⟨Nat.le_of_ble_eq_true rfl, Nat.le_of_ble_eq_true rfl⟩) (th_PV hK hH rfl hc_8) rfl rfl hl.1 rfl (lv_room (Nat.le_of_ble_eq_true rfl)) dX4_children_14 ⟨Nat.le_of_ble_eq_true rfl, Nat.le_of_ble_eq_true rfl⟩) hS (fun z_11 σ_s_10 H locs rz_11 hw_9 hH hS => ?_)
  obtain ⟨e9, hw_9⟩ := hw_9
  replace e9 := e9.symm
  subst e9
  have hw_9 : ((0 ≤ i ∧ i < (gI σ b 4)) ∧ i ≤ z_11 ∧ z_11 < (gI σ b 4)) ∨ (z_11 = -1 ∧ ¬ (0 ≤ i ∧ i < (gI σ b 4))) := hw_9
  refine lv_istore (lv' := [(7, .int (I z_11)), (6, .int (I z_5)), (4, .long 0), (0, .ref b), (1, .int (I i)), (2, .int (I w1)), (3, .int (I w2))]) hx hb dX4_children_17 hl (by decide) rfl (fun ls hl => ?_)
  refine lv_iconst (v := I 0) hx hb dX4_children_19 (by decide) ?_
  refine lv_istore (lv' := [(8, .int (I 0)), (7, .int (I z_11)), (6, .int (I z_5)), (4, .long 0), (0, .ref b), (1, .int (I i)), (2, .int (I w1)), (3, .int (I w2))]) hx hb dX4_children_20 hl (by decide) rfl (fun ls hl => ?_)
  refine lv_iload_n hx hb dX4_children_22 rfl (lv_at hl 5 rfl) ?_
  refine lv_iconst (v := I 1) hx hb dX4_children_23 (by decide) ?_
  refine lv_iadd hx hb dX4_children_24 ?_
  refine nq_top (I_add _ _) ?_
  refine lv_istore (lv' := [(9, .int (I (i + 1))), (8, .int (I 0)), (7, .int (I z_11)), (6, .int (I z_5)), (4, .long 0), (0, .ref b), (1, .int (I i)), (2, .int (I w1)), (3, .int (I w2))]) hx hb dX4_children_25 hl (by decide) rfl (fun ls hl => ?_)
  replace hl : lv_has ls 10 [(9, .int (I (i + 1))), (8, .int (I 0)), (7, .int (I z_11)), (6, .int (I z_5)), (4, .long 0), (0, .ref b), (2, .int (I w1)), (3, .int (I w2))] := lv_sub hl [0, 1, 2, 3, 4, 5, 7, 8] rfl
  refine th_loop (α := Int64 × Int × Int) (pc := 27) (fun x9 => (300 - x9.2.2).toNat) (fun x9 σ9 H9 l9 ls9 => σ9 = σ ∧ th_H G b0 σ9 H9 ∧ va_S (th_A b0) s.heap H9 l9 ∧ lv_has ls9 10 [(0, .ref b), (2, .int (I w1)), (3, .int (I w2)), (4, .long x9.1), (6, .int (I z_5)), (7, .int (I z_11)), (8, .int (I x9.2.1)), (9, .int (I x9.2.2))] ∧ rng x9.2.1 ∧ rng x9.2.2 ∧ (0 ≤ x9.2.1) ∧ (x9.2.1 ≤ 300) ∧ (0 ≤ x9.2.2) ∧ (x9.2.2 ≤ 300) ∧ (x9.2.1 ≤ x9.2.2)) ?_ (0, 0, i + 1) σ _ _ _ ⟨rfl, hH, hS, lv_sub hl [5, 6, 7, 4, 3, 2, 1, 0] rfl, (show rng 0 from ⟨by decide, by decide⟩), ⟨by first | omega | (dsimp only; omega), by first | omega | (dsimp only; omega)⟩, by first | omega | (dsimp only; omega), by first | omega | (dsimp only; omega), by first | omega | (dsimp only; omega), by first | omega | (dsimp only; omega), by first | omega | (dsimp only; omega)⟩
  intro x9 σ_J_26 H locs ls hI9 ihJ_26
  obtain ⟨v4q25, v8q25, v9q25⟩ := x9
  obtain ⟨eJ_26, hH, hS, hl, rv8q25, rv9q25, J_26_0, J_26_1, J_26_2, J_26_3, J_26_4⟩ := hI9
  replace eJ_26 := eJ_26.symm
  subst eJ_26
  have hl : lv_has ls 10 [(0, .ref b), (2, .int (I w1)), (3, .int (I w2)), (4, .long v4q25), (6, .int (I z_5)), (7, .int (I z_11)), (8, .int (I v8q25)), (9, .int (I v9q25))] := hl
  have rv8q25 : rng v8q25 := rv8q25
  have rv9q25 : rng v9q25 := rv9q25
  have J_26_0 : 0 ≤ v8q25 := J_26_0
  have J_26_1 : v8q25 ≤ 300 := J_26_1
  have J_26_2 : 0 ≤ v9q25 := J_26_2
  have J_26_3 : v9q25 ≤ 300 := J_26_3
  have J_26_4 : v8q25 ≤ v9q25 := J_26_4
  refine lv_iload hx hb dX4_children_27 (lv_at hl 7 rfl) ?_
  refine lv_iload hx hb dX4_children_29 (lv_at hl 5 rfl) ?_
  refine lv_icmp_gt (tgt := 76) hx hb dX4_children_31 (by decide) (fun c_27 => ?_) (fun c_27 => ?_)
  · replace c_27 := (I_lt (a := z_11) (b := v9q25) rz_11 rv9q25).mp c_27
    refine lv_lload hx hb dX4_children_76 (lv_at hl 3 rfl) ?_
    exact th_lret hx hb hr hlocks hH hS (z := v4q25) ⟨rfl, trivial⟩ dX4_children_78
  · replace c_27 := mt (I_lt (a := z_11) (b := v9q25) rz_11 rv9q25).mpr c_27
    refine lv_aload_n hx hb dX4_children_34 rfl (lv_at hl 0 rfl) ?_
    refine lv_iload hx hb dX4_children_35 (lv_at hl 7 rfl) ?_
    obtain ⟨_, hc_28⟩ := hO.cell h_b (by decide) (ci := 9) rfl
    refine th_calli (va_runV (As := [.int (I v9q25)]) (rest := []) ⟨hx, hb, hml, hown, hts⟩ (t1_depthAt l G y b0 σ E hO b h_b v9q25 (show rng v9q25 from rv9q25)) (cwV 1 hts gX4_children_X9_depthAt rfl rfl rfl (by decide +kernel) ⟨Nat.le_of_ble_eq_true rfl, Nat.le_of_ble_eq_true rfl⟩) (th_PV hK hH rfl hc_28) rfl rfl hl.1 rfl (lv_room (Nat.le_of_ble_eq_true rfl)) dX4_children_37 ⟨Nat.le_of_ble_eq_true rfl, Nat.le_of_ble_eq_true rfl⟩) hS (fun z_31 σ_s_30 H locs rz_31 hw_29 hH hS => ?_)
    obtain ⟨e9, hw_29⟩ := hw_29
    replace e9 := e9.symm
    subst e9
    have hw_29 : z_31 ≤ 7 ∧ ((0 ≤ v9q25 ∧ v9q25 < gI σ b 4) ∨ (z_31 = -1 ∧ ¬ (0 ≤ v9q25 ∧ v9q25 < gI σ b 4))) := hw_29
    refine lv_iload hx hb dX4_children_40 (lv_at hl 4 rfl) ?_
    refine lv_icmp_ne (tgt := 70) hx hb dX4_children_42 (by decide) (fun c_32 => ?_) (fun c_32 => ?_)
    · replace c_32 := mt (I_eq (a := z_31) (b := z_5) rz_31 rz_5).mpr c_32
      refine lv_iinc (v := I (v9q25 + 1)) (lv' := [(9, .int (I (v9q25 + 1))), (0, .ref b), (2, .int (I w1)), (3, .int (I w2)), (4, .long v4q25), (6, .int (I z_5)), (7, .int (I z_11)), (8, .int (I v8q25))]) hx hb dX4_children_70 hl (k := 7) rfl (I_add _ _) (by decide) rfl (fun ls hl => ?_)
      refine lv_goto (tgt := 27) hx hb dX4_children_73 (by decide) ?_
      exact ihJ_26 (v4q25, v8q25, v9q25 + 1) σ _ _ _ (by first | omega | (dsimp only; omega)) ⟨rfl, hH, hS, lv_sub hl [1, 2, 3, 4, 5, 6, 7, 0] rfl, rv8q25, ⟨by first | omega | (dsimp only; omega), by first | omega | (dsimp only; omega)⟩, by first | omega | (dsimp only; omega), by first | omega | (dsimp only; omega), by first | omega | (dsimp only; omega), by first | omega | (dsimp only; omega), by first | omega | (dsimp only; omega)⟩
    · replace c_32 := (I_eq (a := z_31) (b := z_5) rz_31 rz_5).mp c_32
      refine lv_iload hx hb dX4_children_45 (lv_at hl 6 rfl) ?_
      refine lv_iload_n hx hb dX4_children_47 rfl (lv_at hl 1 rfl) ?_
      refine lv_icmp_lt (tgt := 67) hx hb dX4_children_48 (by decide) (fun c_33 => ?_) (fun c_33 => ?_)
      · replace c_33 := (I_lt (a := v8q25) (b := w1) rv8q25 rw1).mp c_33
        refine lv_iinc (v := I (v8q25 + 1)) (lv' := [(8, .int (I (v8q25 + 1))), (0, .ref b), (2, .int (I w1)), (3, .int (I w2)), (4, .long v4q25), (6, .int (I z_5)), (7, .int (I z_11)), (9, .int (I v9q25))]) hx hb dX4_children_67 hl (k := 6) rfl (I_add _ _) (by decide) rfl (fun ls hl => ?_)
        refine lv_iinc (v := I (v9q25 + 1)) (lv' := [(9, .int (I (v9q25 + 1))), (8, .int (I (v8q25 + 1))), (0, .ref b), (2, .int (I w1)), (3, .int (I w2)), (4, .long v4q25), (6, .int (I z_5)), (7, .int (I z_11))]) hx hb dX4_children_70 hl (k := 7) rfl (I_add _ _) (by decide) rfl (fun ls hl => ?_)
        refine lv_goto (tgt := 27) hx hb dX4_children_73 (by decide) ?_
        exact ihJ_26 (v4q25, v8q25 + 1, v9q25 + 1) σ _ _ _ (by first | omega | (dsimp only; omega)) ⟨rfl, hH, hS, lv_sub hl [2, 3, 4, 5, 6, 7, 1, 0] rfl, ⟨by first | omega | (dsimp only; omega), by first | omega | (dsimp only; omega)⟩, ⟨by first | omega | (dsimp only; omega), by first | omega | (dsimp only; omega)⟩, by first | omega | (dsimp only; omega), by first | omega | (dsimp only; omega), by first | omega | (dsimp only; omega), by first | omega | (dsimp only; omega), by first | omega | (dsimp only; omega)⟩
      · replace c_33 := mt (I_lt (a := v8q25) (b := w1) rv8q25 rw1).mpr c_33
        refine lv_iload hx hb dX4_children_51 (lv_at hl 6 rfl) ?_
        refine lv_iload_n hx hb dX4_children_53 rfl (lv_at hl 2 rfl) ?_
        refine lv_icmp_ge (tgt := 67) hx hb dX4_children_54 (by decide) (fun c_34 => ?_) (fun c_34 => ?_)
        · replace c_34 := (I_le (a := w2) (b := v8q25) rw2 rv8q25).mp c_34
          refine lv_iinc (v := I (v8q25 + 1)) (lv' := [(8, .int (I (v8q25 + 1))), (0, .ref b), (2, .int (I w1)), (3, .int (I w2)), (4, .long v4q25), (6, .int (I z_5)), (7, .int (I z_11)), (9, .int (I v9q25))]) hx hb dX4_children_67 hl (k := 6) rfl (I_add _ _) (by decide) rfl (fun ls hl => ?_)
          refine lv_iinc (v := I (v9q25 + 1)) (lv' := [(9, .int (I (v9q25 + 1))), (8, .int (I (v8q25 + 1))), (0, .ref b), (2, .int (I w1)), (3, .int (I w2)), (4, .long v4q25), (6, .int (I z_5)), (7, .int (I z_11))]) hx hb dX4_children_70 hl (k := 7) rfl (I_add _ _) (by decide) rfl (fun ls hl => ?_)
          refine lv_goto (tgt := 27) hx hb dX4_children_73 (by decide) ?_
          exact ihJ_26 (v4q25, v8q25 + 1, v9q25 + 1) σ _ _ _ (by first | omega | (dsimp only; omega)) ⟨rfl, hH, hS, lv_sub hl [2, 3, 4, 5, 6, 7, 1, 0] rfl, ⟨by first | omega | (dsimp only; omega), by first | omega | (dsimp only; omega)⟩, ⟨by first | omega | (dsimp only; omega), by first | omega | (dsimp only; omega)⟩, by first | omega | (dsimp only; omega), by first | omega | (dsimp only; omega), by first | omega | (dsimp only; omega), by first | omega | (dsimp only; omega), by first | omega | (dsimp only; omega)⟩
        · replace c_34 := mt (I_le (a := w2) (b := v8q25) rw2 rv8q25).mpr c_34
          refine lv_lload hx hb dX4_children_57 (lv_at hl 3 rfl) ?_
          refine lv_iload hx hb dX4_children_59 (lv_at hl 7 rfl) ?_
          refine th_calll (va_runSN (As := [.int (I v9q25)]) (rest := [.long v4q25]) ⟨hx, hb, hml, hown, hts⟩ (n_bit l G y b0 σ E hO v9q25 (show rng v9q25 from rv9q25)) ⟨(va_cnB 1 hts gX4_children_X10_bit_n73 rfl rfl rfl (ml_6 hK) fl0 (by decide +kernel) ⟨Nat.le_of_ble_eq_true rfl, Nat.le_of_ble_eq_true rfl⟩), fl1, trivial⟩ (th_PS hK hH) rfl rfl hl.1 rfl (lv_room (Nat.le_of_ble_eq_true rfl)) dX4_children_61 ⟨Nat.le_of_ble_eq_true rfl, Nat.le_of_ble_eq_true rfl⟩) hS (fun w_37 σ_s_36 H locs hw_35 hH hS => ?_)
          obtain ⟨e9, hw_35⟩ := hw_35
          replace e9 := e9.symm
          subst e9
          refine lv_lor hx hb dX4_children_64 ?_
          refine lv_topl (fun w_38 _ => ?_)
          refine lv_lstore (lv' := [(4, .long w_38), (0, .ref b), (2, .int (I w1)), (3, .int (I w2)), (6, .int (I z_5)), (7, .int (I z_11)), (8, .int (I v8q25)), (9, .int (I v9q25))]) hx hb dX4_children_65 hl (by decide) rfl (fun ls hl => ?_)
          refine lv_iinc (v := I (v8q25 + 1)) (lv' := [(8, .int (I (v8q25 + 1))), (4, .long w_38), (0, .ref b), (2, .int (I w1)), (3, .int (I w2)), (6, .int (I z_5)), (7, .int (I z_11)), (9, .int (I v9q25))]) hx hb dX4_children_67 hl (k := 6) rfl (I_add _ _) (by decide) rfl (fun ls hl => ?_)
          refine lv_iinc (v := I (v9q25 + 1)) (lv' := [(9, .int (I (v9q25 + 1))), (8, .int (I (v8q25 + 1))), (4, .long w_38), (0, .ref b), (2, .int (I w1)), (3, .int (I w2)), (6, .int (I z_5)), (7, .int (I z_11))]) hx hb dX4_children_70 hl (k := 7) rfl (I_add _ _) (by decide) rfl (fun ls hl => ?_)
          refine lv_goto (tgt := 27) hx hb dX4_children_73 (by decide) ?_
          exact ihJ_26 (w_38, v8q25 + 1, v9q25 + 1) σ _ _ _ (by first | omega | (dsimp only; omega)) ⟨rfl, hH, hS, lv_sub hl [3, 4, 5, 2, 6, 7, 1, 0] rfl, ⟨by first | omega | (dsimp only; omega), by first | omega | (dsimp only; omega)⟩, ⟨by first | omega | (dsimp only; omega), by first | omega | (dsimp only; omega)⟩, by first | omega | (dsimp only; omega), by first | omega | (dsimp only; omega), by first | omega | (dsimp only; omega), by first | omega | (dsimp only; omega), by first | omega | (dsimp only; omega)⟩

set_option maxHeartbeats 1000000 in
set_option maxRecDepth 100000 in
theorem p_stretch (l : Launch) (G : va_G) (y : Nat → ClassId) (b0 : Nat) (σ : th_M) (E : th_E) (hO : ok y E σ) (a : Nat) (h_a : kd E a = 4) (b : Nat) (h_b : kd E b = 1) (st : Int) (rst : rng st) (i : Int) (ri : rng i) (l_i : -1 ≤ i) (u_i : i ≤ 200) : Met l yX4_stretch wsX4_stretch ({ frames := 2, cells := 0, slots := 0, locals := 60 }) (th_P G y b0 σ [.ref a, .ref b, .int (I st), .int (I i)]) (th_Ql G b0 (fun r σ1 => σ1 = σ ∧ (True))) 0 0 (th_A b0) := by
  refine Met.ofW (cc := cX4_stretch) (maxL := 7) (ret := (some .long)) (by decide) rfl ?_
  intro p e s m args below meth c s₁ B hml hv
  obtain ⟨rfl, hH, hK⟩ := hv
  have hx := B.exec
  have hb := B.bytes
  have hr := B.returns
  have hts := atoms_spec (ws := wsX4_stretch) B.pre
  have hown : s.vm.findClass RX4 = some m.cls := findClass_of_methodNamed B.named
  have hlocks := B.notSynchronized
  have h00 : b0 ≤ s.heap.size := hH.1
  have hS : va_S (th_A b0) s.heap s.heap [] := va_S.rf
  have inX4 : ∀ w ∈ wsX40, w ∈ wsX4_stretch := by decide +kernel
  have fl0 := hts (.fieldLink RX4 43 "NestQuery$Path" "stepCount" "I") (by decide +kernel)
  have fl1 := hts (.fieldLink RX4 15 "NestQuery$Path" "stepFirsts" "[I") (by decide +kernel)
  have fl2 := hts (.fieldLink RX4 18 "NestQuery$Path" "stepSeconds" "[I") (by decide +kernel)
  have hl := lv_entry ([.ref a, .ref b, .int (I st), .int (I i)]) (n := 7) (Nat.le_of_ble_eq_true rfl)
  rw [lg_entry_eq]
  generalize (lg_sl ([.ref a, .ref b, .int (I st), .int (I i)]) ++ List.replicate (7 - (lg_sl ([.ref a, .ref b, .int (I st), .int (I i)])).length) Slot.unset).toArray = ls at hl ⊢
  have hl : lv_has ls 7 [(0, .ref a), (1, .ref b), (2, .int (I st)), (3, .int (I i))] := hl
  refine lv_iload_n hx hb dX4_stretch_0 rfl (lv_at hl 2 rfl) ?_
  refine lv_if_lt (tgt := 21) hx hb dX4_stretch_1 (by decide) (fun c_1 => ?_) (fun c_1 => ?_)
  · replace c_1 := (I_lt (a := st) (b := 0) rst (show rng 0 from ⟨by decide, by decide⟩)).mp c_1
    refine lv_lconst (v := 0) hx hb dX4_stretch_21 (by decide) ?_
    exact th_lret hx hb hr hlocks hH hS (z := 0) ⟨rfl, trivial⟩ dX4_stretch_22
  · replace c_1 := mt (I_lt (a := st) (b := 0) rst (show rng 0 from ⟨by decide, by decide⟩)).mpr c_1
    refine lv_iload_n hx hb dX4_stretch_4 rfl (lv_at hl 2 rfl) ?_
    refine lv_aload_n hx hb dX4_stretch_5 rfl (lv_at hl 0 rfl) ?_
    refine ok.getI hO h_a (by decide) k4_3 (fun _ _ he hv kk => th_get (ci := 4) (C := RX4) (T := TX4) (N := 14) hx hb hts inX4 hown hK hH he rfl 3 (by decide) fl0 hv dX4_stretch_6 kk) (fun z_2 e_3 rz_2 lz_2 uz_2 => ?_)
    refine lv_icmp_ge (tgt := 21) hx hb dX4_stretch_9 (by decide) (fun c_4 => ?_) (fun c_4 => ?_)
    · replace c_4 := (I_le (a := z_2) (b := st) rz_2 rst).mp c_4
      refine lv_lconst (v := 0) hx hb dX4_stretch_21 (by decide) ?_
      exact th_lret hx hb hr hlocks hH hS (z := 0) ⟨rfl, trivial⟩ dX4_stretch_22
    · replace c_4 := mt (I_le (a := z_2) (b := st) rz_2 rst).mpr c_4
      refine lv_aload_n hx hb dX4_stretch_12 rfl (lv_at hl 1 rfl) ?_
      refine lv_iload_n hx hb dX4_stretch_13 rfl (lv_at hl 3 rfl) ?_
      obtain ⟨z_5, e_6, rz_5, lz_5, uz_5⟩ := hO.gi h_b (by decide) k1_4
      obtain ⟨_, hc_7⟩ := hO.cell h_b (by decide) (ci := 9) rfl
      refine th_calli (va_runV (As := [.int (I i)]) (rest := []) ⟨hx, hb, hml, hown, hts⟩ (t_kindAt l G y b0 σ b (tvE E σ b 60) i (hO.isT1 h_b) (show rng i from ri)) (cwV 1 hts gX4_stretch_X9_kindAt rfl rfl rfl (by decide +kernel) ⟨Nat.le_of_ble_eq_true rfl, Nat.le_of_ble_eq_true rfl⟩) (th_PV hK hH rfl hc_7) rfl rfl hl.1 rfl (lv_room (Nat.le_of_ble_eq_true rfl)) dX4_stretch_14 ⟨Nat.le_of_ble_eq_true rfl, Nat.le_of_ble_eq_true rfl⟩) hS (fun z_10 σ_s_9 H locs rz_10 hw_8 hH hS => ?_)
      obtain ⟨e9, hw_8⟩ := hw_8
      replace e9 := e9.symm
      subst e9
      have hw_8 : (0 ≤ i ∧ i < (gI σ b 4)) ∨ z_10 = -1 := hw_8
      refine lv_iconst (v := I 2) hx hb dX4_stretch_17 (by decide) ?_
      refine lv_icmp_eq (tgt := 23) hx hb dX4_stretch_18 (by decide) (fun c_11 => ?_) (fun c_11 => ?_)
      · replace c_11 := (I_eq (a := z_10) (b := 2) rz_10 (show rng 2 from ⟨by decide, by decide⟩)).mp c_11
        refine lv_aload_n hx hb dX4_stretch_23 rfl (lv_at hl 1 rfl) ?_
        refine lv_iload_n hx hb dX4_stretch_24 rfl (lv_at hl 3 rfl) ?_
        obtain ⟨_, hc_12⟩ := hO.cell h_b (by decide) (ci := 9) rfl
        refine th_calli (va_runV (As := [.int (I i)]) (rest := []) ⟨hx, hb, hml, hown, hts⟩ (t_childCount l G y b0 σ b (tvE E σ b 60) i (hO.isT1 h_b) (show rng i from ri)) (cwV 1 hts gX4_stretch_X9_childCount rfl rfl rfl (by decide +kernel) ⟨Nat.le_of_ble_eq_true rfl, Nat.le_of_ble_eq_true rfl⟩) (th_PV hK hH rfl hc_12) rfl rfl hl.1 rfl (lv_room (Nat.le_of_ble_eq_true rfl)) dX4_stretch_25 ⟨Nat.le_of_ble_eq_true rfl, Nat.le_of_ble_eq_true rfl⟩) hS (fun z_15 σ_s_14 H locs rz_15 hw_13 hH hS => ?_)
        obtain ⟨e9, hw_13⟩ := hw_13
        replace e9 := e9.symm
        subst e9
        have hw_13 : 0 ≤ z_15 ∧ z_15 ≤ (gI σ b 4) := hw_13
        refine lv_istore (lv' := [(4, .int (I z_15)), (0, .ref a), (1, .ref b), (2, .int (I st)), (3, .int (I i))]) hx hb dX4_stretch_28 hl (by decide) rfl (fun ls hl => ?_)
        refine lv_aload_n hx hb dX4_stretch_30 rfl (lv_at hl 1 rfl) ?_
        refine ok.getR hO h_a (by decide) k4_1 (by decide) (fun _ _ he hv kk => th_get (ci := 4) (C := RX4) (T := TX4) (N := 14) hx hb hts inX4 hown hK hH he rfl 1 (by decide) fl1 hv dX4_stretch_31 kk) ?_
        refine lv_iload_n hx hb dX4_stretch_34 rfl (lv_at hl 3 rfl) ?_
        refine ok_iald hx hb hK hH hO h_a (by decide) k4_1 isA1 rst (by omega) (by omega) dX4_stretch_35 (fun z_16 ez_16 rz_16 el9 => ?_)
        refine th_join (α := Int) (J := 57) (stk := fun x9 => [.int (I x9)]) (fun x9 σ9 H9 l9 ls9 => σ9 = σ ∧ th_H G b0 σ9 H9 ∧ va_S (th_A b0) s.heap H9 l9 ∧ lv_has ls9 7 [(0, .ref a), (1, .ref b), (2, .int (I st)), (3, .int (I i)), (4, .int (I z_15))] ∧ rng x9) ?_ (fun jK_22 => ?_)
        · intro x9 σ_K_22 H locs ls hI9
          obtain ⟨w0q21, ex9⟩ : ∃ z, z = x9 := ⟨_, rfl⟩
          subst ex9
          obtain ⟨eK_22, hH, hS, hl, rw0q21⟩ := hI9
          replace eK_22 := eK_22.symm
          subst eK_22
          have hl : lv_has ls 7 [(0, .ref a), (1, .ref b), (2, .int (I st)), (3, .int (I i)), (4, .int (I z_15))] := hl
          have rw0q21 : rng w0q21 := rw0q21
          refine lv_istore (lv' := [(5, .int (I w0q21)), (0, .ref a), (1, .ref b), (2, .int (I st)), (3, .int (I i)), (4, .int (I z_15))]) hx hb dX4_stretch_57 hl (by decide) rfl (fun ls hl => ?_)
          refine lv_aload_n hx hb dX4_stretch_59 rfl (lv_at hl 1 rfl) ?_
          refine ok.getR hO h_a (by decide) k4_2 (by decide) (fun _ _ he hv kk => th_get (ci := 4) (C := RX4) (T := TX4) (N := 14) hx hb hts inX4 hown hK hH he rfl 2 (by decide) fl2 hv dX4_stretch_60 kk) ?_
          refine lv_iload_n hx hb dX4_stretch_63 rfl (lv_at hl 3 rfl) ?_
          refine ok_iald hx hb hK hH hO h_a (by decide) k4_2 isA1 rst (by omega) (by omega) dX4_stretch_64 (fun z_23 ez_23 rz_23 el9 => ?_)
          refine lv_if_ge (tgt := 80) hx hb dX4_stretch_65 (by decide) (fun c_24 => ?_) (fun c_24 => ?_)
          · replace c_24 := (I_le (a := 0) (b := z_23) (show rng 0 from ⟨by decide, by decide⟩) rz_23).mp c_24
            refine lv_aload_n hx hb dX4_stretch_80 rfl (lv_at hl 1 rfl) ?_
            refine ok.getR hO h_a (by decide) k4_2 (by decide) (fun _ _ he hv kk => th_get (ci := 4) (C := RX4) (T := TX4) (N := 14) hx hb hts inX4 hown hK hH he rfl 2 (by decide) fl2 hv dX4_stretch_81 kk) ?_
            refine lv_iload_n hx hb dX4_stretch_84 rfl (lv_at hl 3 rfl) ?_
            refine ok_iald hx hb hK hH hO h_a (by decide) k4_2 isA1 rst (by omega) (by omega) dX4_stretch_85 (fun z_25 ez_25 rz_25 el9 => ?_)
            refine lv_istore (lv' := [(6, .int (I z_25)), (5, .int (I w0q21)), (0, .ref a), (1, .ref b), (2, .int (I st)), (3, .int (I i)), (4, .int (I z_15))]) hx hb dX4_stretch_86 hl (by decide) rfl (fun ls hl => ?_)
            refine lv_aload_n hx hb dX4_stretch_88 rfl (lv_at hl 3 rfl) ?_
            refine lv_iload_n hx hb dX4_stretch_89 rfl (lv_at hl 5 rfl) ?_
            refine lv_iload hx hb dX4_stretch_90 (lv_at hl 1 rfl) ?_
            refine lv_iload hx hb dX4_stretch_92 (lv_at hl 0 rfl) ?_
            refine th_calll (va_runS (As := [.ref b, .int (I i), .int (I w0q21), .int (I z_25)]) (rest := []) ⟨hx, hb, hml, hown, hts⟩ (p_children l G y b0 σ E hO b h_b i (show rng i from ri) (by omega) (by omega) w0q21 (show rng w0q21 from rw0q21) z_25 (show rng z_25 from rz_25)) (va_cwS 4 hts gX4_stretch_X4_children rfl rfl rfl (by decide +kernel) ⟨Nat.le_of_ble_eq_true rfl, Nat.le_of_ble_eq_true rfl⟩) (th_PS hK hH) rfl rfl hl.1 rfl (lv_room (Nat.le_of_ble_eq_true rfl)) dX4_stretch_94 ⟨Nat.le_of_ble_eq_true rfl, Nat.le_of_ble_eq_true rfl⟩) hS (fun w_28 σ_s_27 H locs hw_26 hH hS => ?_)
            obtain ⟨e9, hw_26⟩ := hw_26
            replace e9 := e9.symm
            subst e9
            exact th_lret hx hb hr hlocks hH hS (z := w_28) ⟨rfl, trivial⟩ dX4_stretch_97
          · replace c_24 := mt (I_le (a := 0) (b := z_23) (show rng 0 from ⟨by decide, by decide⟩) rz_23).mpr c_24
            refine lv_aload_n hx hb dX4_stretch_68 rfl (lv_at hl 1 rfl) ?_
            refine ok.getR hO h_a (by decide) k4_2 (by decide) (fun _ _ he hv kk => th_get (ci := 4) (C := RX4) (T := TX4) (N := 14) hx hb hts inX4 hown hK hH he rfl 2 (by decide) fl2 hv dX4_stretch_69 kk) ?_
            refine lv_iload_n hx hb dX4_stretch_72 rfl (lv_at hl 3 rfl) ?_
            refine ok_iald hx hb hK hH hO h_a (by decide) k4_2 isA1 rst (by omega) (by omega) dX4_stretch_73 (fun z_29 ez_29 rz_29 el9 => ?_)
            refine lv_iload hx hb dX4_stretch_74 (lv_at hl 5 rfl) ?_
            refine lv_iadd hx hb dX4_stretch_76 ?_
            refine th_addo (fun z_30 rz_30 hz_30 => ?_)
            refine lv_goto (tgt := 86) hx hb dX4_stretch_77 (by decide) ?_
            refine lv_istore (lv' := [(6, .int (I z_30)), (5, .int (I w0q21)), (0, .ref a), (1, .ref b), (2, .int (I st)), (3, .int (I i)), (4, .int (I z_15))]) hx hb dX4_stretch_86 hl (by decide) rfl (fun ls hl => ?_)
            refine lv_aload_n hx hb dX4_stretch_88 rfl (lv_at hl 3 rfl) ?_
            refine lv_iload_n hx hb dX4_stretch_89 rfl (lv_at hl 5 rfl) ?_
            refine lv_iload hx hb dX4_stretch_90 (lv_at hl 1 rfl) ?_
            refine lv_iload hx hb dX4_stretch_92 (lv_at hl 0 rfl) ?_
            refine th_calll (va_runS (As := [.ref b, .int (I i), .int (I w0q21), .int (I z_30)]) (rest := []) ⟨hx, hb, hml, hown, hts⟩ (p_children l G y b0 σ E hO b h_b i (show rng i from ri) (by omega) (by omega) w0q21 (show rng w0q21 from rw0q21) z_30 (show rng z_30 from rz_30)) (va_cwS 4 hts gX4_stretch_X4_children rfl rfl rfl (by decide +kernel) ⟨Nat.le_of_ble_eq_true rfl, Nat.le_of_ble_eq_true rfl⟩) (th_PS hK hH) rfl rfl hl.1 rfl (lv_room (Nat.le_of_ble_eq_true rfl)) dX4_stretch_94 ⟨Nat.le_of_ble_eq_true rfl, Nat.le_of_ble_eq_true rfl⟩) hS (fun w_33 σ_s_32 H locs hw_31 hH hS => ?_)
            obtain ⟨e9, hw_31⟩ := hw_31
            replace e9 := e9.symm
            subst e9
            exact th_lret hx hb hr hlocks hH hS (z := w_33) ⟨rfl, trivial⟩ dX4_stretch_97
        · refine lv_if_ge (tgt := 51) hx hb dX4_stretch_36 (by decide) (fun c_34 => ?_) (fun c_34 => ?_)
          · replace c_34 := (I_le (a := 0) (b := z_16) (show rng 0 from ⟨by decide, by decide⟩) rz_16).mp c_34
            refine lv_aload_n hx hb dX4_stretch_51 rfl (lv_at hl 1 rfl) ?_
            refine ok.getR hO h_a (by decide) k4_1 (by decide) (fun _ _ he hv kk => th_get (ci := 4) (C := RX4) (T := TX4) (N := 14) hx hb hts inX4 hown hK hH he rfl 1 (by decide) fl1 hv dX4_stretch_52 kk) ?_
            refine lv_iload_n hx hb dX4_stretch_55 rfl (lv_at hl 3 rfl) ?_
            refine ok_iald hx hb hK hH hO h_a (by decide) k4_1 isA1 rst (by omega) (by omega) dX4_stretch_56 (fun z_35 ez_35 rz_35 el9 => ?_)
            exact jK_22 (z_35) σ _ _ _ ⟨rfl, hH, hS, lv_sub hl [1, 2, 3, 4, 0] rfl, rz_35⟩
          · replace c_34 := mt (I_le (a := 0) (b := z_16) (show rng 0 from ⟨by decide, by decide⟩) rz_16).mpr c_34
            refine lv_aload_n hx hb dX4_stretch_39 rfl (lv_at hl 1 rfl) ?_
            refine ok.getR hO h_a (by decide) k4_1 (by decide) (fun _ _ he hv kk => th_get (ci := 4) (C := RX4) (T := TX4) (N := 14) hx hb hts inX4 hown hK hH he rfl 1 (by decide) fl1 hv dX4_stretch_40 kk) ?_
            refine lv_iload_n hx hb dX4_stretch_43 rfl (lv_at hl 3 rfl) ?_
            refine ok_iald hx hb hK hH hO h_a (by decide) k4_1 isA1 rst (by omega) (by omega) dX4_stretch_44 (fun z_36 ez_36 rz_36 el9 => ?_)
            refine lv_iload hx hb dX4_stretch_45 (lv_at hl 0 rfl) ?_
            refine lv_iadd hx hb dX4_stretch_47 ?_
            refine th_addo (fun z_37 rz_37 hz_37 => ?_)
            refine lv_goto (tgt := 57) hx hb dX4_stretch_48 (by decide) ?_
            exact jK_22 (z_37) σ _ _ _ ⟨rfl, hH, hS, lv_sub hl [1, 2, 3, 4, 0] rfl, rz_37⟩
      · replace c_11 := mt (I_eq (a := z_10) (b := 2) rz_10 (show rng 2 from ⟨by decide, by decide⟩)).mpr c_11
        refine lv_lconst (v := 0) hx hb dX4_stretch_21 (by decide) ?_
        exact th_lret hx hb hr hlocks hH hS (z := 0) ⟨rfl, trivial⟩ dX4_stretch_22

set_option maxHeartbeats 1000000 in
set_option maxRecDepth 100000 in
theorem p_testHolds (l : Launch) (G : va_G) (y : Nat → ClassId) (b0 : Nat) (σ : th_M) (E : th_E) (hO : ok y E σ) (a : Nat) (h_a : kd E a = 4) (b : Nat) (h_b : kd E b = 1) (ts : Int) (rts : rng ts) (i : Int) (ri : rng i) : Met l yX4_testHolds wsX4_testHolds ({ frames := 1, cells := 0, slots := 0, locals := 40 }) (th_P G y b0 σ [.ref a, .ref b, .int (I ts), .int (I i)]) (th_Qi G b0 (fun r σ1 => σ1 = σ ∧ (0 ≤ r ∧ r ≤ 1) ∧ (True))) 0 0 (th_A b0) := by
  refine Met.ofW (cc := cX4_testHolds) (maxL := 7) (ret := (some .boolean)) (by decide) rfl ?_
  intro p e s m args below meth c s₁ B hml hv
  obtain ⟨rfl, hH, hK⟩ := hv
  have hx := B.exec
  have hb := B.bytes
  have hr := B.returns
  have hts := atoms_spec (ws := wsX4_testHolds) B.pre
  have hown : s.vm.findClass RX4 = some m.cls := findClass_of_methodNamed B.named
  have hlocks := B.notSynchronized
  have h00 : b0 ≤ s.heap.size := hH.1
  have hS : va_S (th_A b0) s.heap s.heap [] := va_S.rf
  have inX4 : ∀ w ∈ wsX40, w ∈ wsX4_testHolds := by decide +kernel
  have fl0 := hts (.fieldLink RX4 53 "NestQuery$Path" "testCount" "I") (by decide +kernel)
  have fl1 := hts (.methodLink RX4 108 Lib.Math.max.name) (by decide +kernel)
  have fl2 := hts (.static Lib.Math.max.name) (by decide +kernel)
  have fl3 := hts (.initialized "java/lang/Math") (by decide +kernel)
  have fl4 := hts (.code Lib.Math.max.name Lib.Math.max.code 2 (some .int)) (by decide +kernel)
  have fl5 := hts (.fieldLink RX4 31 "NestQuery$Path" "testEnds" "[I") (by decide +kernel)
  have fl6 := hts (.fieldLink RX4 34 "NestQuery$Path" "testSigns" "[I") (by decide +kernel)
  have fl7 := hts (.fieldLink RX4 37 "NestQuery$Path" "testKinds" "[I") (by decide +kernel)
  have fl8 := hts (.fieldLink RX4 40 "NestQuery$Path" "testValues" "[I") (by decide +kernel)
  have fl9 := hts (.fieldLink RX4 24 "NestQuery$Path" "littleByKey" "[Z") (by decide +kernel)
  have fl10 := hts (.fieldLink RX4 28 "NestQuery$Path" "littleValues" "[I") (by decide +kernel)
  have hl := lv_entry ([.ref a, .ref b, .int (I ts), .int (I i)]) (n := 7) (Nat.le_of_ble_eq_true rfl)
  rw [lg_entry_eq]
  generalize (lg_sl ([.ref a, .ref b, .int (I ts), .int (I i)]) ++ List.replicate (7 - (lg_sl ([.ref a, .ref b, .int (I ts), .int (I i)])).length) Slot.unset).toArray = ls at hl ⊢
  have hl : lv_has ls 7 [(0, .ref a), (1, .ref b), (2, .int (I ts)), (3, .int (I i))] := hl
  refine lv_iload_n hx hb dX4_testHolds_0 rfl (lv_at hl 2 rfl) ?_
  refine lv_if_lt (tgt := 12) hx hb dX4_testHolds_1 (by decide) (fun c_1 => ?_) (fun c_1 => ?_)
  · replace c_1 := (I_lt (a := ts) (b := 0) rts (show rng 0 from ⟨by decide, by decide⟩)).mp c_1
    refine lv_iconst (v := I 0) hx hb dX4_testHolds_12 (by decide) ?_
    exact th_zret hx hb hr hlocks hH hS (z := 0) (by omega) ⟨rfl, ⟨by omega, by omega⟩, trivial⟩ dX4_testHolds_13
  · replace c_1 := mt (I_lt (a := ts) (b := 0) rts (show rng 0 from ⟨by decide, by decide⟩)).mpr c_1
    refine lv_iload_n hx hb dX4_testHolds_4 rfl (lv_at hl 2 rfl) ?_
    refine lv_aload_n hx hb dX4_testHolds_5 rfl (lv_at hl 0 rfl) ?_
    refine ok.getI hO h_a (by decide) k4_13 (fun _ _ he hv kk => th_get (ci := 4) (C := RX4) (T := TX4) (N := 14) hx hb hts inX4 hown hK hH he rfl 13 (by decide) fl0 hv dX4_testHolds_6 kk) (fun z_2 e_3 rz_2 lz_2 uz_2 => ?_)
    refine lv_icmp_lt (tgt := 14) hx hb dX4_testHolds_9 (by decide) (fun c_4 => ?_) (fun c_4 => ?_)
    · replace c_4 := (I_lt (a := ts) (b := z_2) rts rz_2).mp c_4
      refine lv_iload_n hx hb dX4_testHolds_14 rfl (lv_at hl 3 rfl) ?_
      refine lv_istore (lv' := [(4, .int (I i)), (0, .ref a), (1, .ref b), (2, .int (I ts)), (3, .int (I i))]) hx hb dX4_testHolds_15 hl (by decide) rfl (fun ls hl => ?_)
      refine lv_iload_n hx hb dX4_testHolds_17 rfl (lv_at hl 3 rfl) ?_
      refine th_join (α := Int) (J := 33) (stk := fun x9 => [.int (I x9)]) (fun x9 σ9 H9 l9 ls9 => σ9 = σ ∧ th_H G b0 σ9 H9 ∧ va_S (th_A b0) s.heap H9 l9 ∧ lv_has ls9 7 [(0, .ref a), (1, .ref b), (2, .int (I ts)), (4, .int (I i))] ∧ rng x9) ?_ (fun jK_9 => ?_)
      · intro x9 σ_K_9 H locs ls hI9
        obtain ⟨w0q8, ex9⟩ : ∃ z, z = x9 := ⟨_, rfl⟩
        subst ex9
        obtain ⟨eK_9, hH, hS, hl, rw0q8⟩ := hI9
        replace eK_9 := eK_9.symm
        subst eK_9
        have hl : lv_has ls 7 [(0, .ref a), (1, .ref b), (2, .int (I ts)), (4, .int (I i))] := hl
        have rw0q8 : rng w0q8 := rw0q8
        refine lv_istore (lv' := [(5, .int (I w0q8)), (0, .ref a), (1, .ref b), (2, .int (I ts)), (4, .int (I i))]) hx hb dX4_testHolds_33 hl (by decide) rfl (fun ls hl => ?_)
        refine lv_iconst (v := I 0) hx hb dX4_testHolds_35 (by decide) ?_
        refine lv_iload hx hb dX4_testHolds_36 (lv_at hl 0 rfl) ?_
        refine va_mmax hx hb (by rw [hml]; exact hl.1.symm) hown fl1 fl2 fl3 fl4 (Nat.le_of_ble_eq_true rfl) (Nat.le_of_ble_eq_true rfl) (Nat.zero_le _) (Nat.zero_le _) dX4_testHolds_38 ?_
        refine th_mmax (show rng 0 from ⟨by decide, by decide⟩) rw0q8 (fun z_10 rz_10 hz_10 => ?_)
        refine lv_istore (lv' := [(6, .int (I z_10)), (5, .int (I w0q8)), (0, .ref a), (1, .ref b), (2, .int (I ts)), (4, .int (I i))]) hx hb dX4_testHolds_41 hl (by decide) rfl (fun ls hl => ?_)
        replace hl : lv_has ls 7 [(6, .int (I z_10)), (0, .ref a), (1, .ref b), (2, .int (I ts)), (4, .int (I i))] := lv_sub hl [0, 2, 3, 4, 5] rfl
        refine th_loop (α := Int × Int) (pc := 43) (fun x9 => (200 - x9.2).toNat) (fun x9 σ9 H9 l9 ls9 => σ9 = σ ∧ th_H G b0 σ9 H9 ∧ va_S (th_A b0) s.heap H9 l9 ∧ lv_has ls9 7 [(0, .ref a), (1, .ref b), (2, .int (I ts)), (4, .int (I x9.1)), (6, .int (I x9.2))] ∧ rng x9.1 ∧ rng x9.2 ∧ (0 ≤ x9.2)) ?_ (i, z_10) σ _ _ _ ⟨rfl, hH, hS, lv_sub hl [1, 2, 3, 4, 0] rfl, ri, rz_10, by first | omega | (dsimp only; omega)⟩
        intro x9 σ_J_52 H locs ls hI9 ihJ_52
        obtain ⟨v4q51, v6q51⟩ := x9
        obtain ⟨eJ_52, hH, hS, hl, rv4q51, rv6q51, J_52_0⟩ := hI9
        replace eJ_52 := eJ_52.symm
        subst eJ_52
        have hl : lv_has ls 7 [(0, .ref a), (1, .ref b), (2, .int (I ts)), (4, .int (I v4q51)), (6, .int (I v6q51))] := hl
        have rv4q51 : rng v4q51 := rv4q51
        have rv6q51 : rng v6q51 := rv6q51
        have J_52_0 : 0 ≤ v6q51 := J_52_0
        refine lv_iload hx hb dX4_testHolds_43 (lv_at hl 4 rfl) ?_
        refine lv_aload_n hx hb dX4_testHolds_45 rfl (lv_at hl 0 rfl) ?_
        refine ok.getR hO h_a (by decide) k4_9 (by decide) (fun _ _ he hv kk => th_get (ci := 4) (C := RX4) (T := TX4) (N := 14) hx hb hts inX4 hown hK hH he rfl 9 (by decide) fl5 hv dX4_testHolds_46 kk) ?_
        refine lv_iload_n hx hb dX4_testHolds_49 rfl (lv_at hl 2 rfl) ?_
        refine ok_iald hx hb hK hH hO h_a (by decide) k4_9 isA1 rts (by omega) (by omega) dX4_testHolds_50 (fun z_53 ez_53 rz_53 el9 => ?_)
        refine th_join (α := Unit) (J := 109) (stk := fun x9 => []) (fun x9 σ9 H9 l9 ls9 => σ9 = σ ∧ th_H G b0 σ9 H9 ∧ va_S (th_A b0) s.heap H9 l9 ∧ lv_has ls9 7 [(0, .ref a), (1, .ref b), (2, .int (I ts)), (4, .int (I v4q51))]) ?_ (fun jK_73 => ?_)
        · intro x9 σ_K_73 H locs ls hI9
          obtain ⟨eK_73, hH, hS, hl⟩ := hI9
          replace eK_73 := eK_73.symm
          subst eK_73
          have hl : lv_has ls 7 [(0, .ref a), (1, .ref b), (2, .int (I ts)), (4, .int (I v4q51))] := hl
          refine lv_iload hx hb dX4_testHolds_109 (lv_at hl 3 rfl) ?_
          refine lv_iconst (v := I (-1)) hx hb dX4_testHolds_111 (by decide) ?_
          refine lv_icmp_eq (tgt := 124) hx hb dX4_testHolds_112 (by decide) (fun c_74 => ?_) (fun c_74 => ?_)
          · replace c_74 := (I_eq (a := v4q51) (b := (-1)) rv4q51 (show rng (-1) from ⟨by decide, by decide⟩)).mp c_74
            refine lv_iload hx hb dX4_testHolds_124 (lv_at hl 3 rfl) ?_
            refine lv_iconst (v := I (-1)) hx hb dX4_testHolds_126 (by decide) ?_
            refine lv_icmp_eq (tgt := 134) hx hb dX4_testHolds_127 (by decide) (fun c_75 => ?_) (fun c_75 => ?_)
            · replace c_75 := (I_eq (a := v4q51) (b := (-1)) rv4q51 (show rng (-1) from ⟨by decide, by decide⟩)).mp c_75
              refine lv_iconst (v := I 0) hx hb dX4_testHolds_134 (by decide) ?_
              exact th_zret hx hb hr hlocks hH hS (z := 0) (by omega) ⟨rfl, ⟨by omega, by omega⟩, trivial⟩ dX4_testHolds_135
            · replace c_75 := mt (I_eq (a := v4q51) (b := (-1)) rv4q51 (show rng (-1) from ⟨by decide, by decide⟩)).mpr c_75
              refine lv_iconst (v := I 1) hx hb dX4_testHolds_130 (by decide) ?_
              refine lv_goto (tgt := 135) hx hb dX4_testHolds_131 (by decide) ?_
              exact th_zret hx hb hr hlocks hH hS (z := 1) (by omega) ⟨rfl, ⟨by omega, by omega⟩, trivial⟩ dX4_testHolds_135
          · replace c_74 := mt (I_eq (a := v4q51) (b := (-1)) rv4q51 (show rng (-1) from ⟨by decide, by decide⟩)).mpr c_74
            refine lv_aload_n hx hb dX4_testHolds_115 rfl (lv_at hl 0 rfl) ?_
            refine ok.getR hO h_a (by decide) k4_10 (by decide) (fun _ _ he hv kk => th_get (ci := 4) (C := RX4) (T := TX4) (N := 14) hx hb hts inX4 hown hK hH he rfl 10 (by decide) fl6 hv dX4_testHolds_116 kk) ?_
            refine lv_iload_n hx hb dX4_testHolds_119 rfl (lv_at hl 2 rfl) ?_
            refine ok_iald hx hb hK hH hO h_a (by decide) k4_10 isA1 rts (by omega) (by omega) dX4_testHolds_120 (fun z_76 ez_76 rz_76 el9 => ?_)
            refine lv_if_ne (tgt := 136) hx hb dX4_testHolds_121 (by decide) (fun c_77 => ?_) (fun c_77 => ?_)
            · replace c_77 := mt (I_eq (a := z_76) (b := 0) rz_76 (show rng 0 from ⟨by decide, by decide⟩)).mpr c_77
              refine lv_aload_n hx hb dX4_testHolds_136 rfl (lv_at hl 1 rfl) ?_
              refine lv_iload hx hb dX4_testHolds_137 (lv_at hl 3 rfl) ?_
              obtain ⟨z_78, e_79, rz_78, lz_78, uz_78⟩ := hO.gi h_b (by decide) k1_4
              obtain ⟨_, hc_80⟩ := hO.cell h_b (by decide) (ci := 9) rfl
              refine th_calli (va_runV (As := [.int (I v4q51)]) (rest := []) ⟨hx, hb, hml, hown, hts⟩ (t_kindAt l G y b0 σ b (tvE E σ b 60) v4q51 (hO.isT1 h_b) (show rng v4q51 from rv4q51)) (cwV 1 hts gX4_testHolds_X9_kindAt rfl rfl rfl (by decide +kernel) ⟨Nat.le_of_ble_eq_true rfl, Nat.le_of_ble_eq_true rfl⟩) (th_PV hK hH rfl hc_80) rfl rfl hl.1 rfl (lv_room (Nat.le_of_ble_eq_true rfl)) dX4_testHolds_139 ⟨Nat.le_of_ble_eq_true rfl, Nat.le_of_ble_eq_true rfl⟩) hS (fun z_83 σ_s_82 H locs rz_83 hw_81 hH hS => ?_)
              obtain ⟨e9, hw_81⟩ := hw_81
              replace e9 := e9.symm
              subst e9
              have hw_81 : (0 ≤ v4q51 ∧ v4q51 < (gI σ b 4)) ∨ z_83 = -1 := hw_81
              refine lv_aload_n hx hb dX4_testHolds_142 rfl (lv_at hl 0 rfl) ?_
              refine ok.getR hO h_a (by decide) k4_11 (by decide) (fun _ _ he hv kk => th_get (ci := 4) (C := RX4) (T := TX4) (N := 14) hx hb hts inX4 hown hK hH he rfl 11 (by decide) fl7 hv dX4_testHolds_143 kk) ?_
              refine lv_iload_n hx hb dX4_testHolds_146 rfl (lv_at hl 2 rfl) ?_
              refine ok_iald hx hb hK hH hO h_a (by decide) k4_11 isA1 rts (by omega) (by omega) dX4_testHolds_147 (fun z_84 ez_84 rz_84 el9 => ?_)
              refine lv_icmp_eq (tgt := 153) hx hb dX4_testHolds_148 (by decide) (fun c_85 => ?_) (fun c_85 => ?_)
              · replace c_85 := (I_eq (a := z_83) (b := z_84) rz_83 rz_84).mp c_85
                refine lv_aload_n hx hb dX4_testHolds_153 rfl (lv_at hl 1 rfl) ?_
                refine lv_iload hx hb dX4_testHolds_154 (lv_at hl 3 rfl) ?_
                obtain ⟨_, hc_86⟩ := hO.cell h_b (by decide) (ci := 9) rfl
                refine th_calli (va_runV (As := [.int (I v4q51)]) (rest := []) ⟨hx, hb, hml, hown, hts⟩ (t_valueAt l G y b0 σ b (tvE E σ b 60) v4q51 (hO.isT1 h_b) (show rng v4q51 from rv4q51)) (cwV 1 hts gX4_testHolds_X9_valueAt rfl rfl rfl (by decide +kernel) ⟨Nat.le_of_ble_eq_true rfl, Nat.le_of_ble_eq_true rfl⟩) (th_PV hK hH rfl hc_86) rfl rfl hl.1 rfl (lv_room (Nat.le_of_ble_eq_true rfl)) dX4_testHolds_156 ⟨Nat.le_of_ble_eq_true rfl, Nat.le_of_ble_eq_true rfl⟩) hS (fun z_89 σ_s_88 H locs rz_89 hw_87 hH hS => ?_)
                obtain ⟨e9, hw_87⟩ := hw_87
                replace e9 := e9.symm
                subst e9
                refine lv_istore (lv' := [(6, .int (I z_89)), (0, .ref a), (1, .ref b), (2, .int (I ts)), (4, .int (I v4q51))]) hx hb dX4_testHolds_159 hl (by decide) rfl (fun ls hl => ?_)
                refine lv_aload_n hx hb dX4_testHolds_161 rfl (lv_at hl 1 rfl) ?_
                refine ok.getR hO h_a (by decide) k4_10 (by decide) (fun _ _ he hv kk => th_get (ci := 4) (C := RX4) (T := TX4) (N := 14) hx hb hts inX4 hown hK hH he rfl 10 (by decide) fl6 hv dX4_testHolds_162 kk) ?_
                refine lv_iload_n hx hb dX4_testHolds_165 rfl (lv_at hl 3 rfl) ?_
                refine ok_iald hx hb hK hH hO h_a (by decide) k4_10 isA1 rts (by omega) (by omega) dX4_testHolds_166 (fun z_90 ez_90 rz_90 el9 => ?_)
                refine lv_bipush (v := I 61) hx hb dX4_testHolds_167 (by decide) ?_
                refine lv_icmp_ne (tgt := 189) hx hb dX4_testHolds_169 (by decide) (fun c_91 => ?_) (fun c_91 => ?_)
                · replace c_91 := mt (I_eq (a := z_90) (b := 61) rz_90 (show rng 61 from ⟨by decide, by decide⟩)).mpr c_91
                  refine lv_aload_n hx hb dX4_testHolds_189 rfl (lv_at hl 1 rfl) ?_
                  refine ok.getR hO h_a (by decide) k4_10 (by decide) (fun _ _ he hv kk => th_get (ci := 4) (C := RX4) (T := TX4) (N := 14) hx hb hts inX4 hown hK hH he rfl 10 (by decide) fl6 hv dX4_testHolds_190 kk) ?_
                  refine lv_iload_n hx hb dX4_testHolds_193 rfl (lv_at hl 3 rfl) ?_
                  refine ok_iald hx hb hK hH hO h_a (by decide) k4_10 isA1 rts (by omega) (by omega) dX4_testHolds_194 (fun z_92 ez_92 rz_92 el9 => ?_)
                  refine lv_bipush (v := I 60) hx hb dX4_testHolds_195 (by decide) ?_
                  refine lv_icmp_ne (tgt := 219) hx hb dX4_testHolds_197 (by decide) (fun c_93 => ?_) (fun c_93 => ?_)
                  · replace c_93 := mt (I_eq (a := z_92) (b := 60) rz_92 (show rng 60 from ⟨by decide, by decide⟩)).mpr c_93
                    refine lv_iload hx hb dX4_testHolds_219 (lv_at hl 0 rfl) ?_
                    refine lv_aload_n hx hb dX4_testHolds_221 rfl (lv_at hl 1 rfl) ?_
                    refine ok.getR hO h_a (by decide) k4_12 (by decide) (fun _ _ he hv kk => th_get (ci := 4) (C := RX4) (T := TX4) (N := 14) hx hb hts inX4 hown hK hH he rfl 12 (by decide) fl8 hv dX4_testHolds_222 kk) ?_
                    refine lv_iload_n hx hb dX4_testHolds_225 rfl (lv_at hl 3 rfl) ?_
                    refine ok_iald hx hb hK hH hO h_a (by decide) k4_12 isA1 rts (by omega) (by omega) dX4_testHolds_226 (fun z_94 ez_94 rz_94 el9 => ?_)
                    refine lv_icmp_le (tgt := 234) hx hb dX4_testHolds_227 (by decide) (fun c_95 => ?_) (fun c_95 => ?_)
                    · replace c_95 := (I_le (a := z_89) (b := z_94) rz_89 rz_94).mp c_95
                      refine lv_iconst (v := I 0) hx hb dX4_testHolds_234 (by decide) ?_
                      exact th_zret hx hb hr hlocks hH hS (z := 0) (by omega) ⟨rfl, ⟨by omega, by omega⟩, trivial⟩ dX4_testHolds_235
                    · replace c_95 := mt (I_le (a := z_89) (b := z_94) rz_89 rz_94).mpr c_95
                      refine lv_iconst (v := I 1) hx hb dX4_testHolds_230 (by decide) ?_
                      refine lv_goto (tgt := 235) hx hb dX4_testHolds_231 (by decide) ?_
                      exact th_zret hx hb hr hlocks hH hS (z := 1) (by omega) ⟨rfl, ⟨by omega, by omega⟩, trivial⟩ dX4_testHolds_235
                  · replace c_93 := (I_eq (a := z_92) (b := 60) rz_92 (show rng 60 from ⟨by decide, by decide⟩)).mp c_93
                    refine lv_iload hx hb dX4_testHolds_200 (lv_at hl 0 rfl) ?_
                    refine lv_aload_n hx hb dX4_testHolds_202 rfl (lv_at hl 1 rfl) ?_
                    refine ok.getR hO h_a (by decide) k4_12 (by decide) (fun _ _ he hv kk => th_get (ci := 4) (C := RX4) (T := TX4) (N := 14) hx hb hts inX4 hown hK hH he rfl 12 (by decide) fl8 hv dX4_testHolds_203 kk) ?_
                    refine lv_iload_n hx hb dX4_testHolds_206 rfl (lv_at hl 3 rfl) ?_
                    refine ok_iald hx hb hK hH hO h_a (by decide) k4_12 isA1 rts (by omega) (by omega) dX4_testHolds_207 (fun z_96 ez_96 rz_96 el9 => ?_)
                    refine lv_icmp_ge (tgt := 215) hx hb dX4_testHolds_208 (by decide) (fun c_97 => ?_) (fun c_97 => ?_)
                    · replace c_97 := (I_le (a := z_96) (b := z_89) rz_96 rz_89).mp c_97
                      refine lv_iconst (v := I 0) hx hb dX4_testHolds_215 (by decide) ?_
                      refine lv_goto (tgt := 235) hx hb dX4_testHolds_216 (by decide) ?_
                      exact th_zret hx hb hr hlocks hH hS (z := 0) (by omega) ⟨rfl, ⟨by omega, by omega⟩, trivial⟩ dX4_testHolds_235
                    · replace c_97 := mt (I_le (a := z_96) (b := z_89) rz_96 rz_89).mpr c_97
                      refine lv_iconst (v := I 1) hx hb dX4_testHolds_211 (by decide) ?_
                      refine lv_goto (tgt := 235) hx hb dX4_testHolds_212 (by decide) ?_
                      exact th_zret hx hb hr hlocks hH hS (z := 1) (by omega) ⟨rfl, ⟨by omega, by omega⟩, trivial⟩ dX4_testHolds_235
                · replace c_91 := (I_eq (a := z_90) (b := 61) rz_90 (show rng 61 from ⟨by decide, by decide⟩)).mp c_91
                  refine lv_iload hx hb dX4_testHolds_172 (lv_at hl 0 rfl) ?_
                  refine lv_aload_n hx hb dX4_testHolds_174 rfl (lv_at hl 1 rfl) ?_
                  refine ok.getR hO h_a (by decide) k4_12 (by decide) (fun _ _ he hv kk => th_get (ci := 4) (C := RX4) (T := TX4) (N := 14) hx hb hts inX4 hown hK hH he rfl 12 (by decide) fl8 hv dX4_testHolds_175 kk) ?_
                  refine lv_iload_n hx hb dX4_testHolds_178 rfl (lv_at hl 3 rfl) ?_
                  refine ok_iald hx hb hK hH hO h_a (by decide) k4_12 isA1 rts (by omega) (by omega) dX4_testHolds_179 (fun z_98 ez_98 rz_98 el9 => ?_)
                  refine lv_icmp_ne (tgt := 187) hx hb dX4_testHolds_180 (by decide) (fun c_99 => ?_) (fun c_99 => ?_)
                  · replace c_99 := mt (I_eq (a := z_89) (b := z_98) rz_89 rz_98).mpr c_99
                    refine lv_iconst (v := I 0) hx hb dX4_testHolds_187 (by decide) ?_
                    exact th_zret hx hb hr hlocks hH hS (z := 0) (by omega) ⟨rfl, ⟨by omega, by omega⟩, trivial⟩ dX4_testHolds_188
                  · replace c_99 := (I_eq (a := z_89) (b := z_98) rz_89 rz_98).mp c_99
                    refine lv_iconst (v := I 1) hx hb dX4_testHolds_183 (by decide) ?_
                    refine lv_goto (tgt := 188) hx hb dX4_testHolds_184 (by decide) ?_
                    exact th_zret hx hb hr hlocks hH hS (z := 1) (by omega) ⟨rfl, ⟨by omega, by omega⟩, trivial⟩ dX4_testHolds_188
              · replace c_85 := mt (I_eq (a := z_83) (b := z_84) rz_83 rz_84).mpr c_85
                refine lv_iconst (v := I 0) hx hb dX4_testHolds_151 (by decide) ?_
                exact th_zret hx hb hr hlocks hH hS (z := 0) (by omega) ⟨rfl, ⟨by omega, by omega⟩, trivial⟩ dX4_testHolds_152
            · replace c_77 := (I_eq (a := z_76) (b := 0) rz_76 (show rng 0 from ⟨by decide, by decide⟩)).mp c_77
              refine lv_iload hx hb dX4_testHolds_124 (lv_at hl 3 rfl) ?_
              refine lv_iconst (v := I (-1)) hx hb dX4_testHolds_126 (by decide) ?_
              refine lv_icmp_eq (tgt := 134) hx hb dX4_testHolds_127 (by decide) (fun c_100 => ?_) (fun c_100 => ?_)
              · replace c_100 := (I_eq (a := v4q51) (b := (-1)) rv4q51 (show rng (-1) from ⟨by decide, by decide⟩)).mp c_100
                refine lv_iconst (v := I 0) hx hb dX4_testHolds_134 (by decide) ?_
                exact th_zret hx hb hr hlocks hH hS (z := 0) (by omega) ⟨rfl, ⟨by omega, by omega⟩, trivial⟩ dX4_testHolds_135
              · replace c_100 := mt (I_eq (a := v4q51) (b := (-1)) rv4q51 (show rng (-1) from ⟨by decide, by decide⟩)).mpr c_100
                refine lv_iconst (v := I 1) hx hb dX4_testHolds_130 (by decide) ?_
                refine lv_goto (tgt := 135) hx hb dX4_testHolds_131 (by decide) ?_
                exact th_zret hx hb hr hlocks hH hS (z := 1) (by omega) ⟨rfl, ⟨by omega, by omega⟩, trivial⟩ dX4_testHolds_135
        · refine lv_icmp_ge (tgt := 109) hx hb dX4_testHolds_51 (by decide) (fun c_101 => ?_) (fun c_101 => ?_)
          · replace c_101 := (I_le (a := z_53) (b := v6q51) rz_53 rv6q51).mp c_101
            replace hl : lv_has ls 7 [(0, .ref a), (1, .ref b), (2, .int (I ts)), (4, .int (I v4q51))] := lv_sub hl [0, 1, 2, 3] rfl
            exact jK_73 () σ _ _ _ ⟨rfl, hH, hS, lv_sub hl [0, 1, 2, 3] rfl⟩
          · replace c_101 := mt (I_le (a := z_53) (b := v6q51) rz_53 rv6q51).mpr c_101
            refine lv_iload hx hb dX4_testHolds_54 (lv_at hl 4 rfl) ?_
            refine lv_sipush (v := I 200) hx hb dX4_testHolds_56 (by decide) ?_
            refine lv_icmp_ge (tgt := 109) hx hb dX4_testHolds_59 (by decide) (fun c_102 => ?_) (fun c_102 => ?_)
            · replace c_102 := (I_le (a := 200) (b := v6q51) (show rng 200 from ⟨by decide, by decide⟩) rv6q51).mp c_102
              replace hl : lv_has ls 7 [(0, .ref a), (1, .ref b), (2, .int (I ts)), (4, .int (I v4q51))] := lv_sub hl [0, 1, 2, 3] rfl
              exact jK_73 () σ _ _ _ ⟨rfl, hH, hS, lv_sub hl [0, 1, 2, 3] rfl⟩
            · replace c_102 := mt (I_le (a := 200) (b := v6q51) (show rng 200 from ⟨by decide, by decide⟩) rv6q51).mpr c_102
              refine lv_aload_n hx hb dX4_testHolds_62 rfl (lv_at hl 0 rfl) ?_
              refine ok.getR hO h_a (by decide) k4_6 (by decide) (fun _ _ he hv kk => th_get (ci := 4) (C := RX4) (T := TX4) (N := 14) hx hb hts inX4 hown hK hH he rfl 6 (by decide) fl9 hv dX4_testHolds_63 kk) ?_
              refine lv_iload hx hb dX4_testHolds_66 (lv_at hl 4 rfl) ?_
              refine ok_zald hx hb hK hH hO h_a (by decide) k4_6 rv6q51 (by omega) (by omega) dX4_testHolds_68 (fun z_103 ez_103 rz_103 uz_103 => ?_)
              refine lv_if_eq (tgt := 88) hx hb dX4_testHolds_69 (by decide) (fun c_104 => ?_) (fun c_104 => ?_)
              · replace c_104 := (I_eq (a := z_103) (b := 0) rz_103 (show rng 0 from ⟨by decide, by decide⟩)).mp c_104
                refine lv_aload_n hx hb dX4_testHolds_88 rfl (lv_at hl 1 rfl) ?_
                refine lv_iload hx hb dX4_testHolds_89 (lv_at hl 3 rfl) ?_
                refine lv_aload_n hx hb dX4_testHolds_91 rfl (lv_at hl 0 rfl) ?_
                refine ok.getR hO h_a (by decide) k4_7 (by decide) (fun _ _ he hv kk => th_get (ci := 4) (C := RX4) (T := TX4) (N := 14) hx hb hts inX4 hown hK hH he rfl 7 (by decide) fl10 hv dX4_testHolds_92 kk) ?_
                refine lv_iload hx hb dX4_testHolds_95 (lv_at hl 4 rfl) ?_
                refine ok_iald hx hb hK hH hO h_a (by decide) k4_7 isA1 rv6q51 (by omega) (by omega) dX4_testHolds_97 (fun z_105 ez_105 rz_105 el9 => ?_)
                obtain ⟨z_106, e_107, rz_106, lz_106, uz_106⟩ := hO.gi h_b (by decide) k1_4
                obtain ⟨_, hc_108⟩ := hO.cell h_b (by decide) (ci := 9) rfl
                refine th_calli (va_runV (As := [.int (I v4q51), .int (I z_105)]) (rest := []) ⟨hx, hb, hml, hown, hts⟩ (t_listed l G y b0 σ b (tvE E σ b 60) v4q51 z_105 (hO.isT1 h_b) (show rng v4q51 from rv4q51) (show rng z_105 from rz_105)) (cwV 2 hts gX4_testHolds_X9_listed rfl rfl rfl (by decide +kernel) ⟨Nat.le_of_ble_eq_true rfl, Nat.le_of_ble_eq_true rfl⟩) (th_PV hK hH rfl hc_108) rfl rfl hl.1 rfl (lv_room (Nat.le_of_ble_eq_true rfl)) dX4_testHolds_98 ⟨Nat.le_of_ble_eq_true rfl, Nat.le_of_ble_eq_true rfl⟩) hS (fun z_111 σ_s_110 H locs rz_111 hw_109 hH hS => ?_)
                obtain ⟨e9, hw_109⟩ := hw_109
                replace e9 := e9.symm
                subst e9
                have hw_109 : z_111 = -1 ∨ (0 ≤ v4q51 ∧ v4q51 < z_111 ∧ z_111 < (gI σ b 4)) := hw_109
                refine lv_istore (lv' := [(4, .int (I z_111)), (0, .ref a), (1, .ref b), (2, .int (I ts)), (6, .int (I v6q51))]) hx hb dX4_testHolds_101 hl (by decide) rfl (fun ls hl => ?_)
                refine lv_iinc (v := I (v6q51 + 1)) (lv' := [(6, .int (I (v6q51 + 1))), (4, .int (I z_111)), (0, .ref a), (1, .ref b), (2, .int (I ts))]) hx hb dX4_testHolds_103 hl (k := 4) rfl (I_add _ _) (by decide) rfl (fun ls hl => ?_)
                refine lv_goto (tgt := 43) hx hb dX4_testHolds_106 (by decide) ?_
                exact ihJ_52 (z_111, v6q51 + 1) σ _ _ _ (by first | omega | (dsimp only; omega)) ⟨rfl, hH, hS, lv_sub hl [2, 3, 4, 1, 0] rfl, rz_111, ⟨by first | omega | (dsimp only; omega), by first | omega | (dsimp only; omega)⟩, by first | omega | (dsimp only; omega)⟩
              · replace c_104 := mt (I_eq (a := z_103) (b := 0) rz_103 (show rng 0 from ⟨by decide, by decide⟩)).mpr c_104
                refine lv_aload_n hx hb dX4_testHolds_72 rfl (lv_at hl 1 rfl) ?_
                refine lv_iload hx hb dX4_testHolds_73 (lv_at hl 3 rfl) ?_
                refine lv_aload_n hx hb dX4_testHolds_75 rfl (lv_at hl 0 rfl) ?_
                refine ok.getR hO h_a (by decide) k4_7 (by decide) (fun _ _ he hv kk => th_get (ci := 4) (C := RX4) (T := TX4) (N := 14) hx hb hts inX4 hown hK hH he rfl 7 (by decide) fl10 hv dX4_testHolds_76 kk) ?_
                refine lv_iload hx hb dX4_testHolds_79 (lv_at hl 4 rfl) ?_
                refine ok_iald hx hb hK hH hO h_a (by decide) k4_7 isA1 rv6q51 (by omega) (by omega) dX4_testHolds_81 (fun z_112 ez_112 rz_112 el9 => ?_)
                obtain ⟨z_113, e_114, rz_113, lz_113, uz_113⟩ := hO.gi h_b (by decide) k1_4
                obtain ⟨_, hc_115⟩ := hO.cell h_b (by decide) (ci := 9) rfl
                refine th_calli (va_runV (As := [.int (I v4q51), .int (I z_112)]) (rest := []) ⟨hx, hb, hml, hown, hts⟩ (t_childBy l G y b0 σ b (tvE E σ b 60) v4q51 z_112 (hO.isT1 h_b) (show rng v4q51 from rv4q51) (show rng z_112 from rz_112)) (cwV 2 hts gX4_testHolds_X9_childBy rfl rfl rfl (by decide +kernel) ⟨Nat.le_of_ble_eq_true rfl, Nat.le_of_ble_eq_true rfl⟩) (th_PV hK hH rfl hc_115) rfl rfl hl.1 rfl (lv_room (Nat.le_of_ble_eq_true rfl)) dX4_testHolds_82 ⟨Nat.le_of_ble_eq_true rfl, Nat.le_of_ble_eq_true rfl⟩) hS (fun z_118 σ_s_117 H locs rz_118 hw_116 hH hS => ?_)
                obtain ⟨e9, hw_116⟩ := hw_116
                replace e9 := e9.symm
                subst e9
                have hw_116 : z_118 = -1 ∨ (0 ≤ v4q51 ∧ v4q51 < z_118 ∧ z_118 < (gI σ b 4)) := hw_116
                refine lv_goto (tgt := 101) hx hb dX4_testHolds_85 (by decide) ?_
                refine lv_istore (lv' := [(4, .int (I z_118)), (0, .ref a), (1, .ref b), (2, .int (I ts)), (6, .int (I v6q51))]) hx hb dX4_testHolds_101 hl (by decide) rfl (fun ls hl => ?_)
                refine lv_iinc (v := I (v6q51 + 1)) (lv' := [(6, .int (I (v6q51 + 1))), (4, .int (I z_118)), (0, .ref a), (1, .ref b), (2, .int (I ts))]) hx hb dX4_testHolds_103 hl (k := 4) rfl (I_add _ _) (by decide) rfl (fun ls hl => ?_)
                refine lv_goto (tgt := 43) hx hb dX4_testHolds_106 (by decide) ?_
                exact ihJ_52 (z_118, v6q51 + 1) σ _ _ _ (by first | omega | (dsimp only; omega)) ⟨rfl, hH, hS, lv_sub hl [2, 3, 4, 1, 0] rfl, rz_118, ⟨by first | omega | (dsimp only; omega), by first | omega | (dsimp only; omega)⟩, by first | omega | (dsimp only; omega)⟩
      · refine lv_if_ne (tgt := 25) hx hb dX4_testHolds_18 (by decide) (fun c_119 => ?_) (fun c_119 => ?_)
        · replace c_119 := mt (I_eq (a := ts) (b := 0) rts (show rng 0 from ⟨by decide, by decide⟩)).mpr c_119
          refine lv_aload_n hx hb dX4_testHolds_25 rfl (lv_at hl 1 rfl) ?_
          refine ok.getR hO h_a (by decide) k4_9 (by decide) (fun _ _ he hv kk => th_get (ci := 4) (C := RX4) (T := TX4) (N := 14) hx hb hts inX4 hown hK hH he rfl 9 (by decide) fl5 hv dX4_testHolds_26 kk) ?_
          refine lv_iload_n hx hb dX4_testHolds_29 rfl (lv_at hl 3 rfl) ?_
          refine lv_iconst (v := I 1) hx hb dX4_testHolds_30 (by decide) ?_
          refine lv_isub hx hb dX4_testHolds_31 ?_
          refine th_subo (fun z_120 rz_120 hz_120 => ?_)
          refine ok_iald hx hb hK hH hO h_a (by decide) k4_9 isA1 rz_120 (by omega) (by omega) dX4_testHolds_32 (fun z_121 ez_121 rz_121 el9 => ?_)
          replace hl : lv_has ls 7 [(4, .int (I i)), (0, .ref a), (1, .ref b), (2, .int (I ts))] := lv_sub hl [0, 1, 2, 3] rfl
          exact jK_9 (z_121) σ _ _ _ ⟨rfl, hH, hS, lv_sub hl [1, 2, 3, 0] rfl, rz_121⟩
        · replace c_119 := (I_eq (a := ts) (b := 0) rts (show rng 0 from ⟨by decide, by decide⟩)).mp c_119
          refine lv_iconst (v := I 0) hx hb dX4_testHolds_21 (by decide) ?_
          refine lv_goto (tgt := 33) hx hb dX4_testHolds_22 (by decide) ?_
          replace hl : lv_has ls 7 [(4, .int (I i)), (0, .ref a), (1, .ref b), (2, .int (I ts))] := lv_sub hl [0, 1, 2, 3] rfl
          exact jK_9 (0) σ _ _ _ ⟨rfl, hH, hS, lv_sub hl [1, 2, 3, 0] rfl, (show rng 0 from ⟨by decide, by decide⟩)⟩
    · replace c_4 := mt (I_lt (a := ts) (b := z_2) rts rz_2).mpr c_4
      refine lv_iconst (v := I 0) hx hb dX4_testHolds_12 (by decide) ?_
      exact th_zret hx hb hr hlocks hH hS (z := 0) (by omega) ⟨rfl, ⟨by omega, by omega⟩, trivial⟩ dX4_testHolds_13

set_option maxHeartbeats 1000000 in
set_option maxRecDepth 100000 in
theorem p_holds (l : Launch) (G : va_G) (y : Nat → ClassId) (b0 : Nat) (σ : th_M) (E : th_E) (hO : ok y E σ) (a : Nat) (h_a : kd E a = 4) (b : Nat) (h_b : kd E b = 1) (f : Int) (rf : rng f) (i : Int) (ri : rng i) : Met l yX4_holds wsX4_holds ({ frames := 2, cells := 0, slots := 0, locals := 70 }) (th_P G y b0 σ [.ref a, .ref b, .int (I f), .int (I i)]) (th_Qi G b0 (fun r σ1 => σ1 = σ ∧ (0 ≤ r ∧ r ≤ 1) ∧ (True))) 0 0 (th_A b0) := by
  refine Met.ofW (cc := cX4_holds) (maxL := 7) (ret := (some .boolean)) (by decide) rfl ?_
  intro p e s m args below meth c s₁ B hml hv
  obtain ⟨rfl, hH, hK⟩ := hv
  have hx := B.exec
  have hb := B.bytes
  have hr := B.returns
  have hts := atoms_spec (ws := wsX4_holds) B.pre
  have hown : s.vm.findClass RX4 = some m.cls := findClass_of_methodNamed B.named
  have hlocks := B.notSynchronized
  have h00 : b0 ≤ s.heap.size := hH.1
  have hS : va_S (th_A b0) s.heap s.heap [] := va_S.rf
  have inX4 : ∀ w ∈ wsX40, w ∈ wsX4_holds := by decide +kernel
  have fl0 := hts (.methodLink RX4 108 Lib.Math.max.name) (by decide +kernel)
  have fl1 := hts (.static Lib.Math.max.name) (by decide +kernel)
  have fl2 := hts (.initialized "java/lang/Math") (by decide +kernel)
  have fl3 := hts (.code Lib.Math.max.name Lib.Math.max.code 2 (some .int)) (by decide +kernel)
  have fl4 := hts (.fieldLink RX4 47 "NestQuery$Path" "codeCount" "I") (by decide +kernel)
  have fl5 := hts (.fieldLink RX4 21 "NestQuery$Path" "code" "[I") (by decide +kernel)
  have hl := lv_entry ([.ref a, .ref b, .int (I f), .int (I i)]) (n := 7) (Nat.le_of_ble_eq_true rfl)
  rw [lg_entry_eq]
  generalize (lg_sl ([.ref a, .ref b, .int (I f), .int (I i)]) ++ List.replicate (7 - (lg_sl ([.ref a, .ref b, .int (I f), .int (I i)])).length) Slot.unset).toArray = ls at hl ⊢
  have hl : lv_has ls 7 [(0, .ref a), (1, .ref b), (2, .int (I f)), (3, .int (I i))] := hl
  refine lv_iconst (v := I 0) hx hb dX4_holds_0 (by decide) ?_
  refine lv_istore (lv' := [(4, .int (I 0)), (0, .ref a), (1, .ref b), (2, .int (I f)), (3, .int (I i))]) hx hb dX4_holds_1 hl (by decide) rfl (fun ls hl => ?_)
  refine lv_iconst (v := I 0) hx hb dX4_holds_3 (by decide) ?_
  refine lv_iload_n hx hb dX4_holds_4 rfl (lv_at hl 3 rfl) ?_
  refine va_mmax hx hb (by rw [hml]; exact hl.1.symm) hown fl0 fl1 fl2 fl3 (Nat.le_of_ble_eq_true rfl) (Nat.le_of_ble_eq_true rfl) (Nat.zero_le _) (Nat.zero_le _) dX4_holds_5 ?_
  refine th_mmax (show rng 0 from ⟨by decide, by decide⟩) rf (fun z_1 rz_1 hz_1 => ?_)
  refine lv_istore (lv' := [(5, .int (I z_1)), (4, .int (I 0)), (0, .ref a), (1, .ref b), (2, .int (I f)), (3, .int (I i))]) hx hb dX4_holds_8 hl (by decide) rfl (fun ls hl => ?_)
  replace hl : lv_has ls 7 [(5, .int (I z_1)), (4, .int (I 0)), (0, .ref a), (1, .ref b), (3, .int (I i))] := lv_sub hl [0, 1, 2, 3, 5] rfl
  refine th_loop (α := Int × Int) (pc := 10) (fun x9 => (128 - x9.2).toNat) (fun x9 σ9 H9 l9 ls9 => σ9 = σ ∧ th_H G b0 σ9 H9 ∧ va_S (th_A b0) s.heap H9 l9 ∧ lv_has ls9 7 [(0, .ref a), (1, .ref b), (3, .int (I i)), (4, .int (I x9.1)), (5, .int (I x9.2))] ∧ rng x9.1 ∧ rng x9.2 ∧ (0 ≤ x9.2)) ?_ (0, z_1) σ _ _ _ ⟨rfl, hH, hS, lv_sub hl [2, 3, 4, 1, 0] rfl, (show rng 0 from ⟨by decide, by decide⟩), rz_1, by first | omega | (dsimp only; omega)⟩
  intro x9 σ_J_28 H locs ls hI9 ihJ_28
  obtain ⟨v4q27, v5q27⟩ := x9
  obtain ⟨eJ_28, hH, hS, hl, rv4q27, rv5q27, J_28_0⟩ := hI9
  replace eJ_28 := eJ_28.symm
  subst eJ_28
  have hl : lv_has ls 7 [(0, .ref a), (1, .ref b), (3, .int (I i)), (4, .int (I v4q27)), (5, .int (I v5q27))] := hl
  have rv4q27 : rng v4q27 := rv4q27
  have rv5q27 : rng v5q27 := rv5q27
  have J_28_0 : 0 ≤ v5q27 := J_28_0
  refine lv_iload hx hb dX4_holds_10 (lv_at hl 4 rfl) ?_
  refine lv_aload_n hx hb dX4_holds_12 rfl (lv_at hl 0 rfl) ?_
  refine ok.getI hO h_a (by decide) k4_5 (fun _ _ he hv kk => th_get (ci := 4) (C := RX4) (T := TX4) (N := 14) hx hb hts inX4 hown hK hH he rfl 5 (by decide) fl4 hv dX4_holds_13 kk) (fun z_29 e_30 rz_29 lz_29 uz_29 => ?_)
  refine lv_icmp_ge (tgt := 134) hx hb dX4_holds_16 (by decide) (fun c_31 => ?_) (fun c_31 => ?_)
  · replace c_31 := (I_le (a := z_29) (b := v5q27) rz_29 rv5q27).mp c_31
    refine lv_iload hx hb dX4_holds_134 (lv_at hl 3 rfl) ?_
    refine lv_iconst (v := I 1) hx hb dX4_holds_136 (by decide) ?_
    refine lv_iand hx hb dX4_holds_137 ?_
    refine th_and1 (fun z_32 rz_32 hz_32 => ?_)
    refine lv_if_eq (tgt := 145) hx hb dX4_holds_138 (by decide) (fun c_33 => ?_) (fun c_33 => ?_)
    · replace c_33 := (I_eq (a := z_32) (b := 0) rz_32 (show rng 0 from ⟨by decide, by decide⟩)).mp c_33
      refine lv_iconst (v := I 0) hx hb dX4_holds_145 (by decide) ?_
      exact th_zret hx hb hr hlocks hH hS (z := 0) (by omega) ⟨rfl, ⟨by omega, by omega⟩, trivial⟩ dX4_holds_146
    · replace c_33 := mt (I_eq (a := z_32) (b := 0) rz_32 (show rng 0 from ⟨by decide, by decide⟩)).mpr c_33
      refine lv_iconst (v := I 1) hx hb dX4_holds_141 (by decide) ?_
      refine lv_goto (tgt := 146) hx hb dX4_holds_142 (by decide) ?_
      exact th_zret hx hb hr hlocks hH hS (z := 1) (by omega) ⟨rfl, ⟨by omega, by omega⟩, trivial⟩ dX4_holds_146
  · replace c_31 := mt (I_le (a := z_29) (b := v5q27) rz_29 rv5q27).mpr c_31
    refine lv_iload hx hb dX4_holds_19 (lv_at hl 4 rfl) ?_
    refine lv_sipush (v := I 128) hx hb dX4_holds_21 (by decide) ?_
    refine lv_icmp_ge (tgt := 134) hx hb dX4_holds_24 (by decide) (fun c_34 => ?_) (fun c_34 => ?_)
    · replace c_34 := (I_le (a := 128) (b := v5q27) (show rng 128 from ⟨by decide, by decide⟩) rv5q27).mp c_34
      refine lv_iload hx hb dX4_holds_134 (lv_at hl 3 rfl) ?_
      refine lv_iconst (v := I 1) hx hb dX4_holds_136 (by decide) ?_
      refine lv_iand hx hb dX4_holds_137 ?_
      refine th_and1 (fun z_35 rz_35 hz_35 => ?_)
      refine lv_if_eq (tgt := 145) hx hb dX4_holds_138 (by decide) (fun c_36 => ?_) (fun c_36 => ?_)
      · replace c_36 := (I_eq (a := z_35) (b := 0) rz_35 (show rng 0 from ⟨by decide, by decide⟩)).mp c_36
        refine lv_iconst (v := I 0) hx hb dX4_holds_145 (by decide) ?_
        exact th_zret hx hb hr hlocks hH hS (z := 0) (by omega) ⟨rfl, ⟨by omega, by omega⟩, trivial⟩ dX4_holds_146
      · replace c_36 := mt (I_eq (a := z_35) (b := 0) rz_35 (show rng 0 from ⟨by decide, by decide⟩)).mpr c_36
        refine lv_iconst (v := I 1) hx hb dX4_holds_141 (by decide) ?_
        refine lv_goto (tgt := 146) hx hb dX4_holds_142 (by decide) ?_
        exact th_zret hx hb hr hlocks hH hS (z := 1) (by omega) ⟨rfl, ⟨by omega, by omega⟩, trivial⟩ dX4_holds_146
    · replace c_34 := mt (I_le (a := 128) (b := v5q27) (show rng 128 from ⟨by decide, by decide⟩) rv5q27).mpr c_34
      refine lv_aload_n hx hb dX4_holds_27 rfl (lv_at hl 0 rfl) ?_
      refine ok.getR hO h_a (by decide) k4_4 (by decide) (fun _ _ he hv kk => th_get (ci := 4) (C := RX4) (T := TX4) (N := 14) hx hb hts inX4 hown hK hH he rfl 4 (by decide) fl5 hv dX4_holds_28 kk) ?_
      refine lv_iload hx hb dX4_holds_31 (lv_at hl 4 rfl) ?_
      refine ok_iald hx hb hK hH hO h_a (by decide) k4_4 isA1 rv5q27 (by omega) (by omega) dX4_holds_33 (fun z_37 ez_37 rz_37 el9 => ?_)
      refine lv_istore (lv' := [(6, .int (I z_37)), (0, .ref a), (1, .ref b), (3, .int (I i)), (4, .int (I v4q27)), (5, .int (I v5q27))]) hx hb dX4_holds_34 hl (by decide) rfl (fun ls hl => ?_)
      refine lv_iload hx hb dX4_holds_36 (lv_at hl 0 rfl) ?_
      refine lv_bipush (v := I (-5)) hx hb dX4_holds_38 (by decide) ?_
      refine lv_icmp_ne (tgt := 46) hx hb dX4_holds_40 (by decide) (fun c_38 => ?_) (fun c_38 => ?_)
      · replace c_38 := mt (I_eq (a := z_37) (b := (-5)) rz_37 (show rng (-5) from ⟨by decide, by decide⟩)).mpr c_38
        refine lv_iload hx hb dX4_holds_46 (lv_at hl 0 rfl) ?_
        refine lv_bipush (v := I (-4)) hx hb dX4_holds_48 (by decide) ?_
        refine lv_icmp_ne (tgt := 62) hx hb dX4_holds_50 (by decide) (fun c_39 => ?_) (fun c_39 => ?_)
        · replace c_39 := mt (I_eq (a := z_37) (b := (-4)) rz_37 (show rng (-4) from ⟨by decide, by decide⟩)).mpr c_39
          refine lv_iload hx hb dX4_holds_62 (lv_at hl 0 rfl) ?_
          refine lv_bipush (v := I (-2)) hx hb dX4_holds_64 (by decide) ?_
          refine lv_icmp_ne (tgt := 84) hx hb dX4_holds_66 (by decide) (fun c_40 => ?_) (fun c_40 => ?_)
          · replace c_40 := mt (I_eq (a := z_37) (b := (-2)) rz_37 (show rng (-2) from ⟨by decide, by decide⟩)).mpr c_40
            refine lv_iload hx hb dX4_holds_84 (lv_at hl 0 rfl) ?_
            refine lv_bipush (v := I (-3)) hx hb dX4_holds_86 (by decide) ?_
            refine lv_icmp_ne (tgt := 105) hx hb dX4_holds_88 (by decide) (fun c_41 => ?_) (fun c_41 => ?_)
            · replace c_41 := mt (I_eq (a := z_37) (b := (-3)) rz_37 (show rng (-3) from ⟨by decide, by decide⟩)).mpr c_41
              refine lv_iload hx hb dX4_holds_105 (lv_at hl 4 rfl) ?_
              refine lv_iconst (v := I 1) hx hb dX4_holds_107 (by decide) ?_
              refine lv_ishl hx hb dX4_holds_108 ?_
              refine th_topi (fun z_42 rz_42 => ?_)
              refine lv_aload_n hx hb dX4_holds_109 rfl (lv_at hl 1 rfl) ?_
              refine lv_aload_n hx hb dX4_holds_110 rfl (lv_at hl 2 rfl) ?_
              refine lv_iload hx hb dX4_holds_111 (lv_at hl 0 rfl) ?_
              refine lv_iload_n hx hb dX4_holds_113 rfl (lv_at hl 3 rfl) ?_
              obtain ⟨_, hc_43⟩ := hO.cell h_a (by decide) (ci := 4) rfl
              refine th_calli (va_runV (As := [.ref b, .int (I z_37), .int (I i)]) (rest := [.int (I z_42)]) ⟨hx, hb, hml, hown, hts⟩ (p_testHolds l G y b0 σ E hO a h_a b h_b z_37 (show rng z_37 from rz_37) i (show rng i from ri)) (cwV 3 hts gX4_holds_X4_testHolds rfl rfl rfl (by decide +kernel) ⟨Nat.le_of_ble_eq_true rfl, Nat.le_of_ble_eq_true rfl⟩) (th_PV hK hH rfl hc_43) rfl rfl hl.1 rfl (lv_room (Nat.le_of_ble_eq_true rfl)) dX4_holds_114 ⟨Nat.le_of_ble_eq_true rfl, Nat.le_of_ble_eq_true rfl⟩) hS (fun z_46 σ_s_45 H locs rz_46 hw_44 hH hS => ?_)
              obtain ⟨e9, bhw_44, hw_44⟩ := hw_44
              replace e9 := e9.symm
              subst e9
              refine lv_if_eq (tgt := 124) hx hb dX4_holds_117 (by decide) (fun c_47 => ?_) (fun c_47 => ?_)
              · replace c_47 := (I_eq (a := z_46) (b := 0) rz_46 (show rng 0 from ⟨by decide, by decide⟩)).mp c_47
                refine lv_iconst (v := I 0) hx hb dX4_holds_124 (by decide) ?_
                refine lv_ior hx hb dX4_holds_125 ?_
                refine th_topi (fun z_48 rz_48 => ?_)
                refine lv_istore (lv' := [(4, .int (I z_48)), (6, .int (I z_37)), (0, .ref a), (1, .ref b), (3, .int (I i)), (5, .int (I v5q27))]) hx hb dX4_holds_126 hl (by decide) rfl (fun ls hl => ?_)
                refine lv_iinc (v := I (v5q27 + 1)) (lv' := [(5, .int (I (v5q27 + 1))), (4, .int (I z_48)), (6, .int (I z_37)), (0, .ref a), (1, .ref b), (3, .int (I i))]) hx hb dX4_holds_128 hl (k := 5) rfl (I_add _ _) (by decide) rfl (fun ls hl => ?_)
                refine lv_goto (tgt := 10) hx hb dX4_holds_131 (by decide) ?_
                replace hl : lv_has ls 7 [(5, .int (I (v5q27 + 1))), (4, .int (I z_48)), (0, .ref a), (1, .ref b), (3, .int (I i))] := lv_sub hl [0, 1, 3, 4, 5] rfl
                exact ihJ_28 (z_48, v5q27 + 1) σ _ _ _ (by first | omega | (dsimp only; omega)) ⟨rfl, hH, hS, lv_sub hl [2, 3, 4, 1, 0] rfl, rz_48, ⟨by first | omega | (dsimp only; omega), by first | omega | (dsimp only; omega)⟩, by first | omega | (dsimp only; omega)⟩
              · replace c_47 := mt (I_eq (a := z_46) (b := 0) rz_46 (show rng 0 from ⟨by decide, by decide⟩)).mpr c_47
                refine lv_iconst (v := I 1) hx hb dX4_holds_120 (by decide) ?_
                refine lv_goto (tgt := 125) hx hb dX4_holds_121 (by decide) ?_
                refine lv_ior hx hb dX4_holds_125 ?_
                refine th_topi (fun z_49 rz_49 => ?_)
                refine lv_istore (lv' := [(4, .int (I z_49)), (6, .int (I z_37)), (0, .ref a), (1, .ref b), (3, .int (I i)), (5, .int (I v5q27))]) hx hb dX4_holds_126 hl (by decide) rfl (fun ls hl => ?_)
                refine lv_iinc (v := I (v5q27 + 1)) (lv' := [(5, .int (I (v5q27 + 1))), (4, .int (I z_49)), (6, .int (I z_37)), (0, .ref a), (1, .ref b), (3, .int (I i))]) hx hb dX4_holds_128 hl (k := 5) rfl (I_add _ _) (by decide) rfl (fun ls hl => ?_)
                refine lv_goto (tgt := 10) hx hb dX4_holds_131 (by decide) ?_
                replace hl : lv_has ls 7 [(5, .int (I (v5q27 + 1))), (4, .int (I z_49)), (0, .ref a), (1, .ref b), (3, .int (I i))] := lv_sub hl [0, 1, 3, 4, 5] rfl
                exact ihJ_28 (z_49, v5q27 + 1) σ _ _ _ (by first | omega | (dsimp only; omega)) ⟨rfl, hH, hS, lv_sub hl [2, 3, 4, 1, 0] rfl, rz_49, ⟨by first | omega | (dsimp only; omega), by first | omega | (dsimp only; omega)⟩, by first | omega | (dsimp only; omega)⟩
            · replace c_41 := (I_eq (a := z_37) (b := (-3)) rz_37 (show rng (-3) from ⟨by decide, by decide⟩)).mp c_41
              refine lv_iload hx hb dX4_holds_91 (lv_at hl 4 rfl) ?_
              refine lv_iconst (v := I 1) hx hb dX4_holds_93 (by decide) ?_
              refine lv_iushr hx hb dX4_holds_94 rfl ?_
              refine th_topi (fun z_50 rz_50 => ?_)
              refine lv_iload hx hb dX4_holds_95 (lv_at hl 4 rfl) ?_
              refine lv_iconst (v := I 1) hx hb dX4_holds_97 (by decide) ?_
              refine lv_iand hx hb dX4_holds_98 ?_
              refine th_and1 (fun z_51 rz_51 hz_51 => ?_)
              refine lv_ior hx hb dX4_holds_99 ?_
              refine th_topi (fun z_52 rz_52 => ?_)
              refine lv_istore (lv' := [(4, .int (I z_52)), (6, .int (I z_37)), (0, .ref a), (1, .ref b), (3, .int (I i)), (5, .int (I v5q27))]) hx hb dX4_holds_100 hl (by decide) rfl (fun ls hl => ?_)
              refine lv_goto (tgt := 128) hx hb dX4_holds_102 (by decide) ?_
              refine lv_iinc (v := I (v5q27 + 1)) (lv' := [(5, .int (I (v5q27 + 1))), (4, .int (I z_52)), (6, .int (I z_37)), (0, .ref a), (1, .ref b), (3, .int (I i))]) hx hb dX4_holds_128 hl (k := 5) rfl (I_add _ _) (by decide) rfl (fun ls hl => ?_)
              refine lv_goto (tgt := 10) hx hb dX4_holds_131 (by decide) ?_
              replace hl : lv_has ls 7 [(5, .int (I (v5q27 + 1))), (4, .int (I z_52)), (0, .ref a), (1, .ref b), (3, .int (I i))] := lv_sub hl [0, 1, 3, 4, 5] rfl
              exact ihJ_28 (z_52, v5q27 + 1) σ _ _ _ (by first | omega | (dsimp only; omega)) ⟨rfl, hH, hS, lv_sub hl [2, 3, 4, 1, 0] rfl, rz_52, ⟨by first | omega | (dsimp only; omega), by first | omega | (dsimp only; omega)⟩, by first | omega | (dsimp only; omega)⟩
          · replace c_40 := (I_eq (a := z_37) (b := (-2)) rz_37 (show rng (-2) from ⟨by decide, by decide⟩)).mp c_40
            refine lv_iload hx hb dX4_holds_69 (lv_at hl 4 rfl) ?_
            refine lv_iconst (v := I 1) hx hb dX4_holds_71 (by decide) ?_
            refine lv_iushr hx hb dX4_holds_72 rfl ?_
            refine th_topi (fun z_53 rz_53 => ?_)
            refine lv_iload hx hb dX4_holds_73 (lv_at hl 4 rfl) ?_
            refine lv_bipush (v := I (-2)) hx hb dX4_holds_75 (by decide) ?_
            refine lv_ior hx hb dX4_holds_77 ?_
            refine th_topi (fun z_54 rz_54 => ?_)
            refine lv_iand hx hb dX4_holds_78 ?_
            refine th_topi (fun z_55 rz_55 => ?_)
            refine lv_istore (lv' := [(4, .int (I z_55)), (6, .int (I z_37)), (0, .ref a), (1, .ref b), (3, .int (I i)), (5, .int (I v5q27))]) hx hb dX4_holds_79 hl (by decide) rfl (fun ls hl => ?_)
            refine lv_goto (tgt := 128) hx hb dX4_holds_81 (by decide) ?_
            refine lv_iinc (v := I (v5q27 + 1)) (lv' := [(5, .int (I (v5q27 + 1))), (4, .int (I z_55)), (6, .int (I z_37)), (0, .ref a), (1, .ref b), (3, .int (I i))]) hx hb dX4_holds_128 hl (k := 5) rfl (I_add _ _) (by decide) rfl (fun ls hl => ?_)
            refine lv_goto (tgt := 10) hx hb dX4_holds_131 (by decide) ?_
            replace hl : lv_has ls 7 [(5, .int (I (v5q27 + 1))), (4, .int (I z_55)), (0, .ref a), (1, .ref b), (3, .int (I i))] := lv_sub hl [0, 1, 3, 4, 5] rfl
            exact ihJ_28 (z_55, v5q27 + 1) σ _ _ _ (by first | omega | (dsimp only; omega)) ⟨rfl, hH, hS, lv_sub hl [2, 3, 4, 1, 0] rfl, rz_55, ⟨by first | omega | (dsimp only; omega), by first | omega | (dsimp only; omega)⟩, by first | omega | (dsimp only; omega)⟩
        · replace c_39 := (I_eq (a := z_37) (b := (-4)) rz_37 (show rng (-4) from ⟨by decide, by decide⟩)).mp c_39
          refine lv_iload hx hb dX4_holds_53 (lv_at hl 4 rfl) ?_
          refine lv_iconst (v := I 1) hx hb dX4_holds_55 (by decide) ?_
          refine lv_ixor hx hb dX4_holds_56 ?_
          refine th_topi (fun z_56 rz_56 => ?_)
          refine lv_istore (lv' := [(4, .int (I z_56)), (6, .int (I z_37)), (0, .ref a), (1, .ref b), (3, .int (I i)), (5, .int (I v5q27))]) hx hb dX4_holds_57 hl (by decide) rfl (fun ls hl => ?_)
          refine lv_goto (tgt := 128) hx hb dX4_holds_59 (by decide) ?_
          refine lv_iinc (v := I (v5q27 + 1)) (lv' := [(5, .int (I (v5q27 + 1))), (4, .int (I z_56)), (6, .int (I z_37)), (0, .ref a), (1, .ref b), (3, .int (I i))]) hx hb dX4_holds_128 hl (k := 5) rfl (I_add _ _) (by decide) rfl (fun ls hl => ?_)
          refine lv_goto (tgt := 10) hx hb dX4_holds_131 (by decide) ?_
          replace hl : lv_has ls 7 [(5, .int (I (v5q27 + 1))), (4, .int (I z_56)), (0, .ref a), (1, .ref b), (3, .int (I i))] := lv_sub hl [0, 1, 3, 4, 5] rfl
          exact ihJ_28 (z_56, v5q27 + 1) σ _ _ _ (by first | omega | (dsimp only; omega)) ⟨rfl, hH, hS, lv_sub hl [2, 3, 4, 1, 0] rfl, rz_56, ⟨by first | omega | (dsimp only; omega), by first | omega | (dsimp only; omega)⟩, by first | omega | (dsimp only; omega)⟩
      · replace c_38 := (I_eq (a := z_37) (b := (-5)) rz_37 (show rng (-5) from ⟨by decide, by decide⟩)).mp c_38
        refine lv_goto (tgt := 134) hx hb dX4_holds_43 (by decide) ?_
        refine lv_iload hx hb dX4_holds_134 (lv_at hl 4 rfl) ?_
        refine lv_iconst (v := I 1) hx hb dX4_holds_136 (by decide) ?_
        refine lv_iand hx hb dX4_holds_137 ?_
        refine th_and1 (fun z_57 rz_57 hz_57 => ?_)
        refine lv_if_eq (tgt := 145) hx hb dX4_holds_138 (by decide) (fun c_58 => ?_) (fun c_58 => ?_)
        · replace c_58 := (I_eq (a := z_57) (b := 0) rz_57 (show rng 0 from ⟨by decide, by decide⟩)).mp c_58
          refine lv_iconst (v := I 0) hx hb dX4_holds_145 (by decide) ?_
          exact th_zret hx hb hr hlocks hH hS (z := 0) (by omega) ⟨rfl, ⟨by omega, by omega⟩, trivial⟩ dX4_holds_146
        · replace c_58 := mt (I_eq (a := z_57) (b := 0) rz_57 (show rng 0 from ⟨by decide, by decide⟩)).mpr c_58
          refine lv_iconst (v := I 1) hx hb dX4_holds_141 (by decide) ?_
          refine lv_goto (tgt := 146) hx hb dX4_holds_142 (by decide) ?_
          exact th_zret hx hb hr hlocks hH hS (z := 1) (by omega) ⟨rfl, ⟨by omega, by omega⟩, trivial⟩ dX4_holds_146

set_option maxHeartbeats 1000000 in
set_option maxRecDepth 100000 in
theorem p_reached (l : Launch) (G : va_G) (y : Nat → ClassId) (b0 : Nat) (σ : th_M) (E : th_E) (hO : ok y E σ) (a : Nat) (h_a : kd E a = 4) (b : Nat) (h_b : kd E b = 1) (st : Int) (rst : rng st) (i : Int) (ri : rng i) (l_i : -1 ≤ i) (u_i : i ≤ 200) : Met l yX4_reached wsX4_reached ({ frames := 3, cells := 0, slots := 0, locals := 100 }) (th_P G y b0 σ [.ref a, .ref b, .int (I st), .int (I i)]) (th_Ql G b0 (fun r σ1 => σ1 = σ ∧ (True))) 0 0 (th_A b0) := by
  refine Met.ofW (cc := cX4_reached) (maxL := 4) (ret := (some .long)) (by decide) rfl ?_
  intro p e s m args below meth c s₁ B hml hv
  obtain ⟨rfl, hH, hK⟩ := hv
  have hx := B.exec
  have hb := B.bytes
  have hr := B.returns
  have hts := atoms_spec (ws := wsX4_reached) B.pre
  have hown : s.vm.findClass RX4 = some m.cls := findClass_of_methodNamed B.named
  have hlocks := B.notSynchronized
  have h00 : b0 ≤ s.heap.size := hH.1
  have hS : va_S (th_A b0) s.heap s.heap [] := va_S.rf
  have inX4 : ∀ w ∈ wsX40, w ∈ wsX4_reached := by decide +kernel
  have fl0 := hts (.fieldLink RX4 43 "NestQuery$Path" "stepCount" "I") (by decide +kernel)
  have fl1 := hts (.fieldLink RX4 9 "NestQuery$Path" "stepKinds" "[I") (by decide +kernel)
  have fl2 := hts (.fieldLink RX4 15 "NestQuery$Path" "stepFirsts" "[I") (by decide +kernel)
  have fl3 := hts (.initialized RX10) (by decide +kernel)
  have fl4 := hts (.static yX10_bit) (by decide +kernel)
  have hl := lv_entry ([.ref a, .ref b, .int (I st), .int (I i)]) (n := 4) (Nat.le_of_ble_eq_true rfl)
  rw [lg_entry_eq]
  generalize (lg_sl ([.ref a, .ref b, .int (I st), .int (I i)]) ++ List.replicate (4 - (lg_sl ([.ref a, .ref b, .int (I st), .int (I i)])).length) Slot.unset).toArray = ls at hl ⊢
  have hl : lv_has ls 4 [(0, .ref a), (1, .ref b), (2, .int (I st)), (3, .int (I i))] := hl
  refine lv_iload_n hx hb dX4_reached_0 rfl (lv_at hl 2 rfl) ?_
  refine lv_if_lt (tgt := 12) hx hb dX4_reached_1 (by decide) (fun c_1 => ?_) (fun c_1 => ?_)
  · replace c_1 := (I_lt (a := st) (b := 0) rst (show rng 0 from ⟨by decide, by decide⟩)).mp c_1
    refine lv_lconst (v := 0) hx hb dX4_reached_12 (by decide) ?_
    exact th_lret hx hb hr hlocks hH hS (z := 0) ⟨rfl, trivial⟩ dX4_reached_13
  · replace c_1 := mt (I_lt (a := st) (b := 0) rst (show rng 0 from ⟨by decide, by decide⟩)).mpr c_1
    refine lv_iload_n hx hb dX4_reached_4 rfl (lv_at hl 2 rfl) ?_
    refine lv_aload_n hx hb dX4_reached_5 rfl (lv_at hl 0 rfl) ?_
    refine ok.getI hO h_a (by decide) k4_3 (fun _ _ he hv kk => th_get (ci := 4) (C := RX4) (T := TX4) (N := 14) hx hb hts inX4 hown hK hH he rfl 3 (by decide) fl0 hv dX4_reached_6 kk) (fun z_2 e_3 rz_2 lz_2 uz_2 => ?_)
    refine lv_icmp_lt (tgt := 14) hx hb dX4_reached_9 (by decide) (fun c_4 => ?_) (fun c_4 => ?_)
    · replace c_4 := (I_lt (a := st) (b := z_2) rst rz_2).mp c_4
      refine lv_aload_n hx hb dX4_reached_14 rfl (lv_at hl 0 rfl) ?_
      refine ok.getR hO h_a (by decide) k4_0 (by decide) (fun _ _ he hv kk => th_get (ci := 4) (C := RX4) (T := TX4) (N := 14) hx hb hts inX4 hown hK hH he rfl 0 (by decide) fl1 hv dX4_reached_15 kk) ?_
      refine lv_iload_n hx hb dX4_reached_18 rfl (lv_at hl 2 rfl) ?_
      refine ok_iald hx hb hK hH hO h_a (by decide) k4_0 isA1 rst (by omega) (by omega) dX4_reached_19 (fun z_5 ez_5 rz_5 el9 => ?_)
      refine th_case (a := z_5) (n := 0) (fun c_6_0 => ?_) (fun c_6_0 => ?_)
      · rw [c_6_0]
        refine lv_tableIn (tgt := 60) hx hb dX4_reached_20 (by decide) (by decide) (by rfl) (by decide) ?_
        refine lv_aload_n hx hb dX4_reached_60 rfl (lv_at hl 1 rfl) ?_
        refine lv_iload_n hx hb dX4_reached_61 rfl (lv_at hl 3 rfl) ?_
        refine lv_aload_n hx hb dX4_reached_62 rfl (lv_at hl 0 rfl) ?_
        refine ok.getR hO h_a (by decide) k4_1 (by decide) (fun _ _ he hv kk => th_get (ci := 4) (C := RX4) (T := TX4) (N := 14) hx hb hts inX4 hown hK hH he rfl 1 (by decide) fl2 hv dX4_reached_63 kk) ?_
        refine lv_iload_n hx hb dX4_reached_66 rfl (lv_at hl 2 rfl) ?_
        refine ok_iald hx hb hK hH hO h_a (by decide) k4_1 isA1 rst (by omega) (by omega) dX4_reached_67 (fun z_7 ez_7 rz_7 el9 => ?_)
        obtain ⟨z_8, e_9, rz_8, lz_8, uz_8⟩ := hO.gi h_b (by decide) k1_4
        obtain ⟨_, hc_10⟩ := hO.cell h_b (by decide) (ci := 9) rfl
        refine th_calli (va_runV (As := [.int (I i), .int (I z_7)]) (rest := []) ⟨hx, hb, hml, hown, hts⟩ (t_childBy l G y b0 σ b (tvE E σ b 60) i z_7 (hO.isT1 h_b) (show rng i from ri) (show rng z_7 from rz_7)) (cwV 2 hts gX4_reached_X9_childBy rfl rfl rfl (by decide +kernel) ⟨Nat.le_of_ble_eq_true rfl, Nat.le_of_ble_eq_true rfl⟩) (th_PV hK hH rfl hc_10) rfl rfl hl.1 rfl (lv_room (Nat.le_of_ble_eq_true rfl)) dX4_reached_68 ⟨Nat.le_of_ble_eq_true rfl, Nat.le_of_ble_eq_true rfl⟩) hS (fun z_13 σ_s_12 H locs rz_13 hw_11 hH hS => ?_)
        obtain ⟨e9, hw_11⟩ := hw_11
        replace e9 := e9.symm
        subst e9
        have hw_11 : z_13 = -1 ∨ (0 ≤ i ∧ i < z_13 ∧ z_13 < (gI σ b 4)) := hw_11
        refine th_calll (va_runSN (As := [.int (I z_13)]) (rest := []) ⟨hx, hb, hml, hown, hts⟩ (n_bit l G y b0 σ E hO z_13 (show rng z_13 from rz_13)) ⟨(va_cnB 1 hts gX4_reached_X10_bit_n73 rfl rfl rfl (ml_6 hK) fl3 (by decide +kernel) ⟨Nat.le_of_ble_eq_true rfl, Nat.le_of_ble_eq_true rfl⟩), fl4, trivial⟩ (th_PS hK hH) rfl rfl hl.1 rfl (lv_room (Nat.le_of_ble_eq_true rfl)) dX4_reached_71 ⟨Nat.le_of_ble_eq_true rfl, Nat.le_of_ble_eq_true rfl⟩) hS (fun w_16 σ_s_15 H locs hw_14 hH hS => ?_)
        obtain ⟨e9, hw_14⟩ := hw_14
        replace e9 := e9.symm
        subst e9
        exact th_lret hx hb hr hlocks hH hS (z := w_16) ⟨rfl, trivial⟩ dX4_reached_74
      · refine th_case (a := z_5) (n := 1) (fun c_6_1 => ?_) (fun c_6_1 => ?_)
        · rw [c_6_1]
          refine lv_tableIn (tgt := 75) hx hb dX4_reached_20 (by decide) (by decide) (by rfl) (by decide) ?_
          refine lv_aload_n hx hb dX4_reached_75 rfl (lv_at hl 1 rfl) ?_
          refine lv_iload_n hx hb dX4_reached_76 rfl (lv_at hl 3 rfl) ?_
          refine lv_iconst (v := I 0) hx hb dX4_reached_77 (by decide) ?_
          refine lv_bipush (v := I 60) hx hb dX4_reached_78 (by decide) ?_
          refine th_calll (va_runS (As := [.ref b, .int (I i), .int (I 0), .int (I 60)]) (rest := []) ⟨hx, hb, hml, hown, hts⟩ (p_children l G y b0 σ E hO b h_b i (show rng i from ri) (by omega) (by omega) 0 (show rng 0 from (show rng 0 from ⟨by decide, by decide⟩)) 60 (show rng 60 from (show rng 60 from ⟨by decide, by decide⟩))) (va_cwS 4 hts gX4_reached_X4_children rfl rfl rfl (by decide +kernel) ⟨Nat.le_of_ble_eq_true rfl, Nat.le_of_ble_eq_true rfl⟩) (th_PS hK hH) rfl rfl hl.1 rfl (lv_room (Nat.le_of_ble_eq_true rfl)) dX4_reached_80 ⟨Nat.le_of_ble_eq_true rfl, Nat.le_of_ble_eq_true rfl⟩) hS (fun w_19 σ_s_18 H locs hw_17 hH hS => ?_)
          obtain ⟨e9, hw_17⟩ := hw_17
          replace e9 := e9.symm
          subst e9
          exact th_lret hx hb hr hlocks hH hS (z := w_19) ⟨rfl, trivial⟩ dX4_reached_83
        · refine th_case (a := z_5) (n := 2) (fun c_6_2 => ?_) (fun c_6_2 => ?_)
          · rw [c_6_2]
            refine lv_tableIn (tgt := 84) hx hb dX4_reached_20 (by decide) (by decide) (by rfl) (by decide) ?_
            refine lv_aload_n hx hb dX4_reached_84 rfl (lv_at hl 1 rfl) ?_
            refine lv_iload_n hx hb dX4_reached_85 rfl (lv_at hl 3 rfl) ?_
            refine th_calll (va_runS (As := [.ref b, .int (I i)]) (rest := []) ⟨hx, hb, hml, hown, hts⟩ (p_allWithin l G y b0 σ E hO b h_b i (show rng i from ri) (by omega) (by omega)) (va_cwS 2 hts gX4_reached_X4_allWithin rfl rfl rfl (by decide +kernel) ⟨Nat.le_of_ble_eq_true rfl, Nat.le_of_ble_eq_true rfl⟩) (th_PS hK hH) rfl rfl hl.1 rfl (lv_room (Nat.le_of_ble_eq_true rfl)) dX4_reached_86 ⟨Nat.le_of_ble_eq_true rfl, Nat.le_of_ble_eq_true rfl⟩) hS (fun w_22 σ_s_21 H locs hw_20 hH hS => ?_)
            obtain ⟨e9, hw_20⟩ := hw_20
            replace e9 := e9.symm
            subst e9
            exact th_lret hx hb hr hlocks hH hS (z := w_22) ⟨rfl, trivial⟩ dX4_reached_89
          · refine th_case (a := z_5) (n := 3) (fun c_6_3 => ?_) (fun c_6_3 => ?_)
            · rw [c_6_3]
              refine lv_tableIn (tgt := 90) hx hb dX4_reached_20 (by decide) (by decide) (by rfl) (by decide) ?_
              refine lv_aload_n hx hb dX4_reached_90 rfl (lv_at hl 1 rfl) ?_
              refine lv_iload_n hx hb dX4_reached_91 rfl (lv_at hl 3 rfl) ?_
              refine lv_aload_n hx hb dX4_reached_92 rfl (lv_at hl 0 rfl) ?_
              refine ok.getR hO h_a (by decide) k4_1 (by decide) (fun _ _ he hv kk => th_get (ci := 4) (C := RX4) (T := TX4) (N := 14) hx hb hts inX4 hown hK hH he rfl 1 (by decide) fl2 hv dX4_reached_93 kk) ?_
              refine lv_iload_n hx hb dX4_reached_96 rfl (lv_at hl 2 rfl) ?_
              refine ok_iald hx hb hK hH hO h_a (by decide) k4_1 isA1 rst (by omega) (by omega) dX4_reached_97 (fun z_23 ez_23 rz_23 el9 => ?_)
              obtain ⟨z_24, e_25, rz_24, lz_24, uz_24⟩ := hO.gi h_b (by decide) k1_4
              obtain ⟨_, hc_26⟩ := hO.cell h_b (by decide) (ci := 9) rfl
              refine th_calli (va_runV (As := [.int (I i), .int (I z_23)]) (rest := []) ⟨hx, hb, hml, hown, hts⟩ (t_listed l G y b0 σ b (tvE E σ b 60) i z_23 (hO.isT1 h_b) (show rng i from ri) (show rng z_23 from rz_23)) (cwV 2 hts gX4_reached_X9_listed rfl rfl rfl (by decide +kernel) ⟨Nat.le_of_ble_eq_true rfl, Nat.le_of_ble_eq_true rfl⟩) (th_PV hK hH rfl hc_26) rfl rfl hl.1 rfl (lv_room (Nat.le_of_ble_eq_true rfl)) dX4_reached_98 ⟨Nat.le_of_ble_eq_true rfl, Nat.le_of_ble_eq_true rfl⟩) hS (fun z_29 σ_s_28 H locs rz_29 hw_27 hH hS => ?_)
              obtain ⟨e9, hw_27⟩ := hw_27
              replace e9 := e9.symm
              subst e9
              have hw_27 : z_29 = -1 ∨ (0 ≤ i ∧ i < z_29 ∧ z_29 < (gI σ b 4)) := hw_27
              refine th_calll (va_runSN (As := [.int (I z_29)]) (rest := []) ⟨hx, hb, hml, hown, hts⟩ (n_bit l G y b0 σ E hO z_29 (show rng z_29 from rz_29)) ⟨(va_cnB 1 hts gX4_reached_X10_bit_n73 rfl rfl rfl (ml_6 hK) fl3 (by decide +kernel) ⟨Nat.le_of_ble_eq_true rfl, Nat.le_of_ble_eq_true rfl⟩), fl4, trivial⟩ (th_PS hK hH) rfl rfl hl.1 rfl (lv_room (Nat.le_of_ble_eq_true rfl)) dX4_reached_101 ⟨Nat.le_of_ble_eq_true rfl, Nat.le_of_ble_eq_true rfl⟩) hS (fun w_32 σ_s_31 H locs hw_30 hH hS => ?_)
              obtain ⟨e9, hw_30⟩ := hw_30
              replace e9 := e9.symm
              subst e9
              exact th_lret hx hb hr hlocks hH hS (z := w_32) ⟨rfl, trivial⟩ dX4_reached_104
            · refine th_case (a := z_5) (n := 4) (fun c_6_4 => ?_) (fun c_6_4 => ?_)
              · rw [c_6_4]
                refine lv_tableIn (tgt := 105) hx hb dX4_reached_20 (by decide) (by decide) (by rfl) (by decide) ?_
                refine lv_aload_n hx hb dX4_reached_105 rfl (lv_at hl 0 rfl) ?_
                refine lv_aload_n hx hb dX4_reached_106 rfl (lv_at hl 1 rfl) ?_
                refine lv_iload_n hx hb dX4_reached_107 rfl (lv_at hl 2 rfl) ?_
                refine lv_iload_n hx hb dX4_reached_108 rfl (lv_at hl 3 rfl) ?_
                obtain ⟨_, hc_33⟩ := hO.cell h_a (by decide) (ci := 4) rfl
                refine th_calll (va_runV (As := [.ref b, .int (I st), .int (I i)]) (rest := []) ⟨hx, hb, hml, hown, hts⟩ (p_stretch l G y b0 σ E hO a h_a b h_b st (show rng st from rst) i (show rng i from ri) (by omega) (by omega)) (cwV 3 hts gX4_reached_X4_stretch rfl rfl rfl (by decide +kernel) ⟨Nat.le_of_ble_eq_true rfl, Nat.le_of_ble_eq_true rfl⟩) (th_PV hK hH rfl hc_33) rfl rfl hl.1 rfl (lv_room (Nat.le_of_ble_eq_true rfl)) dX4_reached_109 ⟨Nat.le_of_ble_eq_true rfl, Nat.le_of_ble_eq_true rfl⟩) hS (fun w_36 σ_s_35 H locs hw_34 hH hS => ?_)
                obtain ⟨e9, hw_34⟩ := hw_34
                replace e9 := e9.symm
                subst e9
                exact th_lret hx hb hr hlocks hH hS (z := w_36) ⟨rfl, trivial⟩ dX4_reached_112
              · refine th_case (a := z_5) (n := 5) (fun c_6_5 => ?_) (fun c_6_5 => ?_)
                · rw [c_6_5]
                  refine lv_tableIn (tgt := 113) hx hb dX4_reached_20 (by decide) (by decide) (by rfl) (by decide) ?_
                  refine lv_aload_n hx hb dX4_reached_113 rfl (lv_at hl 0 rfl) ?_
                  refine lv_aload_n hx hb dX4_reached_114 rfl (lv_at hl 1 rfl) ?_
                  refine lv_aload_n hx hb dX4_reached_115 rfl (lv_at hl 0 rfl) ?_
                  refine ok.getR hO h_a (by decide) k4_1 (by decide) (fun _ _ he hv kk => th_get (ci := 4) (C := RX4) (T := TX4) (N := 14) hx hb hts inX4 hown hK hH he rfl 1 (by decide) fl2 hv dX4_reached_116 kk) ?_
                  refine lv_iload_n hx hb dX4_reached_119 rfl (lv_at hl 2 rfl) ?_
                  refine ok_iald hx hb hK hH hO h_a (by decide) k4_1 isA1 rst (by omega) (by omega) dX4_reached_120 (fun z_37 ez_37 rz_37 el9 => ?_)
                  refine lv_iload_n hx hb dX4_reached_121 rfl (lv_at hl 3 rfl) ?_
                  obtain ⟨_, hc_38⟩ := hO.cell h_a (by decide) (ci := 4) rfl
                  refine th_calli (va_runV (As := [.ref b, .int (I z_37), .int (I i)]) (rest := []) ⟨hx, hb, hml, hown, hts⟩ (p_holds l G y b0 σ E hO a h_a b h_b z_37 (show rng z_37 from rz_37) i (show rng i from ri)) (cwV 3 hts gX4_reached_X4_holds rfl rfl rfl (by decide +kernel) ⟨Nat.le_of_ble_eq_true rfl, Nat.le_of_ble_eq_true rfl⟩) (th_PV hK hH rfl hc_38) rfl rfl hl.1 rfl (lv_room (Nat.le_of_ble_eq_true rfl)) dX4_reached_122 ⟨Nat.le_of_ble_eq_true rfl, Nat.le_of_ble_eq_true rfl⟩) hS (fun z_41 σ_s_40 H locs rz_41 hw_39 hH hS => ?_)
                  obtain ⟨e9, bhw_39, hw_39⟩ := hw_39
                  replace e9 := e9.symm
                  subst e9
                  refine lv_if_eq (tgt := 135) hx hb dX4_reached_125 (by decide) (fun c_42 => ?_) (fun c_42 => ?_)
                  · replace c_42 := (I_eq (a := z_41) (b := 0) rz_41 (show rng 0 from ⟨by decide, by decide⟩)).mp c_42
                    refine lv_lconst (v := 0) hx hb dX4_reached_135 (by decide) ?_
                    exact th_lret hx hb hr hlocks hH hS (z := 0) ⟨rfl, trivial⟩ dX4_reached_136
                  · replace c_42 := mt (I_eq (a := z_41) (b := 0) rz_41 (show rng 0 from ⟨by decide, by decide⟩)).mpr c_42
                    refine lv_iload_n hx hb dX4_reached_128 rfl (lv_at hl 3 rfl) ?_
                    refine th_calll (va_runSN (As := [.int (I i)]) (rest := []) ⟨hx, hb, hml, hown, hts⟩ (n_bit l G y b0 σ E hO i (show rng i from ri)) ⟨(va_cnB 1 hts gX4_reached_X10_bit_n73 rfl rfl rfl (ml_6 hK) fl3 (by decide +kernel) ⟨Nat.le_of_ble_eq_true rfl, Nat.le_of_ble_eq_true rfl⟩), fl4, trivial⟩ (th_PS hK hH) rfl rfl hl.1 rfl (lv_room (Nat.le_of_ble_eq_true rfl)) dX4_reached_129 ⟨Nat.le_of_ble_eq_true rfl, Nat.le_of_ble_eq_true rfl⟩) hS (fun w_45 σ_s_44 H locs hw_43 hH hS => ?_)
                    obtain ⟨e9, hw_43⟩ := hw_43
                    replace e9 := e9.symm
                    subst e9
                    refine lv_goto (tgt := 136) hx hb dX4_reached_132 (by decide) ?_
                    exact th_lret hx hb hr hlocks hH hS (z := w_45) ⟨rfl, trivial⟩ dX4_reached_136
                · refine th_tableOut (tgt := 137) hx hb rz_5 dX4_reached_20 (by omega) (by decide) ?_
                  refine lv_lconst (v := 0) hx hb dX4_reached_137 (by decide) ?_
                  exact th_lret hx hb hr hlocks hH hS (z := 0) ⟨rfl, trivial⟩ dX4_reached_138
    · replace c_4 := mt (I_lt (a := st) (b := z_2) rst rz_2).mpr c_4
      refine lv_lconst (v := 0) hx hb dX4_reached_12 (by decide) ?_
      exact th_lret hx hb hr hlocks hH hS (z := 0) ⟨rfl, trivial⟩ dX4_reached_13

set_option maxHeartbeats 1000000 in
set_option maxRecDepth 100000 in
theorem p_answersIn (l : Launch) (G : va_G) (y : Nat → ClassId) (b0 : Nat) (σ : th_M) (E : th_E) (hO : ok y E σ) (a : Nat) (h_a : kd E a = 4) (b : Nat) (h_b : kd E b = 1) (n : Int) (rn : rng n) : Met l yX4_answersIn wsX4_answersIn ({ frames := 4, cells := 0, slots := 0, locals := 127 }) (th_P G y b0 σ [.ref a, .ref b, .int (I n)]) (th_Ql G b0 (fun r σ1 => σ1 = σ ∧ (True))) 0 0 (th_A b0) := by
  refine Met.ofW (cc := cX4_answersIn) (maxL := 9) (ret := (some .long)) (by decide) rfl ?_
  intro p e s m args below meth c s₁ B hml hv
  obtain ⟨rfl, hH, hK⟩ := hv
  have hx := B.exec
  have hb := B.bytes
  have hr := B.returns
  have hts := atoms_spec (ws := wsX4_answersIn) B.pre
  have hown : s.vm.findClass RX4 = some m.cls := findClass_of_methodNamed B.named
  have hlocks := B.notSynchronized
  have h00 : b0 ≤ s.heap.size := hH.1
  have hS : va_S (th_A b0) s.heap s.heap [] := va_S.rf
  have inX4 : ∀ w ∈ wsX40, w ∈ wsX4_answersIn := by decide +kernel
  have inX9 : ∀ w ∈ wsX90, w ∈ wsX4_answersIn := by decide +kernel
  have fl0 := hts (.fieldLink RX4 43 "NestQuery$Path" "stepCount" "I") (by decide +kernel)
  have hl := lv_entry ([.ref a, .ref b, .int (I n)]) (n := 9) (Nat.le_of_ble_eq_true rfl)
  rw [lg_entry_eq]
  generalize (lg_sl ([.ref a, .ref b, .int (I n)]) ++ List.replicate (9 - (lg_sl ([.ref a, .ref b, .int (I n)])).length) Slot.unset).toArray = ls at hl ⊢
  have hl : lv_has ls 9 [(0, .ref a), (1, .ref b), (2, .int (I n))] := hl
  refine lv_lconst (v := 1) hx hb dX4_answersIn_0 (by decide) ?_
  refine lv_lstore_n (lv' := [(3, .long 1), (0, .ref a), (1, .ref b), (2, .int (I n))]) hx hb dX4_answersIn_1 rfl hl (by decide) rfl (fun ls hl => ?_)
  refine lv_iconst (v := I 0) hx hb dX4_answersIn_2 (by decide) ?_
  refine lv_istore (lv' := [(5, .int (I 0)), (3, .long 1), (0, .ref a), (1, .ref b), (2, .int (I n))]) hx hb dX4_answersIn_3 hl (by decide) rfl (fun ls hl => ?_)
  refine th_loop (α := Int64 × Int) (pc := 5) (fun x9 => (9 - x9.2).toNat) (fun x9 σ9 H9 l9 ls9 => σ9 = σ ∧ th_H G b0 σ9 H9 ∧ va_S (th_A b0) s.heap H9 l9 ∧ lv_has ls9 9 [(0, .ref a), (1, .ref b), (2, .int (I n)), (3, .long x9.1), (5, .int (I x9.2))] ∧ rng x9.2 ∧ (0 ≤ x9.2) ∧ (x9.2 ≤ 8)) ?_ (1, 0) σ _ _ _ ⟨rfl, hH, hS, lv_sub hl [2, 3, 4, 1, 0] rfl, (show rng 0 from ⟨by decide, by decide⟩), by first | omega | (dsimp only; omega), by first | omega | (dsimp only; omega)⟩
  intro x9 σ_J_36 H locs ls hI9 ihJ_36
  obtain ⟨v3q35, v5q35⟩ := x9
  obtain ⟨eJ_36, hH, hS, hl, rv5q35, J_36_0, J_36_1⟩ := hI9
  replace eJ_36 := eJ_36.symm
  subst eJ_36
  have hl : lv_has ls 9 [(0, .ref a), (1, .ref b), (2, .int (I n)), (3, .long v3q35), (5, .int (I v5q35))] := hl
  have rv5q35 : rng v5q35 := rv5q35
  have J_36_0 : 0 ≤ v5q35 := J_36_0
  have J_36_1 : v5q35 ≤ 8 := J_36_1
  refine lv_iload hx hb dX4_answersIn_5 (lv_at hl 4 rfl) ?_
  refine lv_iload_n hx hb dX4_answersIn_7 rfl (lv_at hl 2 rfl) ?_
  refine lv_icmp_ge (tgt := 80) hx hb dX4_answersIn_8 (by decide) (fun c_37 => ?_) (fun c_37 => ?_)
  · replace c_37 := (I_le (a := n) (b := v5q35) rn rv5q35).mp c_37
    refine lv_lload_n hx hb dX4_answersIn_80 rfl (lv_at hl 3 rfl) ?_
    exact th_lret hx hb hr hlocks hH hS (z := v3q35) ⟨rfl, trivial⟩ dX4_answersIn_81
  · replace c_37 := mt (I_le (a := n) (b := v5q35) rn rv5q35).mpr c_37
    refine lv_iload hx hb dX4_answersIn_11 (lv_at hl 4 rfl) ?_
    refine lv_aload_n hx hb dX4_answersIn_13 rfl (lv_at hl 0 rfl) ?_
    refine ok.getI hO h_a (by decide) k4_3 (fun _ _ he hv kk => th_get (ci := 4) (C := RX4) (T := TX4) (N := 14) hx hb hts inX4 hown hK hH he rfl 3 (by decide) fl0 hv dX4_answersIn_14 kk) (fun z_38 e_39 rz_38 lz_38 uz_38 => ?_)
    refine lv_icmp_ge (tgt := 80) hx hb dX4_answersIn_17 (by decide) (fun c_40 => ?_) (fun c_40 => ?_)
    · replace c_40 := (I_le (a := z_38) (b := v5q35) rz_38 rv5q35).mp c_40
      refine lv_lload_n hx hb dX4_answersIn_80 rfl (lv_at hl 3 rfl) ?_
      exact th_lret hx hb hr hlocks hH hS (z := v3q35) ⟨rfl, trivial⟩ dX4_answersIn_81
    · replace c_40 := mt (I_le (a := z_38) (b := v5q35) rz_38 rv5q35).mpr c_40
      refine lv_lload_n hx hb dX4_answersIn_20 rfl (lv_at hl 3 rfl) ?_
      refine lv_lstore (lv' := [(6, .long v3q35), (0, .ref a), (1, .ref b), (2, .int (I n)), (3, .long v3q35), (5, .int (I v5q35))]) hx hb dX4_answersIn_21 hl (by decide) rfl (fun ls hl => ?_)
      refine lv_lconst (v := 0) hx hb dX4_answersIn_23 (by decide) ?_
      refine lv_lstore_n (lv' := [(3, .long 0), (6, .long v3q35), (0, .ref a), (1, .ref b), (2, .int (I n)), (5, .int (I v5q35))]) hx hb dX4_answersIn_24 rfl hl (by decide) rfl (fun ls hl => ?_)
      refine lv_iconst (v := I 0) hx hb dX4_answersIn_25 (by decide) ?_
      refine lv_istore (lv' := [(8, .int (I 0)), (3, .long 0), (6, .long v3q35), (0, .ref a), (1, .ref b), (2, .int (I n)), (5, .int (I v5q35))]) hx hb dX4_answersIn_26 hl (by decide) rfl (fun ls hl => ?_)
      refine th_loop (α := Int64 × Int) (pc := 28) (fun x9 => (61 - x9.2).toNat) (fun x9 σ9 H9 l9 ls9 => σ9 = σ ∧ th_H G b0 σ9 H9 ∧ va_S (th_A b0) s.heap H9 l9 ∧ lv_has ls9 9 [(0, .ref a), (1, .ref b), (2, .int (I n)), (3, .long x9.1), (5, .int (I v5q35)), (6, .long v3q35), (8, .int (I x9.2))] ∧ rng x9.2 ∧ (0 ≤ x9.2) ∧ (x9.2 ≤ 60)) ?_ (0, 0) σ _ _ _ ⟨rfl, hH, hS, lv_sub hl [3, 4, 5, 1, 6, 2, 0] rfl, (show rng 0 from ⟨by decide, by decide⟩), by first | omega | (dsimp only; omega), by first | omega | (dsimp only; omega)⟩
      intro x9 σ_J_42 H locs ls hI9 ihJ_42
      obtain ⟨v3q41, v8q41⟩ := x9
      obtain ⟨eJ_42, hH, hS, hl, rv8q41, J_42_0, J_42_1⟩ := hI9
      replace eJ_42 := eJ_42.symm
      subst eJ_42
      have hl : lv_has ls 9 [(0, .ref a), (1, .ref b), (2, .int (I n)), (3, .long v3q41), (5, .int (I v5q35)), (6, .long v3q35), (8, .int (I v8q41))] := hl
      have rv8q41 : rng v8q41 := rv8q41
      have J_42_0 : 0 ≤ v8q41 := J_42_0
      have J_42_1 : v8q41 ≤ 60 := J_42_1
      refine lv_iload hx hb dX4_answersIn_28 (lv_at hl 6 rfl) ?_
      refine lv_aload_n hx hb dX4_answersIn_30 rfl (lv_at hl 1 rfl) ?_
      refine ok.getI hO h_b (by decide) k1_4 (fun _ _ he hv kk => th_getN (ci := 9) (C := RX9) (T := TX9) (N := 5) hx hb hts inX9 hown hK hH he rfl 4 (by decide) (nl_12 hK) hv dX4_answersIn_31 kk) (fun z_43 e_44 rz_43 lz_43 uz_43 => ?_)
      refine lv_icmp_ge (tgt := 74) hx hb dX4_answersIn_34 (by decide) (fun c_45 => ?_) (fun c_45 => ?_)
      · replace c_45 := (I_le (a := z_43) (b := v8q41) rz_43 rv8q41).mp c_45
        refine lv_iinc (v := I (v5q35 + 1)) (lv' := [(5, .int (I (v5q35 + 1))), (0, .ref a), (1, .ref b), (2, .int (I n)), (3, .long v3q41), (6, .long v3q35), (8, .int (I v8q41))]) hx hb dX4_answersIn_74 hl (k := 4) rfl (I_add _ _) (by decide) rfl (fun ls hl => ?_)
        refine lv_goto (tgt := 5) hx hb dX4_answersIn_77 (by decide) ?_
        replace hl : lv_has ls 9 [(5, .int (I (v5q35 + 1))), (0, .ref a), (1, .ref b), (2, .int (I n)), (3, .long v3q41)] := lv_sub hl [0, 1, 2, 3, 4] rfl
        exact ihJ_36 (v3q41, v5q35 + 1) σ _ _ _ (by first | omega | (dsimp only; omega)) ⟨rfl, hH, hS, lv_sub hl [1, 2, 3, 4, 0] rfl, ⟨by first | omega | (dsimp only; omega), by first | omega | (dsimp only; omega)⟩, by first | omega | (dsimp only; omega), by first | omega | (dsimp only; omega)⟩
      · replace c_45 := mt (I_le (a := z_43) (b := v8q41) rz_43 rv8q41).mpr c_45
        refine lv_iload hx hb dX4_answersIn_37 (lv_at hl 6 rfl) ?_
        refine lv_bipush (v := I 60) hx hb dX4_answersIn_39 (by decide) ?_
        refine lv_icmp_ge (tgt := 68) hx hb dX4_answersIn_41 (by decide) (fun c_46 => ?_) (fun c_46 => ?_)
        · replace c_46 := (I_le (a := 60) (b := v8q41) (show rng 60 from ⟨by decide, by decide⟩) rv8q41).mp c_46
          refine lv_iinc (v := I (v8q41 + 1)) (lv' := [(8, .int (I (v8q41 + 1))), (0, .ref a), (1, .ref b), (2, .int (I n)), (3, .long v3q41), (5, .int (I v5q35)), (6, .long v3q35)]) hx hb dX4_answersIn_68 hl (k := 6) rfl (I_add _ _) (by decide) rfl (fun ls hl => ?_)
          refine lv_goto (tgt := 28) hx hb dX4_answersIn_71 (by decide) ?_
          exact ihJ_42 (v3q41, v8q41 + 1) σ _ _ _ (by first | omega | (dsimp only; omega)) ⟨rfl, hH, hS, lv_sub hl [1, 2, 3, 4, 5, 6, 0] rfl, ⟨by first | omega | (dsimp only; omega), by first | omega | (dsimp only; omega)⟩, by first | omega | (dsimp only; omega), by first | omega | (dsimp only; omega)⟩
        · replace c_46 := mt (I_le (a := 60) (b := v8q41) (show rng 60 from ⟨by decide, by decide⟩) rv8q41).mpr c_46
          refine lv_lload hx hb dX4_answersIn_44 (lv_at hl 5 rfl) ?_
          refine lv_iload hx hb dX4_answersIn_46 (lv_at hl 6 rfl) ?_
          refine lv_lushr hx hb dX4_answersIn_48 rfl ?_
          refine lv_topl (fun w_47 _ => ?_)
          refine lv_lconst (v := 1) hx hb dX4_answersIn_49 (by decide) ?_
          refine lv_land hx hb dX4_answersIn_50 ?_
          refine lv_topl (fun w_48 _ => ?_)
          refine lv_lconst (v := 0) hx hb dX4_answersIn_51 (by decide) ?_
          refine W.lcmp hx hb dX4_answersIn_52 ?_
          refine th_topi (fun z_49 rz_49 => ?_)
          refine lv_if_eq (tgt := 68) hx hb dX4_answersIn_53 (by decide) (fun c_50 => ?_) (fun c_50 => ?_)
          · replace c_50 := (I_eq (a := z_49) (b := 0) rz_49 (show rng 0 from ⟨by decide, by decide⟩)).mp c_50
            refine lv_iinc (v := I (v8q41 + 1)) (lv' := [(8, .int (I (v8q41 + 1))), (0, .ref a), (1, .ref b), (2, .int (I n)), (3, .long v3q41), (5, .int (I v5q35)), (6, .long v3q35)]) hx hb dX4_answersIn_68 hl (k := 6) rfl (I_add _ _) (by decide) rfl (fun ls hl => ?_)
            refine lv_goto (tgt := 28) hx hb dX4_answersIn_71 (by decide) ?_
            exact ihJ_42 (v3q41, v8q41 + 1) σ _ _ _ (by first | omega | (dsimp only; omega)) ⟨rfl, hH, hS, lv_sub hl [1, 2, 3, 4, 5, 6, 0] rfl, ⟨by first | omega | (dsimp only; omega), by first | omega | (dsimp only; omega)⟩, by first | omega | (dsimp only; omega), by first | omega | (dsimp only; omega)⟩
          · replace c_50 := mt (I_eq (a := z_49) (b := 0) rz_49 (show rng 0 from ⟨by decide, by decide⟩)).mpr c_50
            refine lv_lload_n hx hb dX4_answersIn_56 rfl (lv_at hl 3 rfl) ?_
            refine lv_aload_n hx hb dX4_answersIn_57 rfl (lv_at hl 0 rfl) ?_
            refine lv_aload_n hx hb dX4_answersIn_58 rfl (lv_at hl 1 rfl) ?_
            refine lv_iload hx hb dX4_answersIn_59 (lv_at hl 4 rfl) ?_
            refine lv_iload hx hb dX4_answersIn_61 (lv_at hl 6 rfl) ?_
            obtain ⟨_, hc_51⟩ := hO.cell h_a (by decide) (ci := 4) rfl
            refine th_calll (va_runV (As := [.ref b, .int (I v5q35), .int (I v8q41)]) (rest := [.long v3q41]) ⟨hx, hb, hml, hown, hts⟩ (p_reached l G y b0 σ E hO a h_a b h_b v5q35 (show rng v5q35 from rv5q35) v8q41 (show rng v8q41 from rv8q41) (by omega) (by omega)) (cwV 3 hts gX4_answersIn_X4_reached rfl rfl rfl (by decide +kernel) ⟨Nat.le_of_ble_eq_true rfl, Nat.le_of_ble_eq_true rfl⟩) (th_PV hK hH rfl hc_51) rfl rfl hl.1 rfl (lv_room (Nat.le_of_ble_eq_true rfl)) dX4_answersIn_63 ⟨Nat.le_of_ble_eq_true rfl, Nat.le_of_ble_eq_true rfl⟩) hS (fun w_54 σ_s_53 H locs hw_52 hH hS => ?_)
            obtain ⟨e9, hw_52⟩ := hw_52
            replace e9 := e9.symm
            subst e9
            refine lv_lor hx hb dX4_answersIn_66 ?_
            refine lv_topl (fun w_55 _ => ?_)
            refine lv_lstore_n (lv' := [(3, .long w_55), (0, .ref a), (1, .ref b), (2, .int (I n)), (5, .int (I v5q35)), (6, .long v3q35), (8, .int (I v8q41))]) hx hb dX4_answersIn_67 rfl hl (by decide) rfl (fun ls hl => ?_)
            refine lv_iinc (v := I (v8q41 + 1)) (lv' := [(8, .int (I (v8q41 + 1))), (3, .long w_55), (0, .ref a), (1, .ref b), (2, .int (I n)), (5, .int (I v5q35)), (6, .long v3q35)]) hx hb dX4_answersIn_68 hl (k := 6) rfl (I_add _ _) (by decide) rfl (fun ls hl => ?_)
            refine lv_goto (tgt := 28) hx hb dX4_answersIn_71 (by decide) ?_
            exact ihJ_42 (w_55, v8q41 + 1) σ _ _ _ (by first | omega | (dsimp only; omega)) ⟨rfl, hH, hS, lv_sub hl [2, 3, 4, 1, 5, 6, 0] rfl, ⟨by first | omega | (dsimp only; omega), by first | omega | (dsimp only; omega)⟩, by first | omega | (dsimp only; omega), by first | omega | (dsimp only; omega)⟩

set_option maxHeartbeats 1000000 in
set_option maxRecDepth 100000 in
theorem r_canBegin (l : Launch) (G : va_G) (y : Nat → ClassId) (b0 : Nat) (σ : th_M) (E : th_E) (hO : ok y E σ) (i : Int) (ri : rng i) : Met l yX1_canBegin wsX1_canBegin ({ frames := 0, cells := 0, slots := 0, locals := 0 }) (th_P G y b0 σ [.int (I i)]) (th_Qi G b0 (fun r σ1 => σ1 = σ ∧ (0 ≤ r ∧ r ≤ 1) ∧ (True))) 0 0 (th_A b0) := by
  refine Met.ofW (cc := cX1_canBegin) (maxL := 1) (ret := (some .boolean)) (by decide) rfl ?_
  intro p e s m args below meth c s₁ B hml hv
  obtain ⟨rfl, hH, hK⟩ := hv
  have hx := B.exec
  have hb := B.bytes
  have hr := B.returns
  have hts := atoms_spec (ws := wsX1_canBegin) B.pre
  have hown : s.vm.findClass RX1 = some m.cls := findClass_of_methodNamed B.named
  have hlocks := B.notSynchronized
  have h00 : b0 ≤ s.heap.size := hH.1
  have hS : va_S (th_A b0) s.heap s.heap [] := va_S.rf
  have hl := lv_entry ([.int (I i)]) (n := 1) (Nat.le_of_ble_eq_true rfl)
  rw [lg_entry_eq]
  generalize (lg_sl ([.int (I i)]) ++ List.replicate (1 - (lg_sl ([.int (I i)])).length) Slot.unset).toArray = ls at hl ⊢
  have hl : lv_has ls 1 [(0, .int (I i))] := hl
  refine lv_iload_n hx hb dX1_canBegin_0 rfl (lv_at hl 0 rfl) ?_
  refine lv_bipush (v := I 45) hx hb dX1_canBegin_1 (by decide) ?_
  refine lv_icmp_eq (tgt := 32) hx hb dX1_canBegin_3 (by decide) (fun c_1 => ?_) (fun c_1 => ?_)
  · replace c_1 := (I_eq (a := i) (b := 45) ri (show rng 45 from ⟨by decide, by decide⟩)).mp c_1
    refine lv_iconst (v := I 1) hx hb dX1_canBegin_32 (by decide) ?_
    refine lv_goto (tgt := 37) hx hb dX1_canBegin_33 (by decide) ?_
    exact th_zret hx hb hr hlocks hH hS (z := 1) (by omega) ⟨rfl, ⟨by omega, by omega⟩, trivial⟩ dX1_canBegin_37
  · replace c_1 := mt (I_eq (a := i) (b := 45) ri (show rng 45 from ⟨by decide, by decide⟩)).mpr c_1
    refine lv_iload_n hx hb dX1_canBegin_6 rfl (lv_at hl 0 rfl) ?_
    refine lv_sipush (v := I 257) hx hb dX1_canBegin_7 (by decide) ?_
    refine lv_icmp_eq (tgt := 32) hx hb dX1_canBegin_10 (by decide) (fun c_2 => ?_) (fun c_2 => ?_)
    · replace c_2 := (I_eq (a := i) (b := 257) ri (show rng 257 from ⟨by decide, by decide⟩)).mp c_2
      refine lv_iconst (v := I 1) hx hb dX1_canBegin_32 (by decide) ?_
      refine lv_goto (tgt := 37) hx hb dX1_canBegin_33 (by decide) ?_
      exact th_zret hx hb hr hlocks hH hS (z := 1) (by omega) ⟨rfl, ⟨by omega, by omega⟩, trivial⟩ dX1_canBegin_37
    · replace c_2 := mt (I_eq (a := i) (b := 257) ri (show rng 257 from ⟨by decide, by decide⟩)).mpr c_2
      refine lv_iload_n hx hb dX1_canBegin_13 rfl (lv_at hl 0 rfl) ?_
      refine lv_sipush (v := I 256) hx hb dX1_canBegin_14 (by decide) ?_
      refine lv_icmp_eq (tgt := 32) hx hb dX1_canBegin_17 (by decide) (fun c_3 => ?_) (fun c_3 => ?_)
      · replace c_3 := (I_eq (a := i) (b := 256) ri (show rng 256 from ⟨by decide, by decide⟩)).mp c_3
        refine lv_iconst (v := I 1) hx hb dX1_canBegin_32 (by decide) ?_
        refine lv_goto (tgt := 37) hx hb dX1_canBegin_33 (by decide) ?_
        exact th_zret hx hb hr hlocks hH hS (z := 1) (by omega) ⟨rfl, ⟨by omega, by omega⟩, trivial⟩ dX1_canBegin_37
      · replace c_3 := mt (I_eq (a := i) (b := 256) ri (show rng 256 from ⟨by decide, by decide⟩)).mpr c_3
        refine lv_iload_n hx hb dX1_canBegin_20 rfl (lv_at hl 0 rfl) ?_
        refine lv_bipush (v := I 91) hx hb dX1_canBegin_21 (by decide) ?_
        refine lv_icmp_eq (tgt := 32) hx hb dX1_canBegin_23 (by decide) (fun c_4 => ?_) (fun c_4 => ?_)
        · replace c_4 := (I_eq (a := i) (b := 91) ri (show rng 91 from ⟨by decide, by decide⟩)).mp c_4
          refine lv_iconst (v := I 1) hx hb dX1_canBegin_32 (by decide) ?_
          refine lv_goto (tgt := 37) hx hb dX1_canBegin_33 (by decide) ?_
          exact th_zret hx hb hr hlocks hH hS (z := 1) (by omega) ⟨rfl, ⟨by omega, by omega⟩, trivial⟩ dX1_canBegin_37
        · replace c_4 := mt (I_eq (a := i) (b := 91) ri (show rng 91 from ⟨by decide, by decide⟩)).mpr c_4
          refine lv_iload_n hx hb dX1_canBegin_26 rfl (lv_at hl 0 rfl) ?_
          refine lv_bipush (v := I 123) hx hb dX1_canBegin_27 (by decide) ?_
          refine lv_icmp_ne (tgt := 36) hx hb dX1_canBegin_29 (by decide) (fun c_5 => ?_) (fun c_5 => ?_)
          · replace c_5 := mt (I_eq (a := i) (b := 123) ri (show rng 123 from ⟨by decide, by decide⟩)).mpr c_5
            refine lv_iconst (v := I 0) hx hb dX1_canBegin_36 (by decide) ?_
            exact th_zret hx hb hr hlocks hH hS (z := 0) (by omega) ⟨rfl, ⟨by omega, by omega⟩, trivial⟩ dX1_canBegin_37
          · replace c_5 := (I_eq (a := i) (b := 123) ri (show rng 123 from ⟨by decide, by decide⟩)).mp c_5
            refine lv_iconst (v := I 1) hx hb dX1_canBegin_32 (by decide) ?_
            refine lv_goto (tgt := 37) hx hb dX1_canBegin_33 (by decide) ?_
            exact th_zret hx hb hr hlocks hH hS (z := 1) (by omega) ⟨rfl, ⟨by omega, by omega⟩, trivial⟩ dX1_canBegin_37

set_option maxHeartbeats 1000000 in
set_option maxRecDepth 100000 in
theorem r_readKey (l : Launch) (G : va_G) (y : Nat → ClassId) (b0 : Nat) (σ : th_M) (E : th_E) (hO : ok y E σ) (a : Nat) (h_a : kd E a = 10) (b : Nat) (h_b : kd E b = 1) (i : Int) (ri : rng i) : Met l yX1_readKey wsX1_readKey ({ frames := 2, cells := 0, slots := 0, locals := 50 }) (th_P G y b0 σ [.ref a, .ref b, .int (I i)]) (th_Qi G b0 (fun r σ1 => ok y E σ1 ∧ fr [3] E σ σ1 ∧ (True))) 0 0 (th_A b0) := by
  refine Met.ofW (cc := cX1_readKey) (maxL := 3) (ret := (some .int)) (by decide) rfl ?_
  intro p e s m args below meth c s₁ B hml hv
  obtain ⟨rfl, hH, hK⟩ := hv
  have hx := B.exec
  have hb := B.bytes
  have hr := B.returns
  have hts := atoms_spec (ws := wsX1_readKey) B.pre
  have hown : s.vm.findClass RX1 = some m.cls := findClass_of_methodNamed B.named
  have hlocks := B.notSynchronized
  have h00 : b0 ≤ s.heap.size := hH.1
  have hS : va_S (th_A b0) s.heap s.heap [] := va_S.rf
  have hF : fr [3] E σ σ := fr.rf
  have inX1 : ∀ w ∈ wsX10, w ∈ wsX1_readKey := by decide +kernel
  have inX8 : ∀ w ∈ wsX80, w ∈ wsX1_readKey := by decide +kernel
  have fl0 := hts (.fieldLink RX1 9 "NestQuery$DataReader" "tokens" "LNestQuery$Tokens;") (by decide +kernel)
  have hl := lv_entry ([.ref a, .ref b, .int (I i)]) (n := 3) (Nat.le_of_ble_eq_true rfl)
  rw [lg_entry_eq]
  generalize (lg_sl ([.ref a, .ref b, .int (I i)]) ++ List.replicate (3 - (lg_sl ([.ref a, .ref b, .int (I i)])).length) Slot.unset).toArray = ls at hl ⊢
  have hl : lv_has ls 3 [(0, .ref a), (1, .ref b), (2, .int (I i))] := hl
  refine lv_aload_n hx hb dX1_readKey_0 rfl (lv_at hl 0 rfl) ?_
  have hp_1 : kd E (ad E a 0) = 3 := ok.pk hO h_a (by decide) k10_0 rfl
  refine ok.getR hO h_a (by decide) k10_0 (by decide) (fun _ _ he hv kk => th_get (ci := 1) (C := RX1) (T := TX1) (N := 1) hx hb hts inX1 hown hK hH he rfl 0 (by decide) fl0 hv dX1_readKey_1 kk) ?_
  refine ok.getI hO hp_1 (by decide) k3_6 (fun _ _ he hv kk => th_getN (ci := 8) (C := RX8) (T := TX8) (N := 9) hx hb hts inX8 hown hK hH he rfl 6 (by decide) (nl_4 hK) hv dX1_readKey_4 kk) (fun z_2 e_3 rz_2 lz_2 uz_2 => ?_)
  refine lv_sipush (v := I 256) hx hb dX1_readKey_7 (by decide) ?_
  refine lv_icmp_ne (tgt := 49) hx hb dX1_readKey_10 (by decide) (fun c_4 => ?_) (fun c_4 => ?_)
  · replace c_4 := mt (I_eq (a := z_2) (b := 256) rz_2 (show rng 256 from ⟨by decide, by decide⟩)).mpr c_4
    refine lv_aload_n hx hb dX1_readKey_49 rfl (lv_at hl 0 rfl) ?_
    refine ok.getR hO h_a (by decide) k10_0 (by decide) (fun _ _ he hv kk => th_get (ci := 1) (C := RX1) (T := TX1) (N := 1) hx hb hts inX1 hown hK hH he rfl 0 (by decide) fl0 hv dX1_readKey_50 kk) ?_
    obtain ⟨_, hc_5⟩ := hO.cell hp_1 (by decide) (ci := 8) rfl
    refine th_calli (va_runV (As := []) (rest := []) ⟨hx, hb, hml, hown, hts⟩ (k_letters l G y b0 σ E hO (ad E a 0) hp_1) (cwV 0 hts gX1_readKey_X8_takeLetters rfl rfl rfl (by decide +kernel) ⟨Nat.le_of_ble_eq_true rfl, Nat.le_of_ble_eq_true rfl⟩) (th_PV hK hH rfl hc_5) rfl rfl hl.1 rfl (lv_room (Nat.le_of_ble_eq_true rfl)) dX1_readKey_53 ⟨Nat.le_of_ble_eq_true rfl, Nat.le_of_ble_eq_true rfl⟩) hS (fun z_8 σ_s_7 H locs rz_8 hw_6 hH hS => ?_)
    obtain ⟨hO9, hF9, hw_6⟩ := hw_6
    replace hO := hO9
    replace hF := hF.tu hF9 (by decide)
    exact th_iret hx hb hr hlocks hH hS (z := z_8) rz_8 ⟨hO, hF, trivial⟩ dX1_readKey_56
  · replace c_4 := (I_eq (a := z_2) (b := 256) rz_2 (show rng 256 from ⟨by decide, by decide⟩)).mp c_4
    refine lv_aload_n hx hb dX1_readKey_13 rfl (lv_at hl 0 rfl) ?_
    refine ok.getR hO h_a (by decide) k10_0 (by decide) (fun _ _ he hv kk => th_get (ci := 1) (C := RX1) (T := TX1) (N := 1) hx hb hts inX1 hown hK hH he rfl 0 (by decide) fl0 hv dX1_readKey_14 kk) ?_
    refine lv_bipush (v := I 6) hx hb dX1_readKey_17 (by decide) ?_
    obtain ⟨_, hc_9⟩ := hO.cell hp_1 (by decide) (ci := 8) rfl
    refine th_calli (va_runV (As := [.int (I 6)]) (rest := []) ⟨hx, hb, hml, hown, hts⟩ (k_longer l G y b0 σ E hO (ad E a 0) hp_1 6 (show rng 6 from (show rng 6 from ⟨by decide, by decide⟩))) (cwV 1 hts gX1_readKey_X8_isLongerThan rfl rfl rfl (by decide +kernel) ⟨Nat.le_of_ble_eq_true rfl, Nat.le_of_ble_eq_true rfl⟩) (th_PV hK hH rfl hc_9) rfl rfl hl.1 rfl (lv_room (Nat.le_of_ble_eq_true rfl)) dX1_readKey_19 ⟨Nat.le_of_ble_eq_true rfl, Nat.le_of_ble_eq_true rfl⟩) hS (fun z_12 σ_s_11 H locs rz_12 hw_10 hH hS => ?_)
    obtain ⟨e9, bhw_10, hw_10⟩ := hw_10
    replace e9 := e9.symm
    subst e9
    refine lv_if_ne (tgt := 49) hx hb dX1_readKey_22 (by decide) (fun c_13 => ?_) (fun c_13 => ?_)
    · replace c_13 := mt (I_eq (a := z_12) (b := 0) rz_12 (show rng 0 from ⟨by decide, by decide⟩)).mpr c_13
      refine lv_aload_n hx hb dX1_readKey_49 rfl (lv_at hl 0 rfl) ?_
      refine ok.getR hO h_a (by decide) k10_0 (by decide) (fun _ _ he hv kk => th_get (ci := 1) (C := RX1) (T := TX1) (N := 1) hx hb hts inX1 hown hK hH he rfl 0 (by decide) fl0 hv dX1_readKey_50 kk) ?_
      obtain ⟨_, hc_14⟩ := hO.cell hp_1 (by decide) (ci := 8) rfl
      refine th_calli (va_runV (As := []) (rest := []) ⟨hx, hb, hml, hown, hts⟩ (k_letters l G y b0 σ E hO (ad E a 0) hp_1) (cwV 0 hts gX1_readKey_X8_takeLetters rfl rfl rfl (by decide +kernel) ⟨Nat.le_of_ble_eq_true rfl, Nat.le_of_ble_eq_true rfl⟩) (th_PV hK hH rfl hc_14) rfl rfl hl.1 rfl (lv_room (Nat.le_of_ble_eq_true rfl)) dX1_readKey_53 ⟨Nat.le_of_ble_eq_true rfl, Nat.le_of_ble_eq_true rfl⟩) hS (fun z_17 σ_s_16 H locs rz_17 hw_15 hH hS => ?_)
      obtain ⟨hO9, hF9, hw_15⟩ := hw_15
      replace hO := hO9
      replace hF := hF.tu hF9 (by decide)
      exact th_iret hx hb hr hlocks hH hS (z := z_17) rz_17 ⟨hO, hF, trivial⟩ dX1_readKey_56
    · replace c_13 := (I_eq (a := z_12) (b := 0) rz_12 (show rng 0 from ⟨by decide, by decide⟩)).mp c_13
      refine lv_aload_n hx hb dX1_readKey_25 rfl (lv_at hl 1 rfl) ?_
      refine lv_iload_n hx hb dX1_readKey_26 rfl (lv_at hl 2 rfl) ?_
      refine lv_aload_n hx hb dX1_readKey_27 rfl (lv_at hl 0 rfl) ?_
      refine ok.getR hO h_a (by decide) k10_0 (by decide) (fun _ _ he hv kk => th_get (ci := 1) (C := RX1) (T := TX1) (N := 1) hx hb hts inX1 hown hK hH he rfl 0 (by decide) fl0 hv dX1_readKey_28 kk) ?_
      obtain ⟨_, hc_18⟩ := hO.cell hp_1 (by decide) (ci := 8) rfl
      refine th_calli (va_runV (As := []) (rest := [.int (I i), .ref b]) ⟨hx, hb, hml, hown, hts⟩ (k_value l G y b0 σ E hO (ad E a 0) hp_1) (cwV 0 hts gX1_readKey_X8_value rfl rfl rfl (by decide +kernel) ⟨Nat.le_of_ble_eq_true rfl, Nat.le_of_ble_eq_true rfl⟩) (th_PV hK hH rfl hc_18) rfl rfl hl.1 rfl (lv_room (Nat.le_of_ble_eq_true rfl)) dX1_readKey_31 ⟨Nat.le_of_ble_eq_true rfl, Nat.le_of_ble_eq_true rfl⟩) hS (fun z_21 σ_s_20 H locs rz_21 hw_19 hH hS => ?_)
      obtain ⟨e9, hw_19⟩ := hw_19
      replace e9 := e9.symm
      subst e9
      obtain ⟨z_22, e_23, rz_22, lz_22, uz_22⟩ := hO.gi h_b (by decide) k1_4
      obtain ⟨_, hc_24⟩ := hO.cell h_b (by decide) (ci := 9) rfl
      refine th_calli (va_runV (As := [.int (I i), .int (I z_21)]) (rest := []) ⟨hx, hb, hml, hown, hts⟩ (t_childBy l G y b0 σ b (tvE E σ b 60) i z_21 (hO.isT1 h_b) (show rng i from ri) (show rng z_21 from rz_21)) (cwV 2 hts gX1_readKey_X9_childBy rfl rfl rfl (by decide +kernel) ⟨Nat.le_of_ble_eq_true rfl, Nat.le_of_ble_eq_true rfl⟩) (th_PV hK hH rfl hc_24) rfl rfl hl.1 rfl (lv_room (Nat.le_of_ble_eq_true rfl)) dX1_readKey_34 ⟨Nat.le_of_ble_eq_true rfl, Nat.le_of_ble_eq_true rfl⟩) hS (fun z_27 σ_s_26 H locs rz_27 hw_25 hH hS => ?_)
      obtain ⟨e9, hw_25⟩ := hw_25
      replace e9 := e9.symm
      subst e9
      have hw_25 : z_27 = -1 ∨ (0 ≤ i ∧ i < z_27 ∧ z_27 < (gI σ b 4)) := hw_25
      refine lv_iconst (v := I (-1)) hx hb dX1_readKey_37 (by decide) ?_
      refine lv_icmp_eq (tgt := 49) hx hb dX1_readKey_38 (by decide) (fun c_28 => ?_) (fun c_28 => ?_)
      · replace c_28 := (I_eq (a := z_27) (b := (-1)) rz_27 (show rng (-1) from ⟨by decide, by decide⟩)).mp c_28
        refine lv_aload_n hx hb dX1_readKey_49 rfl (lv_at hl 0 rfl) ?_
        refine ok.getR hO h_a (by decide) k10_0 (by decide) (fun _ _ he hv kk => th_get (ci := 1) (C := RX1) (T := TX1) (N := 1) hx hb hts inX1 hown hK hH he rfl 0 (by decide) fl0 hv dX1_readKey_50 kk) ?_
        obtain ⟨_, hc_29⟩ := hO.cell hp_1 (by decide) (ci := 8) rfl
        refine th_calli (va_runV (As := []) (rest := []) ⟨hx, hb, hml, hown, hts⟩ (k_letters l G y b0 σ E hO (ad E a 0) hp_1) (cwV 0 hts gX1_readKey_X8_takeLetters rfl rfl rfl (by decide +kernel) ⟨Nat.le_of_ble_eq_true rfl, Nat.le_of_ble_eq_true rfl⟩) (th_PV hK hH rfl hc_29) rfl rfl hl.1 rfl (lv_room (Nat.le_of_ble_eq_true rfl)) dX1_readKey_53 ⟨Nat.le_of_ble_eq_true rfl, Nat.le_of_ble_eq_true rfl⟩) hS (fun z_32 σ_s_31 H locs rz_32 hw_30 hH hS => ?_)
        obtain ⟨hO9, hF9, hw_30⟩ := hw_30
        have e_33 : gI σ_s_31 b 4 = z_22 := (fr.ki hO hF9 h_b (by decide) (by decide) _).trans e_23
        replace hO := hO9
        replace hF := hF.tu hF9 (by decide)
        exact th_iret hx hb hr hlocks hH hS (z := z_32) rz_32 ⟨hO, hF, trivial⟩ dX1_readKey_56
      · replace c_28 := mt (I_eq (a := z_27) (b := (-1)) rz_27 (show rng (-1) from ⟨by decide, by decide⟩)).mpr c_28
        refine lv_aload_n hx hb dX1_readKey_41 rfl (lv_at hl 0 rfl) ?_
        refine ok.getR hO h_a (by decide) k10_0 (by decide) (fun _ _ he hv kk => th_get (ci := 1) (C := RX1) (T := TX1) (N := 1) hx hb hts inX1 hown hK hH he rfl 0 (by decide) fl0 hv dX1_readKey_42 kk) ?_
        refine lv_iconst (v := I 3) hx hb dX1_readKey_45 (by decide) ?_
        obtain ⟨_, hc_34⟩ := hO.cell hp_1 (by decide) (ci := 8) rfl
        refine th_callv (va_runV (As := [.int (I 3)]) (rest := []) ⟨hx, hb, hml, hown, hts⟩ (k_fail l G y b0 σ E hO (ad E a 0) hp_1 3 (show rng 3 from (show rng 3 from ⟨by decide, by decide⟩))) (cwV 1 hts gX1_readKey_X8_fail rfl rfl rfl (by decide +kernel) ⟨Nat.le_of_ble_eq_true rfl, Nat.le_of_ble_eq_true rfl⟩) (th_PV hK hH rfl hc_34) rfl rfl hl.1 rfl (lv_room (Nat.le_of_ble_eq_true rfl)) dX1_readKey_46 ⟨Nat.le_of_ble_eq_true rfl, Nat.le_of_ble_eq_true rfl⟩) hS (fun σ_s_36 H locs hw_35 hH hS => ?_)
        obtain ⟨hO9, hF9, hw_35⟩ := hw_35
        have e_37 : gI σ_s_36 b 4 = z_22 := (fr.ki hO hF9 h_b (by decide) (by decide) _).trans e_23
        replace hO := hO9
        replace hF := hF.tu hF9 (by decide)
        refine lv_aload_n hx hb dX1_readKey_49 rfl (lv_at hl 0 rfl) ?_
        refine ok.getR hO h_a (by decide) k10_0 (by decide) (fun _ _ he hv kk => th_get (ci := 1) (C := RX1) (T := TX1) (N := 1) hx hb hts inX1 hown hK hH he rfl 0 (by decide) fl0 hv dX1_readKey_50 kk) ?_
        obtain ⟨_, hc_38⟩ := hO.cell hp_1 (by decide) (ci := 8) rfl
        refine th_calli (va_runV (As := []) (rest := []) ⟨hx, hb, hml, hown, hts⟩ (k_letters l G y b0 σ_s_36 E hO (ad E a 0) hp_1) (cwV 0 hts gX1_readKey_X8_takeLetters rfl rfl rfl (by decide +kernel) ⟨Nat.le_of_ble_eq_true rfl, Nat.le_of_ble_eq_true rfl⟩) (th_PV hK hH rfl hc_38) rfl rfl hl.1 rfl (lv_room (Nat.le_of_ble_eq_true rfl)) dX1_readKey_53 ⟨Nat.le_of_ble_eq_true rfl, Nat.le_of_ble_eq_true rfl⟩) hS (fun z_41 σ_s_40 H locs rz_41 hw_39 hH hS => ?_)
        obtain ⟨hO9, hF9, hw_39⟩ := hw_39
        have e_42 : gI σ_s_40 b 4 = z_22 := (fr.ki hO hF9 h_b (by decide) (by decide) _).trans e_37
        replace hO := hO9
        replace hF := hF.tu hF9 (by decide)
        exact th_iret hx hb hr hlocks hH hS (z := z_41) rz_41 ⟨hO, hF, trivial⟩ dX1_readKey_56

set_option maxHeartbeats 1000000 in
set_option maxRecDepth 100000 in
theorem r_readList (n : Nat) (ih : ∀ (l : Launch) (G : va_G) (y : Nat → ClassId) (b0 : Nat) (σ : th_M) (E : th_E) (hO : ok y E σ) (a : Nat) (h_a : kd E a = 10) (b : Nat) (h_b : kd E b = 1) (dp : Int) (rdp : rng dp) (l_dp : 0 ≤ dp) (u_dp : dp ≤ 8) (ky : Int) (rky : rng ky) (hn : (8 - dp).toNat < n), Met l yX1_readThing wsX1_readThing ({ frames := 4*n+8, cells := 0, slots := 0, locals := (120*n+600) }) (th_P G y b0 σ [.ref a, .ref b, .int (I dp), .int (I ky)]) (th_Qv G b0 (fun σ1 => ok y E σ1 ∧ fr [3, 1] E σ σ1 ∧ (True))) 0 0 (th_A b0)) (l : Launch) (G : va_G) (y : Nat → ClassId) (b0 : Nat) (σ : th_M) (E : th_E) (hO : ok y E σ) (a : Nat) (h_a : kd E a = 10) (b : Nat) (h_b : kd E b = 1) (dp : Int) (rdp : rng dp) (l_dp : 0 ≤ dp) (u_dp : dp ≤ 7) (ky : Int) (rky : rng ky) (hy0 : (8 - dp).toNat < n + 1) : Met l yX1_readList wsX1_readList ({ frames := 4*n+10, cells := 0, slots := 0, locals := (120*n+650) }) (th_P G y b0 σ [.ref a, .ref b, .int (I dp), .int (I ky)]) (th_Qv G b0 (fun σ1 => ok y E σ1 ∧ fr [3, 1] E σ σ1 ∧ (True))) 0 0 (th_A b0) := by
  refine Met.ofW (cc := cX1_readList) (maxL := 6) (ret := none) (by decide) rfl ?_
  intro p e s m args below meth c s₁ B hml hv
  obtain ⟨rfl, hH, hK⟩ := hv
  have hx := B.exec
  have hb := B.bytes
  have hr := B.returns
  have hts := atoms_spec (ws := wsX1_readList) B.pre
  have hown : s.vm.findClass RX1 = some m.cls := findClass_of_methodNamed B.named
  have hlocks := B.notSynchronized
  have h00 : b0 ≤ s.heap.size := hH.1
  have hS : va_S (th_A b0) s.heap s.heap [] := va_S.rf
  have hF : fr [3, 1] E σ σ := fr.rf
  have inX1 : ∀ w ∈ wsX10, w ∈ wsX1_readList := by decide +kernel
  have inX8 : ∀ w ∈ wsX80, w ∈ wsX1_readList := by decide +kernel
  have fl0 := hts (.fieldLink RX1 9 "NestQuery$DataReader" "tokens" "LNestQuery$Tokens;") (by decide +kernel)
  have hl := lv_entry ([.ref a, .ref b, .int (I dp), .int (I ky)]) (n := 6) (Nat.le_of_ble_eq_true rfl)
  rw [lg_entry_eq]
  generalize (lg_sl ([.ref a, .ref b, .int (I dp), .int (I ky)]) ++ List.replicate (6 - (lg_sl ([.ref a, .ref b, .int (I dp), .int (I ky)])).length) Slot.unset).toArray = ls at hl ⊢
  have hl : lv_has ls 6 [(0, .ref a), (1, .ref b), (2, .int (I dp)), (3, .int (I ky))] := hl
  refine lv_aload_n hx hb dX1_readList_0 rfl (lv_at hl 1 rfl) ?_
  refine lv_iconst (v := I 2) hx hb dX1_readList_1 (by decide) ?_
  refine lv_iconst (v := I 0) hx hb dX1_readList_2 (by decide) ?_
  refine lv_iload_n hx hb dX1_readList_3 rfl (lv_at hl 3 rfl) ?_
  refine lv_iload_n hx hb dX1_readList_4 rfl (lv_at hl 2 rfl) ?_
  obtain ⟨_, hc_1⟩ := hO.cell h_b (by decide) (ci := 9) rfl
  refine th_calli (va_runV (As := [.int (I 2), .int (I 0), .int (I ky), .int (I dp)]) (rest := []) ⟨hx, hb, hml, hown, hts⟩ (tw1_add l G y b0 σ E hO b h_b 2 (show rng 2 from (show rng 2 from ⟨by decide, by decide⟩)) 0 (show rng 0 from (show rng 0 from ⟨by decide, by decide⟩)) ky (show rng ky from rky) dp (show rng dp from rdp) (by omega)) (cwV 4 hts gX1_readList_X9_addThing rfl rfl rfl (by decide +kernel) ⟨(by first | (simp only [headSpec]; omega) | omega | (dsimp only; omega)), (by first | (simp only [headSpec]; omega) | omega | (dsimp only; omega))⟩) (th_PV hK hH rfl hc_1) rfl rfl hl.1 rfl (lv_room (Nat.le_of_ble_eq_true rfl)) dX1_readList_5 ⟨(by first | (simp only [headSpec]; omega) | omega | (dsimp only; omega)), (by first | (simp only [headSpec]; omega) | omega | (dsimp only; omega))⟩) hS (fun z_4 σ_s_3 H locs rz_4 hw_2 hH hS => ?_)
  obtain ⟨hO9, hF9, hw_2⟩ := hw_2
  replace hO := hO9
  replace hF := hF.tu hF9 (by decide)
  refine lv_pop hx hb dX1_readList_8 rfl ?_
  refine lv_aload_n hx hb dX1_readList_9 rfl (lv_at hl 0 rfl) ?_
  have hp_5 : kd E (ad E a 0) = 3 := ok.pk hO h_a (by decide) k10_0 rfl
  refine ok.getR hO h_a (by decide) k10_0 (by decide) (fun _ _ he hv kk => th_get (ci := 1) (C := RX1) (T := TX1) (N := 1) hx hb hts inX1 hown hK hH he rfl 0 (by decide) fl0 hv dX1_readList_10 kk) ?_
  obtain ⟨_, hc_6⟩ := hO.cell hp_5 (by decide) (ci := 8) rfl
  refine th_callv (va_runV (As := []) (rest := []) ⟨hx, hb, hml, hown, hts⟩ (k_step l G y b0 σ_s_3 E hO (ad E a 0) hp_5) (cwV 0 hts gX1_readList_X8_step rfl rfl rfl (by decide +kernel) ⟨(by first | (simp only [headSpec]; omega) | omega | (dsimp only; omega)), (by first | (simp only [headSpec]; omega) | omega | (dsimp only; omega))⟩) (th_PV hK hH rfl hc_6) rfl rfl hl.1 rfl (lv_room (Nat.le_of_ble_eq_true rfl)) dX1_readList_13 ⟨(by first | (simp only [headSpec]; omega) | omega | (dsimp only; omega)), (by first | (simp only [headSpec]; omega) | omega | (dsimp only; omega))⟩) hS (fun σ_s_8 H locs hw_7 hH hS => ?_)
  obtain ⟨hO9, hF9, hw_7⟩ := hw_7
  replace hO := hO9
  replace hF := hF.tu hF9 (by decide)
  refine lv_aload_n hx hb dX1_readList_16 rfl (lv_at hl 0 rfl) ?_
  refine ok.getR hO h_a (by decide) k10_0 (by decide) (fun _ _ he hv kk => th_get (ci := 1) (C := RX1) (T := TX1) (N := 1) hx hb hts inX1 hown hK hH he rfl 0 (by decide) fl0 hv dX1_readList_17 kk) ?_
  refine ok.getI hO hp_5 (by decide) k3_6 (fun _ _ he hv kk => th_getN (ci := 8) (C := RX8) (T := TX8) (N := 9) hx hb hts inX8 hown hK hH he rfl 6 (by decide) (nl_4 hK) hv dX1_readList_20 kk) (fun z_9 e_10 rz_9 lz_9 uz_9 => ?_)
  refine lv_bipush (v := I 93) hx hb dX1_readList_23 (by decide) ?_
  refine th_join (α := Int) (J := 33) (stk := fun x9 => [.int (I x9)]) (fun x9 σ9 H9 l9 ls9 => σ9 = σ_s_8 ∧ th_H G b0 σ9 H9 ∧ va_S (th_A b0) s.heap H9 l9 ∧ lv_has ls9 6 [(0, .ref a), (1, .ref b), (2, .int (I dp))] ∧ rng x9 ∧ (x9 = 0 ∨ x9 = 1)) ?_ (fun jK_13 => ?_)
  · intro x9 σ_K_13 H locs ls hI9
    obtain ⟨w0q12, ex9⟩ : ∃ z, z = x9 := ⟨_, rfl⟩
    subst ex9
    obtain ⟨eK_13, hH, hS, hl, rw0q12, K_13_0⟩ := hI9
    replace eK_13 := eK_13.symm
    subst eK_13
    have hl : lv_has ls 6 [(0, .ref a), (1, .ref b), (2, .int (I dp))] := hl
    have rw0q12 : rng w0q12 := rw0q12
    have K_13_0 : w0q12 = 0 ∨ w0q12 = 1 := K_13_0
    refine lv_istore (lv' := [(4, .int (I w0q12)), (0, .ref a), (1, .ref b), (2, .int (I dp))]) hx hb dX1_readList_33 hl (by decide) rfl (fun ls hl => ?_)
    refine lv_iconst (v := I 0) hx hb dX1_readList_35 (by decide) ?_
    refine lv_istore (lv' := [(5, .int (I 0)), (4, .int (I w0q12)), (0, .ref a), (1, .ref b), (2, .int (I dp))]) hx hb dX1_readList_36 hl (by decide) rfl (fun ls hl => ?_)
    refine th_loop (α := Int × Int) (pc := 38) (fun x9 => (400 - x9.2).toNat) (fun x9 σ9 H9 l9 ls9 => ok y E σ9 ∧ fr [3, 1] E σ σ9 ∧ th_H G b0 σ9 H9 ∧ va_S (th_A b0) s.heap H9 l9 ∧ lv_has ls9 6 [(0, .ref a), (1, .ref b), (2, .int (I dp)), (4, .int (I x9.1)), (5, .int (I x9.2))] ∧ rng x9.1 ∧ rng x9.2 ∧ (0 ≤ x9.1) ∧ (x9.1 ≤ 1) ∧ (0 ≤ x9.2) ∧ (x9.2 ≤ 400)) ?_ (w0q12, 0) σ_s_8 _ _ _ ⟨hO, hF, hH, hS, lv_sub hl [2, 3, 4, 1, 0] rfl, rw0q12, (show rng 0 from ⟨by decide, by decide⟩), by first | omega | (dsimp only; omega), by first | omega | (dsimp only; omega), by first | omega | (dsimp only; omega), by first | omega | (dsimp only; omega)⟩
    intro x9 σ_J_43 H locs ls hI9 ihJ_43
    obtain ⟨v4q42, v5q42⟩ := x9
    obtain ⟨hO, hF, hH, hS, hl, rv4q42, rv5q42, J_43_0, J_43_1, J_43_2, J_43_3⟩ := hI9
    have hl : lv_has ls 6 [(0, .ref a), (1, .ref b), (2, .int (I dp)), (4, .int (I v4q42)), (5, .int (I v5q42))] := hl
    have rv4q42 : rng v4q42 := rv4q42
    have rv5q42 : rng v5q42 := rv5q42
    have J_43_0 : 0 ≤ v4q42 := J_43_0
    have J_43_1 : v4q42 ≤ 1 := J_43_1
    have J_43_2 : 0 ≤ v5q42 := J_43_2
    have J_43_3 : v5q42 ≤ 400 := J_43_3
    refine lv_iload hx hb dX1_readList_38 (lv_at hl 3 rfl) ?_
    refine lv_if_eq (tgt := 97) hx hb dX1_readList_40 (by decide) (fun c_44 => ?_) (fun c_44 => ?_)
    · replace c_44 := (I_eq (a := v4q42) (b := 0) rv4q42 (show rng 0 from ⟨by decide, by decide⟩)).mp c_44
      refine lv_aload_n hx hb dX1_readList_97 rfl (lv_at hl 0 rfl) ?_
      refine ok.getR hO h_a (by decide) k10_0 (by decide) (fun _ _ he hv kk => th_get (ci := 1) (C := RX1) (T := TX1) (N := 1) hx hb hts inX1 hown hK hH he rfl 0 (by decide) fl0 hv dX1_readList_98 kk) ?_
      refine lv_bipush (v := I 93) hx hb dX1_readList_101 (by decide) ?_
      obtain ⟨_, hc_45⟩ := hO.cell hp_5 (by decide) (ci := 8) rfl
      refine th_callv (va_runV (As := [.int (I 93)]) (rest := []) ⟨hx, hb, hml, hown, hts⟩ (k_expect l G y b0 σ_J_43 E hO (ad E a 0) hp_5 93 (show rng 93 from (show rng 93 from ⟨by decide, by decide⟩))) (cwV 1 hts gX1_readList_X8_expect rfl rfl rfl (by decide +kernel) ⟨(by first | (simp only [headSpec]; omega) | omega | (dsimp only; omega)), (by first | (simp only [headSpec]; omega) | omega | (dsimp only; omega))⟩) (th_PV hK hH rfl hc_45) rfl rfl hl.1 rfl (lv_room (Nat.le_of_ble_eq_true rfl)) dX1_readList_103 ⟨(by first | (simp only [headSpec]; omega) | omega | (dsimp only; omega)), (by first | (simp only [headSpec]; omega) | omega | (dsimp only; omega))⟩) hS (fun σ_s_47 H locs hw_46 hH hS => ?_)
      obtain ⟨hO9, hF9, hw_46⟩ := hw_46
      replace hO := hO9
      replace hF := hF.tu hF9 (by decide)
      exact th_vret hx hb hr hlocks hH hS ⟨hO, hF, trivial⟩ dX1_readList_106
    · replace c_44 := mt (I_eq (a := v4q42) (b := 0) rv4q42 (show rng 0 from ⟨by decide, by decide⟩)).mpr c_44
      refine lv_iload hx hb dX1_readList_43 (lv_at hl 4 rfl) ?_
      refine lv_sipush (v := I 400) hx hb dX1_readList_45 (by decide) ?_
      refine lv_icmp_ge (tgt := 97) hx hb dX1_readList_48 (by decide) (fun c_48 => ?_) (fun c_48 => ?_)
      · replace c_48 := (I_le (a := 400) (b := v5q42) (show rng 400 from ⟨by decide, by decide⟩) rv5q42).mp c_48
        refine lv_aload_n hx hb dX1_readList_97 rfl (lv_at hl 0 rfl) ?_
        refine ok.getR hO h_a (by decide) k10_0 (by decide) (fun _ _ he hv kk => th_get (ci := 1) (C := RX1) (T := TX1) (N := 1) hx hb hts inX1 hown hK hH he rfl 0 (by decide) fl0 hv dX1_readList_98 kk) ?_
        refine lv_bipush (v := I 93) hx hb dX1_readList_101 (by decide) ?_
        obtain ⟨_, hc_49⟩ := hO.cell hp_5 (by decide) (ci := 8) rfl
        refine th_callv (va_runV (As := [.int (I 93)]) (rest := []) ⟨hx, hb, hml, hown, hts⟩ (k_expect l G y b0 σ_J_43 E hO (ad E a 0) hp_5 93 (show rng 93 from (show rng 93 from ⟨by decide, by decide⟩))) (cwV 1 hts gX1_readList_X8_expect rfl rfl rfl (by decide +kernel) ⟨(by first | (simp only [headSpec]; omega) | omega | (dsimp only; omega)), (by first | (simp only [headSpec]; omega) | omega | (dsimp only; omega))⟩) (th_PV hK hH rfl hc_49) rfl rfl hl.1 rfl (lv_room (Nat.le_of_ble_eq_true rfl)) dX1_readList_103 ⟨(by first | (simp only [headSpec]; omega) | omega | (dsimp only; omega)), (by first | (simp only [headSpec]; omega) | omega | (dsimp only; omega))⟩) hS (fun σ_s_51 H locs hw_50 hH hS => ?_)
        obtain ⟨hO9, hF9, hw_50⟩ := hw_50
        replace hO := hO9
        replace hF := hF.tu hF9 (by decide)
        exact th_vret hx hb hr hlocks hH hS ⟨hO, hF, trivial⟩ dX1_readList_106
      · replace c_48 := mt (I_le (a := 400) (b := v5q42) (show rng 400 from ⟨by decide, by decide⟩) rv5q42).mpr c_48
        refine lv_aload_n hx hb dX1_readList_51 rfl (lv_at hl 0 rfl) ?_
        refine lv_aload_n hx hb dX1_readList_52 rfl (lv_at hl 1 rfl) ?_
        refine lv_iload_n hx hb dX1_readList_53 rfl (lv_at hl 2 rfl) ?_
        refine lv_iconst (v := I 1) hx hb dX1_readList_54 (by decide) ?_
        refine lv_iadd hx hb dX1_readList_55 ?_
        refine nq_top (I_add _ _) ?_
        refine lv_iconst (v := I 0) hx hb dX1_readList_56 (by decide) ?_
        obtain ⟨_, hc_52⟩ := hO.cell h_a (by decide) (ci := 1) rfl
        refine th_callv (va_runV (As := [.ref b, .int (I (dp + 1)), .int (I 0)]) (rest := []) ⟨hx, hb, hml, hown, hts⟩ (ih l G y b0 σ_J_43 E hO a h_a b h_b (dp + 1) (show rng (dp + 1) from ⟨by omega, by omega⟩) (by omega) (by omega) 0 (show rng 0 from (show rng 0 from ⟨by decide, by decide⟩)) (by omega)) (cwV 3 hts gX1_readList_X1_readThing rfl rfl rfl (by decide +kernel) ⟨(by first | (simp only [headSpec]; omega) | omega | (dsimp only; omega)), (by first | (simp only [headSpec]; omega) | omega | (dsimp only; omega))⟩) (th_PV hK hH rfl hc_52) rfl rfl hl.1 rfl (lv_room (Nat.le_of_ble_eq_true rfl)) dX1_readList_57 ⟨(by first | (simp only [headSpec]; omega) | omega | (dsimp only; omega)), (by first | (simp only [headSpec]; omega) | omega | (dsimp only; omega))⟩) hS (fun σ_s_54 H locs hw_53 hH hS => ?_)
        obtain ⟨hO9, hF9, hw_53⟩ := hw_53
        replace hO := hO9
        replace hF := hF.tu hF9 (by decide)
        refine lv_aload_n hx hb dX1_readList_60 rfl (lv_at hl 0 rfl) ?_
        refine ok.getR hO h_a (by decide) k10_0 (by decide) (fun _ _ he hv kk => th_get (ci := 1) (C := RX1) (T := TX1) (N := 1) hx hb hts inX1 hown hK hH he rfl 0 (by decide) fl0 hv dX1_readList_61 kk) ?_
        refine ok.getI hO hp_5 (by decide) k3_6 (fun _ _ he hv kk => th_getN (ci := 8) (C := RX8) (T := TX8) (N := 9) hx hb hts inX8 hown hK hH he rfl 6 (by decide) (nl_4 hK) hv dX1_readList_64 kk) (fun z_55 e_56 rz_55 lz_55 uz_55 => ?_)
        refine lv_bipush (v := I 44) hx hb dX1_readList_67 (by decide) ?_
        refine lv_icmp_ne (tgt := 76) hx hb dX1_readList_69 (by decide) (fun c_57 => ?_) (fun c_57 => ?_)
        · replace c_57 := mt (I_eq (a := z_55) (b := 44) rz_55 (show rng 44 from ⟨by decide, by decide⟩)).mpr c_57
          refine lv_iconst (v := I 0) hx hb dX1_readList_76 (by decide) ?_
          refine lv_istore (lv' := [(4, .int (I 0)), (0, .ref a), (1, .ref b), (2, .int (I dp)), (5, .int (I v5q42))]) hx hb dX1_readList_77 hl (by decide) rfl (fun ls hl => ?_)
          refine lv_iload hx hb dX1_readList_79 (lv_at hl 0 rfl) ?_
          refine lv_if_eq (tgt := 91) hx hb dX1_readList_81 (by decide) (fun _ => ?_) (fun c_58 => absurd (by decide) c_58)
          refine lv_iinc (v := I (v5q42 + 1)) (lv' := [(5, .int (I (v5q42 + 1))), (4, .int (I 0)), (0, .ref a), (1, .ref b), (2, .int (I dp))]) hx hb dX1_readList_91 hl (k := 4) rfl (I_add _ _) (by decide) rfl (fun ls hl => ?_)
          refine lv_goto (tgt := 38) hx hb dX1_readList_94 (by decide) ?_
          exact ihJ_43 (0, v5q42 + 1) σ_s_54 _ _ _ (by first | omega | (dsimp only; omega)) ⟨hO, hF, hH, hS, lv_sub hl [2, 3, 4, 1, 0] rfl, (show rng 0 from ⟨by decide, by decide⟩), ⟨by first | omega | (dsimp only; omega), by first | omega | (dsimp only; omega)⟩, by first | omega | (dsimp only; omega), by first | omega | (dsimp only; omega), by first | omega | (dsimp only; omega), by first | omega | (dsimp only; omega)⟩
        · replace c_57 := (I_eq (a := z_55) (b := 44) rz_55 (show rng 44 from ⟨by decide, by decide⟩)).mp c_57
          refine lv_iconst (v := I 1) hx hb dX1_readList_72 (by decide) ?_
          refine lv_goto (tgt := 77) hx hb dX1_readList_73 (by decide) ?_
          refine lv_istore (lv' := [(4, .int (I 1)), (0, .ref a), (1, .ref b), (2, .int (I dp)), (5, .int (I v5q42))]) hx hb dX1_readList_77 hl (by decide) rfl (fun ls hl => ?_)
          refine lv_iload hx hb dX1_readList_79 (lv_at hl 0 rfl) ?_
          refine lv_if_eq (tgt := 91) hx hb dX1_readList_81 (by decide) (fun c_59 => absurd c_59 (by decide)) (fun _ => ?_)
          refine lv_aload_n hx hb dX1_readList_84 rfl (lv_at hl 1 rfl) ?_
          refine ok.getR hO h_a (by decide) k10_0 (by decide) (fun _ _ he hv kk => th_get (ci := 1) (C := RX1) (T := TX1) (N := 1) hx hb hts inX1 hown hK hH he rfl 0 (by decide) fl0 hv dX1_readList_85 kk) ?_
          obtain ⟨_, hc_60⟩ := hO.cell hp_5 (by decide) (ci := 8) rfl
          refine th_callv (va_runV (As := []) (rest := []) ⟨hx, hb, hml, hown, hts⟩ (k_step l G y b0 σ_s_54 E hO (ad E a 0) hp_5) (cwV 0 hts gX1_readList_X8_step rfl rfl rfl (by decide +kernel) ⟨(by first | (simp only [headSpec]; omega) | omega | (dsimp only; omega)), (by first | (simp only [headSpec]; omega) | omega | (dsimp only; omega))⟩) (th_PV hK hH rfl hc_60) rfl rfl hl.1 rfl (lv_room (Nat.le_of_ble_eq_true rfl)) dX1_readList_88 ⟨(by first | (simp only [headSpec]; omega) | omega | (dsimp only; omega)), (by first | (simp only [headSpec]; omega) | omega | (dsimp only; omega))⟩) hS (fun σ_s_62 H locs hw_61 hH hS => ?_)
          obtain ⟨hO9, hF9, hw_61⟩ := hw_61
          replace hO := hO9
          replace hF := hF.tu hF9 (by decide)
          refine lv_iinc (v := I (v5q42 + 1)) (lv' := [(5, .int (I (v5q42 + 1))), (4, .int (I 1)), (0, .ref a), (1, .ref b), (2, .int (I dp))]) hx hb dX1_readList_91 hl (k := 4) rfl (I_add _ _) (by decide) rfl (fun ls hl => ?_)
          refine lv_goto (tgt := 38) hx hb dX1_readList_94 (by decide) ?_
          exact ihJ_43 (1, v5q42 + 1) σ_s_62 _ _ _ (by first | omega | (dsimp only; omega)) ⟨hO, hF, hH, hS, lv_sub hl [2, 3, 4, 1, 0] rfl, (show rng 1 from ⟨by decide, by decide⟩), ⟨by first | omega | (dsimp only; omega), by first | omega | (dsimp only; omega)⟩, by first | omega | (dsimp only; omega), by first | omega | (dsimp only; omega), by first | omega | (dsimp only; omega), by first | omega | (dsimp only; omega)⟩
  · refine lv_icmp_eq (tgt := 32) hx hb dX1_readList_25 (by decide) (fun c_63 => ?_) (fun c_63 => ?_)
    · replace c_63 := (I_eq (a := z_9) (b := 93) rz_9 (show rng 93 from ⟨by decide, by decide⟩)).mp c_63
      refine lv_iconst (v := I 0) hx hb dX1_readList_32 (by decide) ?_
      replace hl : lv_has ls 6 [(0, .ref a), (1, .ref b), (2, .int (I dp))] := lv_sub hl [0, 1, 2] rfl
      exact jK_13 (0) σ_s_8 _ _ _ ⟨rfl, hH, hS, lv_sub hl [0, 1, 2] rfl, (show rng 0 from ⟨by decide, by decide⟩), by first | omega | (dsimp only; omega)⟩
    · replace c_63 := mt (I_eq (a := z_9) (b := 93) rz_9 (show rng 93 from ⟨by decide, by decide⟩)).mpr c_63
      refine lv_iconst (v := I 1) hx hb dX1_readList_28 (by decide) ?_
      refine lv_goto (tgt := 33) hx hb dX1_readList_29 (by decide) ?_
      replace hl : lv_has ls 6 [(0, .ref a), (1, .ref b), (2, .int (I dp))] := lv_sub hl [0, 1, 2] rfl
      exact jK_13 (1) σ_s_8 _ _ _ ⟨rfl, hH, hS, lv_sub hl [0, 1, 2] rfl, (show rng 1 from ⟨by decide, by decide⟩), by first | omega | (dsimp only; omega)⟩

set_option maxHeartbeats 1000000 in
set_option maxRecDepth 100000 in
theorem r_readMap (n : Nat) (ih : ∀ (l : Launch) (G : va_G) (y : Nat → ClassId) (b0 : Nat) (σ : th_M) (E : th_E) (hO : ok y E σ) (a : Nat) (h_a : kd E a = 10) (b : Nat) (h_b : kd E b = 1) (dp : Int) (rdp : rng dp) (l_dp : 0 ≤ dp) (u_dp : dp ≤ 8) (ky : Int) (rky : rng ky) (hn : (8 - dp).toNat < n), Met l yX1_readThing wsX1_readThing ({ frames := 4*n+8, cells := 0, slots := 0, locals := (120*n+600) }) (th_P G y b0 σ [.ref a, .ref b, .int (I dp), .int (I ky)]) (th_Qv G b0 (fun σ1 => ok y E σ1 ∧ fr [3, 1] E σ σ1 ∧ (True))) 0 0 (th_A b0)) (l : Launch) (G : va_G) (y : Nat → ClassId) (b0 : Nat) (σ : th_M) (E : th_E) (hO : ok y E σ) (a : Nat) (h_a : kd E a = 10) (b : Nat) (h_b : kd E b = 1) (dp : Int) (rdp : rng dp) (l_dp : 0 ≤ dp) (u_dp : dp ≤ 7) (ky : Int) (rky : rng ky) (hy0 : (8 - dp).toNat < n + 1) : Met l yX1_readMap wsX1_readMap ({ frames := 4*n+10, cells := 0, slots := 0, locals := (120*n+650) }) (th_P G y b0 σ [.ref a, .ref b, .int (I dp), .int (I ky)]) (th_Qv G b0 (fun σ1 => ok y E σ1 ∧ fr [3, 1] E σ σ1 ∧ (True))) 0 0 (th_A b0) := by
  refine Met.ofW (cc := cX1_readMap) (maxL := 8) (ret := none) (by decide) rfl ?_
  intro p e s m args below meth c s₁ B hml hv
  obtain ⟨rfl, hH, hK⟩ := hv
  have hx := B.exec
  have hb := B.bytes
  have hr := B.returns
  have hts := atoms_spec (ws := wsX1_readMap) B.pre
  have hown : s.vm.findClass RX1 = some m.cls := findClass_of_methodNamed B.named
  have hlocks := B.notSynchronized
  have h00 : b0 ≤ s.heap.size := hH.1
  have hS : va_S (th_A b0) s.heap s.heap [] := va_S.rf
  have hF : fr [3, 1] E σ σ := fr.rf
  have inX1 : ∀ w ∈ wsX10, w ∈ wsX1_readMap := by decide +kernel
  have inX8 : ∀ w ∈ wsX80, w ∈ wsX1_readMap := by decide +kernel
  have fl0 := hts (.fieldLink RX1 9 "NestQuery$DataReader" "tokens" "LNestQuery$Tokens;") (by decide +kernel)
  have hl := lv_entry ([.ref a, .ref b, .int (I dp), .int (I ky)]) (n := 8) (Nat.le_of_ble_eq_true rfl)
  rw [lg_entry_eq]
  generalize (lg_sl ([.ref a, .ref b, .int (I dp), .int (I ky)]) ++ List.replicate (8 - (lg_sl ([.ref a, .ref b, .int (I dp), .int (I ky)])).length) Slot.unset).toArray = ls at hl ⊢
  have hl : lv_has ls 8 [(0, .ref a), (1, .ref b), (2, .int (I dp)), (3, .int (I ky))] := hl
  refine lv_aload_n hx hb dX1_readMap_0 rfl (lv_at hl 1 rfl) ?_
  refine lv_iconst (v := I 3) hx hb dX1_readMap_1 (by decide) ?_
  refine lv_iconst (v := I 0) hx hb dX1_readMap_2 (by decide) ?_
  refine lv_iload_n hx hb dX1_readMap_3 rfl (lv_at hl 3 rfl) ?_
  refine lv_iload_n hx hb dX1_readMap_4 rfl (lv_at hl 2 rfl) ?_
  obtain ⟨_, hc_1⟩ := hO.cell h_b (by decide) (ci := 9) rfl
  refine th_calli (va_runV (As := [.int (I 3), .int (I 0), .int (I ky), .int (I dp)]) (rest := []) ⟨hx, hb, hml, hown, hts⟩ (tw1_add l G y b0 σ E hO b h_b 3 (show rng 3 from (show rng 3 from ⟨by decide, by decide⟩)) 0 (show rng 0 from (show rng 0 from ⟨by decide, by decide⟩)) ky (show rng ky from rky) dp (show rng dp from rdp) (by omega)) (cwV 4 hts gX1_readMap_X9_addThing rfl rfl rfl (by decide +kernel) ⟨(by first | (simp only [headSpec]; omega) | omega | (dsimp only; omega)), (by first | (simp only [headSpec]; omega) | omega | (dsimp only; omega))⟩) (th_PV hK hH rfl hc_1) rfl rfl hl.1 rfl (lv_room (Nat.le_of_ble_eq_true rfl)) dX1_readMap_5 ⟨(by first | (simp only [headSpec]; omega) | omega | (dsimp only; omega)), (by first | (simp only [headSpec]; omega) | omega | (dsimp only; omega))⟩) hS (fun z_4 σ_s_3 H locs rz_4 hw_2 hH hS => ?_)
  obtain ⟨hO9, hF9, hw_2⟩ := hw_2
  replace hO := hO9
  replace hF := hF.tu hF9 (by decide)
  refine lv_istore (lv' := [(4, .int (I z_4)), (0, .ref a), (1, .ref b), (2, .int (I dp)), (3, .int (I ky))]) hx hb dX1_readMap_8 hl (by decide) rfl (fun ls hl => ?_)
  refine lv_aload_n hx hb dX1_readMap_10 rfl (lv_at hl 1 rfl) ?_
  have hp_5 : kd E (ad E a 0) = 3 := ok.pk hO h_a (by decide) k10_0 rfl
  refine ok.getR hO h_a (by decide) k10_0 (by decide) (fun _ _ he hv kk => th_get (ci := 1) (C := RX1) (T := TX1) (N := 1) hx hb hts inX1 hown hK hH he rfl 0 (by decide) fl0 hv dX1_readMap_11 kk) ?_
  obtain ⟨_, hc_6⟩ := hO.cell hp_5 (by decide) (ci := 8) rfl
  refine th_callv (va_runV (As := []) (rest := []) ⟨hx, hb, hml, hown, hts⟩ (k_step l G y b0 σ_s_3 E hO (ad E a 0) hp_5) (cwV 0 hts gX1_readMap_X8_step rfl rfl rfl (by decide +kernel) ⟨(by first | (simp only [headSpec]; omega) | omega | (dsimp only; omega)), (by first | (simp only [headSpec]; omega) | omega | (dsimp only; omega))⟩) (th_PV hK hH rfl hc_6) rfl rfl hl.1 rfl (lv_room (Nat.le_of_ble_eq_true rfl)) dX1_readMap_14 ⟨(by first | (simp only [headSpec]; omega) | omega | (dsimp only; omega)), (by first | (simp only [headSpec]; omega) | omega | (dsimp only; omega))⟩) hS (fun σ_s_8 H locs hw_7 hH hS => ?_)
  obtain ⟨hO9, hF9, hw_7⟩ := hw_7
  replace hO := hO9
  replace hF := hF.tu hF9 (by decide)
  refine lv_aload_n hx hb dX1_readMap_17 rfl (lv_at hl 1 rfl) ?_
  refine ok.getR hO h_a (by decide) k10_0 (by decide) (fun _ _ he hv kk => th_get (ci := 1) (C := RX1) (T := TX1) (N := 1) hx hb hts inX1 hown hK hH he rfl 0 (by decide) fl0 hv dX1_readMap_18 kk) ?_
  refine ok.getI hO hp_5 (by decide) k3_6 (fun _ _ he hv kk => th_getN (ci := 8) (C := RX8) (T := TX8) (N := 9) hx hb hts inX8 hown hK hH he rfl 6 (by decide) (nl_4 hK) hv dX1_readMap_21 kk) (fun z_9 e_10 rz_9 lz_9 uz_9 => ?_)
  refine lv_bipush (v := I 125) hx hb dX1_readMap_24 (by decide) ?_
  refine th_join (α := Int) (J := 34) (stk := fun x9 => [.int (I x9)]) (fun x9 σ9 H9 l9 ls9 => σ9 = σ_s_8 ∧ th_H G b0 σ9 H9 ∧ va_S (th_A b0) s.heap H9 l9 ∧ lv_has ls9 8 [(0, .ref a), (1, .ref b), (2, .int (I dp)), (4, .int (I z_4))] ∧ rng x9 ∧ (x9 = 0 ∨ x9 = 1)) ?_ (fun jK_13 => ?_)
  · intro x9 σ_K_13 H locs ls hI9
    obtain ⟨w0q12, ex9⟩ : ∃ z, z = x9 := ⟨_, rfl⟩
    subst ex9
    obtain ⟨eK_13, hH, hS, hl, rw0q12, K_13_0⟩ := hI9
    replace eK_13 := eK_13.symm
    subst eK_13
    have hl : lv_has ls 8 [(0, .ref a), (1, .ref b), (2, .int (I dp)), (4, .int (I z_4))] := hl
    have rw0q12 : rng w0q12 := rw0q12
    have K_13_0 : w0q12 = 0 ∨ w0q12 = 1 := K_13_0
    refine lv_istore (lv' := [(5, .int (I w0q12)), (0, .ref a), (1, .ref b), (2, .int (I dp)), (4, .int (I z_4))]) hx hb dX1_readMap_34 hl (by decide) rfl (fun ls hl => ?_)
    refine lv_iconst (v := I 0) hx hb dX1_readMap_36 (by decide) ?_
    refine lv_istore (lv' := [(6, .int (I 0)), (5, .int (I w0q12)), (0, .ref a), (1, .ref b), (2, .int (I dp)), (4, .int (I z_4))]) hx hb dX1_readMap_37 hl (by decide) rfl (fun ls hl => ?_)
    refine th_loop (α := Int × Int) (pc := 39) (fun x9 => (400 - x9.2).toNat) (fun x9 σ9 H9 l9 ls9 => ok y E σ9 ∧ fr [3, 1] E σ σ9 ∧ th_H G b0 σ9 H9 ∧ va_S (th_A b0) s.heap H9 l9 ∧ lv_has ls9 8 [(0, .ref a), (1, .ref b), (2, .int (I dp)), (4, .int (I z_4)), (5, .int (I x9.1)), (6, .int (I x9.2))] ∧ rng x9.1 ∧ rng x9.2 ∧ (0 ≤ x9.1) ∧ (x9.1 ≤ 1) ∧ (0 ≤ x9.2) ∧ (x9.2 ≤ 400)) ?_ (w0q12, 0) σ_s_8 _ _ _ ⟨hO, hF, hH, hS, lv_sub hl [2, 3, 4, 5, 1, 0] rfl, rw0q12, (show rng 0 from ⟨by decide, by decide⟩), by first | omega | (dsimp only; omega), by first | omega | (dsimp only; omega), by first | omega | (dsimp only; omega), by first | omega | (dsimp only; omega)⟩
    intro x9 σ_J_57 H locs ls hI9 ihJ_57
    obtain ⟨v5q56, v6q56⟩ := x9
    obtain ⟨hO, hF, hH, hS, hl, rv5q56, rv6q56, J_57_0, J_57_1, J_57_2, J_57_3⟩ := hI9
    have hl : lv_has ls 8 [(0, .ref a), (1, .ref b), (2, .int (I dp)), (4, .int (I z_4)), (5, .int (I v5q56)), (6, .int (I v6q56))] := hl
    have rv5q56 : rng v5q56 := rv5q56
    have rv6q56 : rng v6q56 := rv6q56
    have J_57_0 : 0 ≤ v5q56 := J_57_0
    have J_57_1 : v5q56 ≤ 1 := J_57_1
    have J_57_2 : 0 ≤ v6q56 := J_57_2
    have J_57_3 : v6q56 ≤ 400 := J_57_3
    refine lv_iload hx hb dX1_readMap_39 (lv_at hl 4 rfl) ?_
    refine lv_if_eq (tgt := 117) hx hb dX1_readMap_41 (by decide) (fun c_58 => ?_) (fun c_58 => ?_)
    · replace c_58 := (I_eq (a := v5q56) (b := 0) rv5q56 (show rng 0 from ⟨by decide, by decide⟩)).mp c_58
      refine lv_aload_n hx hb dX1_readMap_117 rfl (lv_at hl 0 rfl) ?_
      refine ok.getR hO h_a (by decide) k10_0 (by decide) (fun _ _ he hv kk => th_get (ci := 1) (C := RX1) (T := TX1) (N := 1) hx hb hts inX1 hown hK hH he rfl 0 (by decide) fl0 hv dX1_readMap_118 kk) ?_
      refine lv_bipush (v := I 125) hx hb dX1_readMap_121 (by decide) ?_
      obtain ⟨_, hc_59⟩ := hO.cell hp_5 (by decide) (ci := 8) rfl
      refine th_callv (va_runV (As := [.int (I 125)]) (rest := []) ⟨hx, hb, hml, hown, hts⟩ (k_expect l G y b0 σ_J_57 E hO (ad E a 0) hp_5 125 (show rng 125 from (show rng 125 from ⟨by decide, by decide⟩))) (cwV 1 hts gX1_readMap_X8_expect rfl rfl rfl (by decide +kernel) ⟨(by first | (simp only [headSpec]; omega) | omega | (dsimp only; omega)), (by first | (simp only [headSpec]; omega) | omega | (dsimp only; omega))⟩) (th_PV hK hH rfl hc_59) rfl rfl hl.1 rfl (lv_room (Nat.le_of_ble_eq_true rfl)) dX1_readMap_123 ⟨(by first | (simp only [headSpec]; omega) | omega | (dsimp only; omega)), (by first | (simp only [headSpec]; omega) | omega | (dsimp only; omega))⟩) hS (fun σ_s_61 H locs hw_60 hH hS => ?_)
      obtain ⟨hO9, hF9, hw_60⟩ := hw_60
      replace hO := hO9
      replace hF := hF.tu hF9 (by decide)
      exact th_vret hx hb hr hlocks hH hS ⟨hO, hF, trivial⟩ dX1_readMap_126
    · replace c_58 := mt (I_eq (a := v5q56) (b := 0) rv5q56 (show rng 0 from ⟨by decide, by decide⟩)).mpr c_58
      refine lv_iload hx hb dX1_readMap_44 (lv_at hl 5 rfl) ?_
      refine lv_sipush (v := I 400) hx hb dX1_readMap_46 (by decide) ?_
      refine lv_icmp_ge (tgt := 117) hx hb dX1_readMap_49 (by decide) (fun c_62 => ?_) (fun c_62 => ?_)
      · replace c_62 := (I_le (a := 400) (b := v6q56) (show rng 400 from ⟨by decide, by decide⟩) rv6q56).mp c_62
        refine lv_aload_n hx hb dX1_readMap_117 rfl (lv_at hl 0 rfl) ?_
        refine ok.getR hO h_a (by decide) k10_0 (by decide) (fun _ _ he hv kk => th_get (ci := 1) (C := RX1) (T := TX1) (N := 1) hx hb hts inX1 hown hK hH he rfl 0 (by decide) fl0 hv dX1_readMap_118 kk) ?_
        refine lv_bipush (v := I 125) hx hb dX1_readMap_121 (by decide) ?_
        obtain ⟨_, hc_63⟩ := hO.cell hp_5 (by decide) (ci := 8) rfl
        refine th_callv (va_runV (As := [.int (I 125)]) (rest := []) ⟨hx, hb, hml, hown, hts⟩ (k_expect l G y b0 σ_J_57 E hO (ad E a 0) hp_5 125 (show rng 125 from (show rng 125 from ⟨by decide, by decide⟩))) (cwV 1 hts gX1_readMap_X8_expect rfl rfl rfl (by decide +kernel) ⟨(by first | (simp only [headSpec]; omega) | omega | (dsimp only; omega)), (by first | (simp only [headSpec]; omega) | omega | (dsimp only; omega))⟩) (th_PV hK hH rfl hc_63) rfl rfl hl.1 rfl (lv_room (Nat.le_of_ble_eq_true rfl)) dX1_readMap_123 ⟨(by first | (simp only [headSpec]; omega) | omega | (dsimp only; omega)), (by first | (simp only [headSpec]; omega) | omega | (dsimp only; omega))⟩) hS (fun σ_s_65 H locs hw_64 hH hS => ?_)
        obtain ⟨hO9, hF9, hw_64⟩ := hw_64
        replace hO := hO9
        replace hF := hF.tu hF9 (by decide)
        exact th_vret hx hb hr hlocks hH hS ⟨hO, hF, trivial⟩ dX1_readMap_126
      · replace c_62 := mt (I_le (a := 400) (b := v6q56) (show rng 400 from ⟨by decide, by decide⟩) rv6q56).mpr c_62
        refine lv_aload_n hx hb dX1_readMap_52 rfl (lv_at hl 0 rfl) ?_
        refine lv_aload_n hx hb dX1_readMap_53 rfl (lv_at hl 1 rfl) ?_
        refine lv_iload hx hb dX1_readMap_54 (lv_at hl 3 rfl) ?_
        obtain ⟨_, hc_66⟩ := hO.cell h_a (by decide) (ci := 1) rfl
        refine th_calli (va_runV (As := [.ref b, .int (I z_4)]) (rest := []) ⟨hx, hb, hml, hown, hts⟩ (r_readKey l G y b0 σ_J_57 E hO a h_a b h_b z_4 (show rng z_4 from rz_4)) (cwV 2 hts gX1_readMap_X1_readKey rfl rfl rfl (by decide +kernel) ⟨(by first | (simp only [headSpec]; omega) | omega | (dsimp only; omega)), (by first | (simp only [headSpec]; omega) | omega | (dsimp only; omega))⟩) (th_PV hK hH rfl hc_66) rfl rfl hl.1 rfl (lv_room (Nat.le_of_ble_eq_true rfl)) dX1_readMap_56 ⟨(by first | (simp only [headSpec]; omega) | omega | (dsimp only; omega)), (by first | (simp only [headSpec]; omega) | omega | (dsimp only; omega))⟩) hS (fun z_69 σ_s_68 H locs rz_69 hw_67 hH hS => ?_)
        obtain ⟨hO9, hF9, hw_67⟩ := hw_67
        replace hO := hO9
        replace hF := hF.tu hF9 (by decide)
        refine lv_istore (lv' := [(7, .int (I z_69)), (0, .ref a), (1, .ref b), (2, .int (I dp)), (4, .int (I z_4)), (5, .int (I v5q56)), (6, .int (I v6q56))]) hx hb dX1_readMap_59 hl (by decide) rfl (fun ls hl => ?_)
        refine lv_aload_n hx hb dX1_readMap_61 rfl (lv_at hl 1 rfl) ?_
        refine ok.getR hO h_a (by decide) k10_0 (by decide) (fun _ _ he hv kk => th_get (ci := 1) (C := RX1) (T := TX1) (N := 1) hx hb hts inX1 hown hK hH he rfl 0 (by decide) fl0 hv dX1_readMap_62 kk) ?_
        refine lv_bipush (v := I 58) hx hb dX1_readMap_65 (by decide) ?_
        obtain ⟨_, hc_70⟩ := hO.cell hp_5 (by decide) (ci := 8) rfl
        refine th_callv (va_runV (As := [.int (I 58)]) (rest := []) ⟨hx, hb, hml, hown, hts⟩ (k_expect l G y b0 σ_s_68 E hO (ad E a 0) hp_5 58 (show rng 58 from (show rng 58 from ⟨by decide, by decide⟩))) (cwV 1 hts gX1_readMap_X8_expect rfl rfl rfl (by decide +kernel) ⟨(by first | (simp only [headSpec]; omega) | omega | (dsimp only; omega)), (by first | (simp only [headSpec]; omega) | omega | (dsimp only; omega))⟩) (th_PV hK hH rfl hc_70) rfl rfl hl.1 rfl (lv_room (Nat.le_of_ble_eq_true rfl)) dX1_readMap_67 ⟨(by first | (simp only [headSpec]; omega) | omega | (dsimp only; omega)), (by first | (simp only [headSpec]; omega) | omega | (dsimp only; omega))⟩) hS (fun σ_s_72 H locs hw_71 hH hS => ?_)
        obtain ⟨hO9, hF9, hw_71⟩ := hw_71
        replace hO := hO9
        replace hF := hF.tu hF9 (by decide)
        refine lv_aload_n hx hb dX1_readMap_70 rfl (lv_at hl 1 rfl) ?_
        refine lv_aload_n hx hb dX1_readMap_71 rfl (lv_at hl 2 rfl) ?_
        refine lv_iload_n hx hb dX1_readMap_72 rfl (lv_at hl 3 rfl) ?_
        refine lv_iconst (v := I 1) hx hb dX1_readMap_73 (by decide) ?_
        refine lv_iadd hx hb dX1_readMap_74 ?_
        refine nq_top (I_add _ _) ?_
        refine lv_iload hx hb dX1_readMap_75 (lv_at hl 0 rfl) ?_
        obtain ⟨_, hc_73⟩ := hO.cell h_a (by decide) (ci := 1) rfl
        refine th_callv (va_runV (As := [.ref b, .int (I (dp + 1)), .int (I z_69)]) (rest := []) ⟨hx, hb, hml, hown, hts⟩ (ih l G y b0 σ_s_72 E hO a h_a b h_b (dp + 1) (show rng (dp + 1) from ⟨by omega, by omega⟩) (by omega) (by omega) z_69 (show rng z_69 from rz_69) (by omega)) (cwV 3 hts gX1_readMap_X1_readThing rfl rfl rfl (by decide +kernel) ⟨(by first | (simp only [headSpec]; omega) | omega | (dsimp only; omega)), (by first | (simp only [headSpec]; omega) | omega | (dsimp only; omega))⟩) (th_PV hK hH rfl hc_73) rfl rfl hl.1 rfl (lv_room (Nat.le_of_ble_eq_true rfl)) dX1_readMap_77 ⟨(by first | (simp only [headSpec]; omega) | omega | (dsimp only; omega)), (by first | (simp only [headSpec]; omega) | omega | (dsimp only; omega))⟩) hS (fun σ_s_75 H locs hw_74 hH hS => ?_)
        obtain ⟨hO9, hF9, hw_74⟩ := hw_74
        replace hO := hO9
        replace hF := hF.tu hF9 (by decide)
        refine lv_aload_n hx hb dX1_readMap_80 rfl (lv_at hl 1 rfl) ?_
        refine ok.getR hO h_a (by decide) k10_0 (by decide) (fun _ _ he hv kk => th_get (ci := 1) (C := RX1) (T := TX1) (N := 1) hx hb hts inX1 hown hK hH he rfl 0 (by decide) fl0 hv dX1_readMap_81 kk) ?_
        refine ok.getI hO hp_5 (by decide) k3_6 (fun _ _ he hv kk => th_getN (ci := 8) (C := RX8) (T := TX8) (N := 9) hx hb hts inX8 hown hK hH he rfl 6 (by decide) (nl_4 hK) hv dX1_readMap_84 kk) (fun z_76 e_77 rz_76 lz_76 uz_76 => ?_)
        refine lv_bipush (v := I 44) hx hb dX1_readMap_87 (by decide) ?_
        refine lv_icmp_ne (tgt := 96) hx hb dX1_readMap_89 (by decide) (fun c_78 => ?_) (fun c_78 => ?_)
        · replace c_78 := mt (I_eq (a := z_76) (b := 44) rz_76 (show rng 44 from ⟨by decide, by decide⟩)).mpr c_78
          refine lv_iconst (v := I 0) hx hb dX1_readMap_96 (by decide) ?_
          refine lv_istore (lv' := [(5, .int (I 0)), (7, .int (I z_69)), (0, .ref a), (1, .ref b), (2, .int (I dp)), (4, .int (I z_4)), (6, .int (I v6q56))]) hx hb dX1_readMap_97 hl (by decide) rfl (fun ls hl => ?_)
          refine lv_iload hx hb dX1_readMap_99 (lv_at hl 0 rfl) ?_
          refine lv_if_eq (tgt := 111) hx hb dX1_readMap_101 (by decide) (fun _ => ?_) (fun c_79 => absurd (by decide) c_79)
          refine lv_iinc (v := I (v6q56 + 1)) (lv' := [(6, .int (I (v6q56 + 1))), (5, .int (I 0)), (7, .int (I z_69)), (0, .ref a), (1, .ref b), (2, .int (I dp)), (4, .int (I z_4))]) hx hb dX1_readMap_111 hl (k := 6) rfl (I_add _ _) (by decide) rfl (fun ls hl => ?_)
          refine lv_goto (tgt := 39) hx hb dX1_readMap_114 (by decide) ?_
          replace hl : lv_has ls 8 [(6, .int (I (v6q56 + 1))), (5, .int (I 0)), (0, .ref a), (1, .ref b), (2, .int (I dp)), (4, .int (I z_4))] := lv_sub hl [0, 1, 3, 4, 5, 6] rfl
          exact ihJ_57 (0, v6q56 + 1) σ_s_75 _ _ _ (by first | omega | (dsimp only; omega)) ⟨hO, hF, hH, hS, lv_sub hl [2, 3, 4, 5, 1, 0] rfl, (show rng 0 from ⟨by decide, by decide⟩), ⟨by first | omega | (dsimp only; omega), by first | omega | (dsimp only; omega)⟩, by first | omega | (dsimp only; omega), by first | omega | (dsimp only; omega), by first | omega | (dsimp only; omega), by first | omega | (dsimp only; omega)⟩
        · replace c_78 := (I_eq (a := z_76) (b := 44) rz_76 (show rng 44 from ⟨by decide, by decide⟩)).mp c_78
          refine lv_iconst (v := I 1) hx hb dX1_readMap_92 (by decide) ?_
          refine lv_goto (tgt := 97) hx hb dX1_readMap_93 (by decide) ?_
          refine lv_istore (lv' := [(5, .int (I 1)), (7, .int (I z_69)), (0, .ref a), (1, .ref b), (2, .int (I dp)), (4, .int (I z_4)), (6, .int (I v6q56))]) hx hb dX1_readMap_97 hl (by decide) rfl (fun ls hl => ?_)
          refine lv_iload hx hb dX1_readMap_99 (lv_at hl 0 rfl) ?_
          refine lv_if_eq (tgt := 111) hx hb dX1_readMap_101 (by decide) (fun c_80 => absurd c_80 (by decide)) (fun _ => ?_)
          refine lv_aload_n hx hb dX1_readMap_104 rfl (lv_at hl 2 rfl) ?_
          refine ok.getR hO h_a (by decide) k10_0 (by decide) (fun _ _ he hv kk => th_get (ci := 1) (C := RX1) (T := TX1) (N := 1) hx hb hts inX1 hown hK hH he rfl 0 (by decide) fl0 hv dX1_readMap_105 kk) ?_
          obtain ⟨_, hc_81⟩ := hO.cell hp_5 (by decide) (ci := 8) rfl
          refine th_callv (va_runV (As := []) (rest := []) ⟨hx, hb, hml, hown, hts⟩ (k_step l G y b0 σ_s_75 E hO (ad E a 0) hp_5) (cwV 0 hts gX1_readMap_X8_step rfl rfl rfl (by decide +kernel) ⟨(by first | (simp only [headSpec]; omega) | omega | (dsimp only; omega)), (by first | (simp only [headSpec]; omega) | omega | (dsimp only; omega))⟩) (th_PV hK hH rfl hc_81) rfl rfl hl.1 rfl (lv_room (Nat.le_of_ble_eq_true rfl)) dX1_readMap_108 ⟨(by first | (simp only [headSpec]; omega) | omega | (dsimp only; omega)), (by first | (simp only [headSpec]; omega) | omega | (dsimp only; omega))⟩) hS (fun σ_s_83 H locs hw_82 hH hS => ?_)
          obtain ⟨hO9, hF9, hw_82⟩ := hw_82
          replace hO := hO9
          replace hF := hF.tu hF9 (by decide)
          refine lv_iinc (v := I (v6q56 + 1)) (lv' := [(6, .int (I (v6q56 + 1))), (5, .int (I 1)), (7, .int (I z_69)), (0, .ref a), (1, .ref b), (2, .int (I dp)), (4, .int (I z_4))]) hx hb dX1_readMap_111 hl (k := 6) rfl (I_add _ _) (by decide) rfl (fun ls hl => ?_)
          refine lv_goto (tgt := 39) hx hb dX1_readMap_114 (by decide) ?_
          replace hl : lv_has ls 8 [(6, .int (I (v6q56 + 1))), (5, .int (I 1)), (0, .ref a), (1, .ref b), (2, .int (I dp)), (4, .int (I z_4))] := lv_sub hl [0, 1, 3, 4, 5, 6] rfl
          exact ihJ_57 (1, v6q56 + 1) σ_s_83 _ _ _ (by first | omega | (dsimp only; omega)) ⟨hO, hF, hH, hS, lv_sub hl [2, 3, 4, 5, 1, 0] rfl, (show rng 1 from ⟨by decide, by decide⟩), ⟨by first | omega | (dsimp only; omega), by first | omega | (dsimp only; omega)⟩, by first | omega | (dsimp only; omega), by first | omega | (dsimp only; omega), by first | omega | (dsimp only; omega), by first | omega | (dsimp only; omega)⟩
  · refine lv_icmp_eq (tgt := 33) hx hb dX1_readMap_26 (by decide) (fun c_84 => ?_) (fun c_84 => ?_)
    · replace c_84 := (I_eq (a := z_9) (b := 125) rz_9 (show rng 125 from ⟨by decide, by decide⟩)).mp c_84
      refine lv_iconst (v := I 0) hx hb dX1_readMap_33 (by decide) ?_
      replace hl : lv_has ls 8 [(4, .int (I z_4)), (0, .ref a), (1, .ref b), (2, .int (I dp))] := lv_sub hl [0, 1, 2, 3] rfl
      exact jK_13 (0) σ_s_8 _ _ _ ⟨rfl, hH, hS, lv_sub hl [1, 2, 3, 0] rfl, (show rng 0 from ⟨by decide, by decide⟩), by first | omega | (dsimp only; omega)⟩
    · replace c_84 := mt (I_eq (a := z_9) (b := 125) rz_9 (show rng 125 from ⟨by decide, by decide⟩)).mpr c_84
      refine lv_iconst (v := I 1) hx hb dX1_readMap_29 (by decide) ?_
      refine lv_goto (tgt := 34) hx hb dX1_readMap_30 (by decide) ?_
      replace hl : lv_has ls 8 [(4, .int (I z_4)), (0, .ref a), (1, .ref b), (2, .int (I dp))] := lv_sub hl [0, 1, 2, 3] rfl
      exact jK_13 (1) σ_s_8 _ _ _ ⟨rfl, hH, hS, lv_sub hl [1, 2, 3, 0] rfl, (show rng 1 from ⟨by decide, by decide⟩), by first | omega | (dsimp only; omega)⟩

set_option maxHeartbeats 1000000 in
set_option maxRecDepth 100000 in
theorem r_readThing (n : Nat) : ∀ (l : Launch) (G : va_G) (y : Nat → ClassId) (b0 : Nat) (σ : th_M) (E : th_E) (hO : ok y E σ) (a : Nat) (h_a : kd E a = 10) (b : Nat) (h_b : kd E b = 1) (dp : Int) (rdp : rng dp) (l_dp : 0 ≤ dp) (u_dp : dp ≤ 8) (ky : Int) (rky : rng ky) (hn : (8 - dp).toNat < n), Met l yX1_readThing wsX1_readThing ({ frames := 4*n+8, cells := 0, slots := 0, locals := (120*n+600) }) (th_P G y b0 σ [.ref a, .ref b, .int (I dp), .int (I ky)]) (th_Qv G b0 (fun σ1 => ok y E σ1 ∧ fr [3, 1] E σ σ1 ∧ (True))) 0 0 (th_A b0) := by
  induction n with
  | zero => intro l G y b0 σ E hO a h_a b h_b dp rdp l_dp u_dp ky rky hn; exact absurd hn (Nat.not_lt_zero _)
  | succ n ih =>
    intro l G y b0 σ E hO a h_a b h_b dp rdp l_dp u_dp ky rky hn
    refine Met.ofW (cc := cX1_readThing) (maxL := 4) (ret := none) (by decide) rfl ?_
    intro p e s m args below meth c s₁ B hml hv
    obtain ⟨rfl, hH, hK⟩ := hv
    have hx := B.exec
    have hb := B.bytes
    have hr := B.returns
    have hts := atoms_spec (ws := wsX1_readThing) B.pre
    have hown : s.vm.findClass RX1 = some m.cls := findClass_of_methodNamed B.named
    have hlocks := B.notSynchronized
    have h00 : b0 ≤ s.heap.size := hH.1
    have hS : va_S (th_A b0) s.heap s.heap [] := va_S.rf
    have hF : fr [3, 1] E σ σ := fr.rf
    have inX1 : ∀ w ∈ wsX10, w ∈ wsX1_readThing := by decide +kernel
    have inX8 : ∀ w ∈ wsX80, w ∈ wsX1_readThing := by decide +kernel
    have inX9 : ∀ w ∈ wsX90, w ∈ wsX1_readThing := by decide +kernel
    have fl0 := hts (.fieldLink RX1 9 "NestQuery$DataReader" "tokens" "LNestQuery$Tokens;") (by decide +kernel)
    have fl1 := hts (.initialized RX10) (by decide +kernel)
    have fl2 := hts (.static yX10_firstLetterHighest) (by decide +kernel)
    have hl := lv_entry ([.ref a, .ref b, .int (I dp), .int (I ky)]) (n := 4) (Nat.le_of_ble_eq_true rfl)
    rw [lg_entry_eq]
    generalize (lg_sl ([.ref a, .ref b, .int (I dp), .int (I ky)]) ++ List.replicate (4 - (lg_sl ([.ref a, .ref b, .int (I dp), .int (I ky)])).length) Slot.unset).toArray = ls at hl ⊢
    have hl : lv_has ls 4 [(0, .ref a), (1, .ref b), (2, .int (I dp)), (3, .int (I ky))] := hl
    refine lv_aload_n hx hb dX1_readThing_0 rfl (lv_at hl 0 rfl) ?_
    have hp_1 : kd E (ad E a 0) = 3 := ok.pk hO h_a (by decide) k10_0 rfl
    refine ok.getR hO h_a (by decide) k10_0 (by decide) (fun _ _ he hv kk => th_get (ci := 1) (C := RX1) (T := TX1) (N := 1) hx hb hts inX1 hown hK hH he rfl 0 (by decide) fl0 hv dX1_readThing_1 kk) ?_
    refine ok.getI hO hp_1 (by decide) k3_6 (fun _ _ he hv kk => th_getN (ci := 8) (C := RX8) (T := TX8) (N := 9) hx hb hts inX8 hown hK hH he rfl 6 (by decide) (nl_4 hK) hv dX1_readThing_4 kk) (fun z_2 e_3 rz_2 lz_2 uz_2 => ?_)
    refine th_calli (va_runS (As := [.int (I z_2)]) (rest := []) ⟨hx, hb, hml, hown, hts⟩ (r_canBegin l G y b0 σ E hO z_2 (show rng z_2 from rz_2)) (va_cwS 1 hts gX1_readThing_X1_canBegin rfl rfl rfl (by decide +kernel) ⟨(by first | (simp only [headSpec]; omega) | omega | (dsimp only; omega)), (by first | (simp only [headSpec]; omega) | omega | (dsimp only; omega))⟩) (th_PS hK hH) rfl rfl hl.1 rfl (lv_room (Nat.le_of_ble_eq_true rfl)) dX1_readThing_7 ⟨(by first | (simp only [headSpec]; omega) | omega | (dsimp only; omega)), (by first | (simp only [headSpec]; omega) | omega | (dsimp only; omega))⟩) hS (fun z_6 σ_s_5 H locs rz_6 hw_4 hH hS => ?_)
    obtain ⟨e9, bhw_4, hw_4⟩ := hw_4
    replace e9 := e9.symm
    subst e9
    refine lv_if_ne (tgt := 24) hx hb dX1_readThing_10 (by decide) (fun c_7 => ?_) (fun c_7 => ?_)
    · replace c_7 := mt (I_eq (a := z_6) (b := 0) rz_6 (show rng 0 from ⟨by decide, by decide⟩)).mpr c_7
      refine lv_aload_n hx hb dX1_readThing_24 rfl (lv_at hl 1 rfl) ?_
      refine ok.getI hO h_b (by decide) k1_4 (fun _ _ he hv kk => th_getN (ci := 9) (C := RX9) (T := TX9) (N := 5) hx hb hts inX9 hown hK hH he rfl 4 (by decide) (nl_10 hK) hv dX1_readThing_25 kk) (fun z_8 e_9 rz_8 lz_8 uz_8 => ?_)
      refine lv_bipush (v := I 60) hx hb dX1_readThing_28 (by decide) ?_
      refine lv_icmp_ge (tgt := 39) hx hb dX1_readThing_30 (by decide) (fun c_10 => ?_) (fun c_10 => ?_)
      · replace c_10 := (I_le (a := 60) (b := z_8) (show rng 60 from ⟨by decide, by decide⟩) rz_8).mp c_10
        refine lv_aload_n hx hb dX1_readThing_39 rfl (lv_at hl 0 rfl) ?_
        refine ok.getR hO h_a (by decide) k10_0 (by decide) (fun _ _ he hv kk => th_get (ci := 1) (C := RX1) (T := TX1) (N := 1) hx hb hts inX1 hown hK hH he rfl 0 (by decide) fl0 hv dX1_readThing_40 kk) ?_
        refine lv_iconst (v := I 2) hx hb dX1_readThing_43 (by decide) ?_
        obtain ⟨_, hc_11⟩ := hO.cell hp_1 (by decide) (ci := 8) rfl
        refine th_callv (va_runV (As := [.int (I 2)]) (rest := []) ⟨hx, hb, hml, hown, hts⟩ (k_fail l G y b0 σ E hO (ad E a 0) hp_1 2 (show rng 2 from (show rng 2 from ⟨by decide, by decide⟩))) (cwV 1 hts gX1_readThing_X8_fail rfl rfl rfl (by decide +kernel) ⟨(by first | (simp only [headSpec]; omega) | omega | (dsimp only; omega)), (by first | (simp only [headSpec]; omega) | omega | (dsimp only; omega))⟩) (th_PV hK hH rfl hc_11) rfl rfl hl.1 rfl (lv_room (Nat.le_of_ble_eq_true rfl)) dX1_readThing_44 ⟨(by first | (simp only [headSpec]; omega) | omega | (dsimp only; omega)), (by first | (simp only [headSpec]; omega) | omega | (dsimp only; omega))⟩) hS (fun σ_s_13 H locs hw_12 hH hS => ?_)
        obtain ⟨hO9, hF9, hw_12⟩ := hw_12
        have e_14 : gI σ_s_13 b 4 = z_8 := (fr.ki hO hF9 h_b (by decide) (by decide) _).trans e_9
        replace hO := hO9
        replace hF := hF.tu hF9 (by decide)
        refine lv_goto (tgt := 143) hx hb dX1_readThing_47 (by decide) ?_
        exact th_vret hx hb hr hlocks hH hS ⟨hO, hF, trivial⟩ dX1_readThing_143
      · replace c_10 := mt (I_le (a := 60) (b := z_8) (show rng 60 from ⟨by decide, by decide⟩) rz_8).mpr c_10
        refine lv_iload_n hx hb dX1_readThing_33 rfl (lv_at hl 2 rfl) ?_
        refine lv_bipush (v := I 7) hx hb dX1_readThing_34 (by decide) ?_
        refine lv_icmp_le (tgt := 50) hx hb dX1_readThing_36 (by decide) (fun c_15 => ?_) (fun c_15 => ?_)
        · replace c_15 := (I_le (a := dp) (b := 7) rdp (show rng 7 from ⟨by decide, by decide⟩)).mp c_15
          refine lv_aload_n hx hb dX1_readThing_50 rfl (lv_at hl 0 rfl) ?_
          refine ok.getR hO h_a (by decide) k10_0 (by decide) (fun _ _ he hv kk => th_get (ci := 1) (C := RX1) (T := TX1) (N := 1) hx hb hts inX1 hown hK hH he rfl 0 (by decide) fl0 hv dX1_readThing_51 kk) ?_
          refine ok.getIc hO hp_1 (by decide) k3_6 e_3 (fun _ _ he hv kk => th_getN (ci := 8) (C := RX8) (T := TX8) (N := 9) hx hb hts inX8 hown hK hH he rfl 6 (by decide) (nl_4 hK) hv dX1_readThing_54 kk) ?_
          refine lv_bipush (v := I 91) hx hb dX1_readThing_57 (by decide) ?_
          refine lv_icmp_ne (tgt := 72) hx hb dX1_readThing_59 (by decide) (fun c_16 => ?_) (fun c_16 => ?_)
          · replace c_16 := mt (I_eq (a := z_2) (b := 91) rz_2 (show rng 91 from ⟨by decide, by decide⟩)).mpr c_16
            refine lv_aload_n hx hb dX1_readThing_72 rfl (lv_at hl 0 rfl) ?_
            refine ok.getR hO h_a (by decide) k10_0 (by decide) (fun _ _ he hv kk => th_get (ci := 1) (C := RX1) (T := TX1) (N := 1) hx hb hts inX1 hown hK hH he rfl 0 (by decide) fl0 hv dX1_readThing_73 kk) ?_
            refine ok.getIc hO hp_1 (by decide) k3_6 e_3 (fun _ _ he hv kk => th_getN (ci := 8) (C := RX8) (T := TX8) (N := 9) hx hb hts inX8 hown hK hH he rfl 6 (by decide) (nl_4 hK) hv dX1_readThing_76 kk) ?_
            refine lv_bipush (v := I 123) hx hb dX1_readThing_79 (by decide) ?_
            refine lv_icmp_ne (tgt := 94) hx hb dX1_readThing_81 (by decide) (fun c_17 => ?_) (fun c_17 => ?_)
            · replace c_17 := mt (I_eq (a := z_2) (b := 123) rz_2 (show rng 123 from ⟨by decide, by decide⟩)).mpr c_17
              refine lv_aload_n hx hb dX1_readThing_94 rfl (lv_at hl 0 rfl) ?_
              refine ok.getR hO h_a (by decide) k10_0 (by decide) (fun _ _ he hv kk => th_get (ci := 1) (C := RX1) (T := TX1) (N := 1) hx hb hts inX1 hown hK hH he rfl 0 (by decide) fl0 hv dX1_readThing_95 kk) ?_
              refine ok.getIc hO hp_1 (by decide) k3_6 e_3 (fun _ _ he hv kk => th_getN (ci := 8) (C := RX8) (T := TX8) (N := 9) hx hb hts inX8 hown hK hH he rfl 6 (by decide) (nl_4 hK) hv dX1_readThing_98 kk) ?_
              refine lv_sipush (v := I 256) hx hb dX1_readThing_101 (by decide) ?_
              refine lv_icmp_ne (tgt := 128) hx hb dX1_readThing_104 (by decide) (fun c_18 => ?_) (fun c_18 => ?_)
              · replace c_18 := mt (I_eq (a := z_2) (b := 256) rz_2 (show rng 256 from ⟨by decide, by decide⟩)).mpr c_18
                refine lv_aload_n hx hb dX1_readThing_128 rfl (lv_at hl 1 rfl) ?_
                refine lv_iconst (v := I 0) hx hb dX1_readThing_129 (by decide) ?_
                refine lv_aload_n hx hb dX1_readThing_130 rfl (lv_at hl 0 rfl) ?_
                refine ok.getR hO h_a (by decide) k10_0 (by decide) (fun _ _ he hv kk => th_get (ci := 1) (C := RX1) (T := TX1) (N := 1) hx hb hts inX1 hown hK hH he rfl 0 (by decide) fl0 hv dX1_readThing_131 kk) ?_
                obtain ⟨_, hc_19⟩ := hO.cell hp_1 (by decide) (ci := 8) rfl
                refine th_calli (va_runV (As := []) (rest := [.int (I 0), .ref b]) ⟨hx, hb, hml, hown, hts⟩ (k_number l G y b0 σ E hO (ad E a 0) hp_1) (cwV 0 hts gX1_readThing_X8_takeNumber rfl rfl rfl (by decide +kernel) ⟨(by first | (simp only [headSpec]; omega) | omega | (dsimp only; omega)), (by first | (simp only [headSpec]; omega) | omega | (dsimp only; omega))⟩) (th_PV hK hH rfl hc_19) rfl rfl hl.1 rfl (lv_room (Nat.le_of_ble_eq_true rfl)) dX1_readThing_134 ⟨(by first | (simp only [headSpec]; omega) | omega | (dsimp only; omega)), (by first | (simp only [headSpec]; omega) | omega | (dsimp only; omega))⟩) hS (fun z_22 σ_s_21 H locs rz_22 hw_20 hH hS => ?_)
                obtain ⟨hO9, hF9, hw_20⟩ := hw_20
                have e_23 : gI σ_s_21 b 4 = z_8 := (fr.ki hO hF9 h_b (by decide) (by decide) _).trans e_9
                replace hO := hO9
                replace hF := hF.tu hF9 (by decide)
                refine lv_iload_n hx hb dX1_readThing_137 rfl (lv_at hl 3 rfl) ?_
                refine lv_iload_n hx hb dX1_readThing_138 rfl (lv_at hl 2 rfl) ?_
                obtain ⟨_, hc_24⟩ := hO.cell h_b (by decide) (ci := 9) rfl
                refine th_calli (va_runV (As := [.int (I 0), .int (I z_22), .int (I ky), .int (I dp)]) (rest := []) ⟨hx, hb, hml, hown, hts⟩ (tw1_add l G y b0 σ_s_21 E hO b h_b 0 (show rng 0 from (show rng 0 from ⟨by decide, by decide⟩)) z_22 (show rng z_22 from rz_22) ky (show rng ky from rky) dp (show rng dp from rdp) (by omega)) (cwV 4 hts gX1_readThing_X9_addThing rfl rfl rfl (by decide +kernel) ⟨(by first | (simp only [headSpec]; omega) | omega | (dsimp only; omega)), (by first | (simp only [headSpec]; omega) | omega | (dsimp only; omega))⟩) (th_PV hK hH rfl hc_24) rfl rfl hl.1 rfl (lv_room (Nat.le_of_ble_eq_true rfl)) dX1_readThing_139 ⟨(by first | (simp only [headSpec]; omega) | omega | (dsimp only; omega)), (by first | (simp only [headSpec]; omega) | omega | (dsimp only; omega))⟩) hS (fun z_27 σ_s_26 H locs rz_27 hw_25 hH hS => ?_)
                obtain ⟨hO9, hF9, hw_25⟩ := hw_25
                replace hO := hO9
                replace hF := hF.tu hF9 (by decide)
                refine lv_pop hx hb dX1_readThing_142 rfl ?_
                exact th_vret hx hb hr hlocks hH hS ⟨hO, hF, trivial⟩ dX1_readThing_143
              · replace c_18 := (I_eq (a := z_2) (b := 256) rz_2 (show rng 256 from ⟨by decide, by decide⟩)).mp c_18
                refine lv_aload_n hx hb dX1_readThing_107 rfl (lv_at hl 1 rfl) ?_
                refine lv_iconst (v := I 1) hx hb dX1_readThing_108 (by decide) ?_
                refine lv_aload_n hx hb dX1_readThing_109 rfl (lv_at hl 0 rfl) ?_
                refine ok.getR hO h_a (by decide) k10_0 (by decide) (fun _ _ he hv kk => th_get (ci := 1) (C := RX1) (T := TX1) (N := 1) hx hb hts inX1 hown hK hH he rfl 0 (by decide) fl0 hv dX1_readThing_110 kk) ?_
                obtain ⟨_, hc_28⟩ := hO.cell hp_1 (by decide) (ci := 8) rfl
                refine th_calli (va_runV (As := []) (rest := [.int (I 1), .ref b]) ⟨hx, hb, hml, hown, hts⟩ (k_letters l G y b0 σ E hO (ad E a 0) hp_1) (cwV 0 hts gX1_readThing_X8_takeLetters rfl rfl rfl (by decide +kernel) ⟨(by first | (simp only [headSpec]; omega) | omega | (dsimp only; omega)), (by first | (simp only [headSpec]; omega) | omega | (dsimp only; omega))⟩) (th_PV hK hH rfl hc_28) rfl rfl hl.1 rfl (lv_room (Nat.le_of_ble_eq_true rfl)) dX1_readThing_113 ⟨(by first | (simp only [headSpec]; omega) | omega | (dsimp only; omega)), (by first | (simp only [headSpec]; omega) | omega | (dsimp only; omega))⟩) hS (fun z_31 σ_s_30 H locs rz_31 hw_29 hH hS => ?_)
                obtain ⟨hO9, hF9, hw_29⟩ := hw_29
                have e_32 : gI σ_s_30 b 4 = z_8 := (fr.ki hO hF9 h_b (by decide) (by decide) _).trans e_9
                replace hO := hO9
                replace hF := hF.tu hF9 (by decide)
                refine th_calli (va_runSN (As := [.int (I z_31)]) (rest := [.int (I 1), .ref b]) ⟨hx, hb, hml, hown, hts⟩ (n_first l G y b0 σ_s_30 E hO z_31 (show rng z_31 from rz_31)) ⟨(va_cnB 1 hts gX1_readThing_X10_firstLetterHighest_n58 rfl rfl rfl (ml_11 hK) fl1 (by decide +kernel) ⟨(by first | (simp only [headSpec]; omega) | omega | (dsimp only; omega)), (by first | (simp only [headSpec]; omega) | omega | (dsimp only; omega))⟩), fl2, trivial⟩ (th_PS hK hH) rfl rfl hl.1 rfl (lv_room (Nat.le_of_ble_eq_true rfl)) dX1_readThing_116 ⟨(by first | (simp only [headSpec]; omega) | omega | (dsimp only; omega)), (by first | (simp only [headSpec]; omega) | omega | (dsimp only; omega))⟩) hS (fun z_35 σ_s_34 H locs rz_35 hw_33 hH hS => ?_)
                obtain ⟨e9, hw_33⟩ := hw_33
                replace e9 := e9.symm
                subst e9
                refine lv_iload_n hx hb dX1_readThing_119 rfl (lv_at hl 3 rfl) ?_
                refine lv_iload_n hx hb dX1_readThing_120 rfl (lv_at hl 2 rfl) ?_
                obtain ⟨_, hc_36⟩ := hO.cell h_b (by decide) (ci := 9) rfl
                refine th_calli (va_runV (As := [.int (I 1), .int (I z_35), .int (I ky), .int (I dp)]) (rest := []) ⟨hx, hb, hml, hown, hts⟩ (tw1_add l G y b0 σ_s_30 E hO b h_b 1 (show rng 1 from (show rng 1 from ⟨by decide, by decide⟩)) z_35 (show rng z_35 from rz_35) ky (show rng ky from rky) dp (show rng dp from rdp) (by omega)) (cwV 4 hts gX1_readThing_X9_addThing rfl rfl rfl (by decide +kernel) ⟨(by first | (simp only [headSpec]; omega) | omega | (dsimp only; omega)), (by first | (simp only [headSpec]; omega) | omega | (dsimp only; omega))⟩) (th_PV hK hH rfl hc_36) rfl rfl hl.1 rfl (lv_room (Nat.le_of_ble_eq_true rfl)) dX1_readThing_121 ⟨(by first | (simp only [headSpec]; omega) | omega | (dsimp only; omega)), (by first | (simp only [headSpec]; omega) | omega | (dsimp only; omega))⟩) hS (fun z_39 σ_s_38 H locs rz_39 hw_37 hH hS => ?_)
                obtain ⟨hO9, hF9, hw_37⟩ := hw_37
                replace hO := hO9
                replace hF := hF.tu hF9 (by decide)
                refine lv_pop hx hb dX1_readThing_124 rfl ?_
                refine lv_goto (tgt := 143) hx hb dX1_readThing_125 (by decide) ?_
                exact th_vret hx hb hr hlocks hH hS ⟨hO, hF, trivial⟩ dX1_readThing_143
            · replace c_17 := (I_eq (a := z_2) (b := 123) rz_2 (show rng 123 from ⟨by decide, by decide⟩)).mp c_17
              refine lv_aload_n hx hb dX1_readThing_84 rfl (lv_at hl 0 rfl) ?_
              refine lv_aload_n hx hb dX1_readThing_85 rfl (lv_at hl 1 rfl) ?_
              refine lv_iload_n hx hb dX1_readThing_86 rfl (lv_at hl 2 rfl) ?_
              refine lv_iload_n hx hb dX1_readThing_87 rfl (lv_at hl 3 rfl) ?_
              obtain ⟨_, hc_40⟩ := hO.cell h_a (by decide) (ci := 1) rfl
              refine th_callv (va_runV (As := [.ref b, .int (I dp), .int (I ky)]) (rest := []) ⟨hx, hb, hml, hown, hts⟩ (r_readMap n ih l G y b0 σ E hO a h_a b h_b dp (show rng dp from rdp) (by omega) (by omega) ky (show rng ky from rky) (by omega)) (cwV 3 hts gX1_readThing_X1_readMap rfl rfl rfl (by decide +kernel) ⟨(by first | (simp only [headSpec]; omega) | omega | (dsimp only; omega)), (by first | (simp only [headSpec]; omega) | omega | (dsimp only; omega))⟩) (th_PV hK hH rfl hc_40) rfl rfl hl.1 rfl (lv_room (Nat.le_of_ble_eq_true rfl)) dX1_readThing_88 ⟨(by first | (simp only [headSpec]; omega) | omega | (dsimp only; omega)), (by first | (simp only [headSpec]; omega) | omega | (dsimp only; omega))⟩) hS (fun σ_s_42 H locs hw_41 hH hS => ?_)
              obtain ⟨hO9, hF9, hw_41⟩ := hw_41
              replace hO := hO9
              replace hF := hF.tu hF9 (by decide)
              refine lv_goto (tgt := 143) hx hb dX1_readThing_91 (by decide) ?_
              exact th_vret hx hb hr hlocks hH hS ⟨hO, hF, trivial⟩ dX1_readThing_143
          · replace c_16 := (I_eq (a := z_2) (b := 91) rz_2 (show rng 91 from ⟨by decide, by decide⟩)).mp c_16
            refine lv_aload_n hx hb dX1_readThing_62 rfl (lv_at hl 0 rfl) ?_
            refine lv_aload_n hx hb dX1_readThing_63 rfl (lv_at hl 1 rfl) ?_
            refine lv_iload_n hx hb dX1_readThing_64 rfl (lv_at hl 2 rfl) ?_
            refine lv_iload_n hx hb dX1_readThing_65 rfl (lv_at hl 3 rfl) ?_
            obtain ⟨_, hc_43⟩ := hO.cell h_a (by decide) (ci := 1) rfl
            refine th_callv (va_runV (As := [.ref b, .int (I dp), .int (I ky)]) (rest := []) ⟨hx, hb, hml, hown, hts⟩ (r_readList n ih l G y b0 σ E hO a h_a b h_b dp (show rng dp from rdp) (by omega) (by omega) ky (show rng ky from rky) (by omega)) (cwV 3 hts gX1_readThing_X1_readList rfl rfl rfl (by decide +kernel) ⟨(by first | (simp only [headSpec]; omega) | omega | (dsimp only; omega)), (by first | (simp only [headSpec]; omega) | omega | (dsimp only; omega))⟩) (th_PV hK hH rfl hc_43) rfl rfl hl.1 rfl (lv_room (Nat.le_of_ble_eq_true rfl)) dX1_readThing_66 ⟨(by first | (simp only [headSpec]; omega) | omega | (dsimp only; omega)), (by first | (simp only [headSpec]; omega) | omega | (dsimp only; omega))⟩) hS (fun σ_s_45 H locs hw_44 hH hS => ?_)
            obtain ⟨hO9, hF9, hw_44⟩ := hw_44
            replace hO := hO9
            replace hF := hF.tu hF9 (by decide)
            refine lv_goto (tgt := 143) hx hb dX1_readThing_69 (by decide) ?_
            exact th_vret hx hb hr hlocks hH hS ⟨hO, hF, trivial⟩ dX1_readThing_143
        · replace c_15 := mt (I_le (a := dp) (b := 7) rdp (show rng 7 from ⟨by decide, by decide⟩)).mpr c_15
          refine lv_aload_n hx hb dX1_readThing_39 rfl (lv_at hl 0 rfl) ?_
          refine ok.getR hO h_a (by decide) k10_0 (by decide) (fun _ _ he hv kk => th_get (ci := 1) (C := RX1) (T := TX1) (N := 1) hx hb hts inX1 hown hK hH he rfl 0 (by decide) fl0 hv dX1_readThing_40 kk) ?_
          refine lv_iconst (v := I 2) hx hb dX1_readThing_43 (by decide) ?_
          obtain ⟨_, hc_46⟩ := hO.cell hp_1 (by decide) (ci := 8) rfl
          refine th_callv (va_runV (As := [.int (I 2)]) (rest := []) ⟨hx, hb, hml, hown, hts⟩ (k_fail l G y b0 σ E hO (ad E a 0) hp_1 2 (show rng 2 from (show rng 2 from ⟨by decide, by decide⟩))) (cwV 1 hts gX1_readThing_X8_fail rfl rfl rfl (by decide +kernel) ⟨(by first | (simp only [headSpec]; omega) | omega | (dsimp only; omega)), (by first | (simp only [headSpec]; omega) | omega | (dsimp only; omega))⟩) (th_PV hK hH rfl hc_46) rfl rfl hl.1 rfl (lv_room (Nat.le_of_ble_eq_true rfl)) dX1_readThing_44 ⟨(by first | (simp only [headSpec]; omega) | omega | (dsimp only; omega)), (by first | (simp only [headSpec]; omega) | omega | (dsimp only; omega))⟩) hS (fun σ_s_48 H locs hw_47 hH hS => ?_)
          obtain ⟨hO9, hF9, hw_47⟩ := hw_47
          have e_49 : gI σ_s_48 b 4 = z_8 := (fr.ki hO hF9 h_b (by decide) (by decide) _).trans e_9
          replace hO := hO9
          replace hF := hF.tu hF9 (by decide)
          refine lv_goto (tgt := 143) hx hb dX1_readThing_47 (by decide) ?_
          exact th_vret hx hb hr hlocks hH hS ⟨hO, hF, trivial⟩ dX1_readThing_143
    · replace c_7 := (I_eq (a := z_6) (b := 0) rz_6 (show rng 0 from ⟨by decide, by decide⟩)).mp c_7
      refine lv_aload_n hx hb dX1_readThing_13 rfl (lv_at hl 0 rfl) ?_
      refine ok.getR hO h_a (by decide) k10_0 (by decide) (fun _ _ he hv kk => th_get (ci := 1) (C := RX1) (T := TX1) (N := 1) hx hb hts inX1 hown hK hH he rfl 0 (by decide) fl0 hv dX1_readThing_14 kk) ?_
      refine lv_iconst (v := I 1) hx hb dX1_readThing_17 (by decide) ?_
      obtain ⟨_, hc_50⟩ := hO.cell hp_1 (by decide) (ci := 8) rfl
      refine th_callv (va_runV (As := [.int (I 1)]) (rest := []) ⟨hx, hb, hml, hown, hts⟩ (k_fail l G y b0 σ E hO (ad E a 0) hp_1 1 (show rng 1 from (show rng 1 from ⟨by decide, by decide⟩))) (cwV 1 hts gX1_readThing_X8_fail rfl rfl rfl (by decide +kernel) ⟨(by first | (simp only [headSpec]; omega) | omega | (dsimp only; omega)), (by first | (simp only [headSpec]; omega) | omega | (dsimp only; omega))⟩) (th_PV hK hH rfl hc_50) rfl rfl hl.1 rfl (lv_room (Nat.le_of_ble_eq_true rfl)) dX1_readThing_18 ⟨(by first | (simp only [headSpec]; omega) | omega | (dsimp only; omega)), (by first | (simp only [headSpec]; omega) | omega | (dsimp only; omega))⟩) hS (fun σ_s_52 H locs hw_51 hH hS => ?_)
      obtain ⟨hO9, hF9, hw_51⟩ := hw_51
      replace hO := hO9
      replace hF := hF.tu hF9 (by decide)
      refine lv_goto (tgt := 143) hx hb dX1_readThing_21 (by decide) ?_
      exact th_vret hx hb hr hlocks hH hS ⟨hO, hF, trivial⟩ dX1_readThing_143

set_option maxHeartbeats 1000000 in
set_option maxRecDepth 100000 in
theorem r_read (l : Launch) (G : va_G) (y : Nat → ClassId) (b0 : Nat) (σ : th_M) (E : th_E) (hO : ok y E σ) (a : Nat) (h_a : kd E a = 10) (q : Nat) (h_q : kd E q = 12) (n : Int) (rn : rng n) (b : Nat) (h_b : kd E b = 1) : Met l yX1_read wsX1_read ({ frames := 45, cells := 0, slots := 0, locals := 1707 }) (th_P G y b0 σ [.ref a, .ref (ad E q 0), .int (I n), .ref b]) (th_Qi G b0 (fun r σ1 => ok y E σ1 ∧ fr [3, 1] E σ σ1 ∧ (True))) 0 0 (th_A b0) := by
  refine Met.ofW (cc := cX1_read) (maxL := 4) (ret := (some .int)) (by decide) rfl ?_
  intro p e s m args below meth c s₁ B hml hv
  obtain ⟨rfl, hH, hK⟩ := hv
  have hx := B.exec
  have hb := B.bytes
  have hr := B.returns
  have hts := atoms_spec (ws := wsX1_read) B.pre
  have hown : s.vm.findClass RX1 = some m.cls := findClass_of_methodNamed B.named
  have hlocks := B.notSynchronized
  have h00 : b0 ≤ s.heap.size := hH.1
  have hS : va_S (th_A b0) s.heap s.heap [] := va_S.rf
  have hF : fr [3, 1] E σ σ := fr.rf
  have inX1 : ∀ w ∈ wsX10, w ∈ wsX1_read := by decide +kernel
  have inX8 : ∀ w ∈ wsX80, w ∈ wsX1_read := by decide +kernel
  have fl0 := hts (.fieldLink RX1 9 "NestQuery$DataReader" "tokens" "LNestQuery$Tokens;") (by decide +kernel)
  have hl := lv_entry ([.ref a, .ref (ad E q 0), .int (I n), .ref b]) (n := 4) (Nat.le_of_ble_eq_true rfl)
  rw [lg_entry_eq]
  generalize (lg_sl ([.ref a, .ref (ad E q 0), .int (I n), .ref b]) ++ List.replicate (4 - (lg_sl ([.ref a, .ref (ad E q 0), .int (I n), .ref b])).length) Slot.unset).toArray = ls at hl ⊢
  have hl : lv_has ls 4 [(0, .ref a), (1, .ref (ad E q 0)), (2, .int (I n)), (3, .ref b)] := hl
  refine lv_aload_n hx hb dX1_read_0 rfl (lv_at hl 0 rfl) ?_
  have hp_1 : kd E (ad E a 0) = 3 := ok.pk hO h_a (by decide) k10_0 rfl
  refine ok.getR hO h_a (by decide) k10_0 (by decide) (fun _ _ he hv kk => th_get (ci := 1) (C := RX1) (T := TX1) (N := 1) hx hb hts inX1 hown hK hH he rfl 0 (by decide) fl0 hv dX1_read_1 kk) ?_
  refine lv_aload_n hx hb dX1_read_4 rfl (lv_at hl 1 rfl) ?_
  refine lv_iload_n hx hb dX1_read_5 rfl (lv_at hl 2 rfl) ?_
  obtain ⟨_, hc_2⟩ := hO.cell hp_1 (by decide) (ci := 8) rfl
  refine th_callv (va_runV (As := [.ref (ad E q 0), .int (I n)]) (rest := []) ⟨hx, hb, hml, hown, hts⟩ (k_begin l G y b0 σ E hO (ad E a 0) hp_1 q h_q n (show rng n from rn)) (cwV 2 hts gX1_read_X8_begin rfl rfl rfl (by decide +kernel) ⟨Nat.le_of_ble_eq_true rfl, Nat.le_of_ble_eq_true rfl⟩) (th_PV hK hH rfl hc_2) rfl rfl hl.1 rfl (lv_room (Nat.le_of_ble_eq_true rfl)) dX1_read_6 ⟨Nat.le_of_ble_eq_true rfl, Nat.le_of_ble_eq_true rfl⟩) hS (fun σ_s_4 H locs hw_3 hH hS => ?_)
  obtain ⟨hO9, hF9, hw_3⟩ := hw_3
  replace hO := hO9
  replace hF := hF.tu hF9 (by decide)
  refine lv_aload_n hx hb dX1_read_9 rfl (lv_at hl 3 rfl) ?_
  obtain ⟨_, hc_5⟩ := hO.cell h_b (by decide) (ci := 9) rfl
  refine th_callv (va_runV (As := []) (rest := []) ⟨hx, hb, hml, hown, hts⟩ (tw1_clear l G y b0 σ_s_4 E hO b h_b) (cwV 0 hts gX1_read_X9_clear rfl rfl rfl (by decide +kernel) ⟨Nat.le_of_ble_eq_true rfl, Nat.le_of_ble_eq_true rfl⟩) (th_PV hK hH rfl hc_5) rfl rfl hl.1 rfl (lv_room (Nat.le_of_ble_eq_true rfl)) dX1_read_10 ⟨Nat.le_of_ble_eq_true rfl, Nat.le_of_ble_eq_true rfl⟩) hS (fun σ_s_7 H locs hw_6 hH hS => ?_)
  obtain ⟨hO9, hF9, hw_6⟩ := hw_6
  replace hO := hO9
  replace hF := hF.tu hF9 (by decide)
  have hw_6 : gI σ_s_7 b 4 = 0 := hw_6
  refine lv_aload_n hx hb dX1_read_13 rfl (lv_at hl 0 rfl) ?_
  refine lv_aload_n hx hb dX1_read_14 rfl (lv_at hl 3 rfl) ?_
  refine lv_iconst (v := I 0) hx hb dX1_read_15 (by decide) ?_
  refine lv_iconst (v := I 0) hx hb dX1_read_16 (by decide) ?_
  obtain ⟨_, hc_8⟩ := hO.cell h_a (by decide) (ci := 1) rfl
  refine th_callv (va_runV (As := [.ref b, .int (I 0), .int (I 0)]) (rest := []) ⟨hx, hb, hml, hown, hts⟩ (r_readThing 9 l G y b0 σ_s_7 E hO a h_a b h_b 0 (show rng 0 from (show rng 0 from ⟨by decide, by decide⟩)) (by omega) (by omega) 0 (show rng 0 from (show rng 0 from ⟨by decide, by decide⟩)) (by omega)) (cwV 3 hts gX1_read_X1_readThing rfl rfl rfl (by decide +kernel) ⟨Nat.le_of_ble_eq_true rfl, Nat.le_of_ble_eq_true rfl⟩) (th_PV hK hH rfl hc_8) rfl rfl hl.1 rfl (lv_room (Nat.le_of_ble_eq_true rfl)) dX1_read_17 ⟨Nat.le_of_ble_eq_true rfl, Nat.le_of_ble_eq_true rfl⟩) hS (fun σ_s_10 H locs hw_9 hH hS => ?_)
  obtain ⟨hO9, hF9, hw_9⟩ := hw_9
  replace hO := hO9
  replace hF := hF.tu hF9 (by decide)
  refine lv_aload_n hx hb dX1_read_20 rfl (lv_at hl 0 rfl) ?_
  refine ok.getR hO h_a (by decide) k10_0 (by decide) (fun _ _ he hv kk => th_get (ci := 1) (C := RX1) (T := TX1) (N := 1) hx hb hts inX1 hown hK hH he rfl 0 (by decide) fl0 hv dX1_read_21 kk) ?_
  refine ok.getI hO hp_1 (by decide) k3_6 (fun _ _ he hv kk => th_getN (ci := 8) (C := RX8) (T := TX8) (N := 9) hx hb hts inX8 hown hK hH he rfl 6 (by decide) (nl_4 hK) hv dX1_read_24 kk) (fun z_11 e_12 rz_11 lz_11 uz_11 => ?_)
  refine lv_sipush (v := I 259) hx hb dX1_read_27 (by decide) ?_
  refine lv_icmp_eq (tgt := 41) hx hb dX1_read_30 (by decide) (fun c_13 => ?_) (fun c_13 => ?_)
  · replace c_13 := (I_eq (a := z_11) (b := 259) rz_11 (show rng 259 from ⟨by decide, by decide⟩)).mp c_13
    refine lv_aload_n hx hb dX1_read_41 rfl (lv_at hl 0 rfl) ?_
    refine ok.getR hO h_a (by decide) k10_0 (by decide) (fun _ _ he hv kk => th_get (ci := 1) (C := RX1) (T := TX1) (N := 1) hx hb hts inX1 hown hK hH he rfl 0 (by decide) fl0 hv dX1_read_42 kk) ?_
    refine ok.getI hO hp_1 (by decide) k3_7 (fun _ _ he hv kk => th_getN (ci := 8) (C := RX8) (T := TX8) (N := 9) hx hb hts inX8 hown hK hH he rfl 7 (by decide) (nl_7 hK) hv dX1_read_45 kk) (fun z_14 e_15 rz_14 lz_14 uz_14 => ?_)
    exact th_iret hx hb hr hlocks hH hS (z := z_14) rz_14 ⟨hO, hF, trivial⟩ dX1_read_48
  · replace c_13 := mt (I_eq (a := z_11) (b := 259) rz_11 (show rng 259 from ⟨by decide, by decide⟩)).mpr c_13
    refine lv_aload_n hx hb dX1_read_33 rfl (lv_at hl 0 rfl) ?_
    refine ok.getR hO h_a (by decide) k10_0 (by decide) (fun _ _ he hv kk => th_get (ci := 1) (C := RX1) (T := TX1) (N := 1) hx hb hts inX1 hown hK hH he rfl 0 (by decide) fl0 hv dX1_read_34 kk) ?_
    refine lv_iconst (v := I 1) hx hb dX1_read_37 (by decide) ?_
    obtain ⟨_, hc_16⟩ := hO.cell hp_1 (by decide) (ci := 8) rfl
    refine th_callv (va_runV (As := [.int (I 1)]) (rest := []) ⟨hx, hb, hml, hown, hts⟩ (k_fail l G y b0 σ_s_10 E hO (ad E a 0) hp_1 1 (show rng 1 from (show rng 1 from ⟨by decide, by decide⟩))) (cwV 1 hts gX1_read_X8_fail rfl rfl rfl (by decide +kernel) ⟨Nat.le_of_ble_eq_true rfl, Nat.le_of_ble_eq_true rfl⟩) (th_PV hK hH rfl hc_16) rfl rfl hl.1 rfl (lv_room (Nat.le_of_ble_eq_true rfl)) dX1_read_38 ⟨Nat.le_of_ble_eq_true rfl, Nat.le_of_ble_eq_true rfl⟩) hS (fun σ_s_18 H locs hw_17 hH hS => ?_)
    obtain ⟨hO9, hF9, hw_17⟩ := hw_17
    replace hO := hO9
    replace hF := hF.tu hF9 (by decide)
    refine lv_aload_n hx hb dX1_read_41 rfl (lv_at hl 0 rfl) ?_
    refine ok.getR hO h_a (by decide) k10_0 (by decide) (fun _ _ he hv kk => th_get (ci := 1) (C := RX1) (T := TX1) (N := 1) hx hb hts inX1 hown hK hH he rfl 0 (by decide) fl0 hv dX1_read_42 kk) ?_
    refine ok.getI hO hp_1 (by decide) k3_7 (fun _ _ he hv kk => th_getN (ci := 8) (C := RX8) (T := TX8) (N := 9) hx hb hts inX8 hown hK hH he rfl 7 (by decide) (nl_7 hK) hv dX1_read_45 kk) (fun z_19 e_20 rz_19 lz_19 uz_19 => ?_)
    exact th_iret hx hb hr hlocks hH hS (z := z_19) rz_19 ⟨hO, hF, trivial⟩ dX1_read_48

set_option maxHeartbeats 1000000 in
set_option maxRecDepth 100000 in
theorem s_readName (l : Launch) (G : va_G) (y : Nat → ClassId) (b0 : Nat) (σ : th_M) (E : th_E) (hO : ok y E σ) (a : Nat) (h_a : kd E a = 11) (b : Nat) (h_b : kd E b = 4) : Met l yX5_readName wsX5_readName ({ frames := 2, cells := 0, slots := 0, locals := 50 }) (th_P G y b0 σ [.ref a, .ref b]) (th_Qv G b0 (fun σ1 => ok y E σ1 ∧ fr [3, 4] E σ σ1 ∧ (True))) 0 0 (th_A b0) := by
  refine Met.ofW (cc := cX5_readName) (maxL := 2) (ret := none) (by decide) rfl ?_
  intro p e s m args below meth c s₁ B hml hv
  obtain ⟨rfl, hH, hK⟩ := hv
  have hx := B.exec
  have hb := B.bytes
  have hr := B.returns
  have hts := atoms_spec (ws := wsX5_readName) B.pre
  have hown : s.vm.findClass RX5 = some m.cls := findClass_of_methodNamed B.named
  have hlocks := B.notSynchronized
  have h00 : b0 ≤ s.heap.size := hH.1
  have hS : va_S (th_A b0) s.heap s.heap [] := va_S.rf
  have hF : fr [3, 4] E σ σ := fr.rf
  have inX5 : ∀ w ∈ wsX50, w ∈ wsX5_readName := by decide +kernel
  have inX8 : ∀ w ∈ wsX80, w ∈ wsX5_readName := by decide +kernel
  have fl0 := hts (.fieldLink RX5 9 "NestQuery$PathReader" "tokens" "LNestQuery$Tokens;") (by decide +kernel)
  have hl := lv_entry ([.ref a, .ref b]) (n := 2) (Nat.le_of_ble_eq_true rfl)
  rw [lg_entry_eq]
  generalize (lg_sl ([.ref a, .ref b]) ++ List.replicate (2 - (lg_sl ([.ref a, .ref b])).length) Slot.unset).toArray = ls at hl ⊢
  have hl : lv_has ls 2 [(0, .ref a), (1, .ref b)] := hl
  refine lv_aload_n hx hb dX5_readName_0 rfl (lv_at hl 0 rfl) ?_
  have hp_1 : kd E (ad E a 0) = 3 := ok.pk hO h_a (by decide) k11_0 rfl
  refine ok.getR hO h_a (by decide) k11_0 (by decide) (fun _ _ he hv kk => th_get (ci := 5) (C := RX5) (T := TX5) (N := 1) hx hb hts inX5 hown hK hH he rfl 0 (by decide) fl0 hv dX5_readName_1 kk) ?_
  refine ok.getI hO hp_1 (by decide) k3_6 (fun _ _ he hv kk => th_getN (ci := 8) (C := RX8) (T := TX8) (N := 9) hx hb hts inX8 hown hK hH he rfl 6 (by decide) (nl_5 hK) hv dX5_readName_4 kk) (fun z_2 e_3 rz_2 lz_2 uz_2 => ?_)
  refine lv_bipush (v := I 42) hx hb dX5_readName_7 (by decide) ?_
  refine lv_icmp_ne (tgt := 29) hx hb dX5_readName_9 (by decide) (fun c_4 => ?_) (fun c_4 => ?_)
  · replace c_4 := mt (I_eq (a := z_2) (b := 42) rz_2 (show rng 42 from ⟨by decide, by decide⟩)).mpr c_4
    refine lv_aload_n hx hb dX5_readName_29 rfl (lv_at hl 1 rfl) ?_
    refine lv_iconst (v := I 0) hx hb dX5_readName_30 (by decide) ?_
    refine lv_aload_n hx hb dX5_readName_31 rfl (lv_at hl 0 rfl) ?_
    refine ok.getR hO h_a (by decide) k11_0 (by decide) (fun _ _ he hv kk => th_get (ci := 5) (C := RX5) (T := TX5) (N := 1) hx hb hts inX5 hown hK hH he rfl 0 (by decide) fl0 hv dX5_readName_32 kk) ?_
    obtain ⟨_, hc_5⟩ := hO.cell hp_1 (by decide) (ci := 8) rfl
    refine th_calli (va_runV (As := []) (rest := [.int (I 0), .ref b]) ⟨hx, hb, hml, hown, hts⟩ (k_letters l G y b0 σ E hO (ad E a 0) hp_1) (cwV 0 hts gX5_readName_X8_takeLetters rfl rfl rfl (by decide +kernel) ⟨Nat.le_of_ble_eq_true rfl, Nat.le_of_ble_eq_true rfl⟩) (th_PV hK hH rfl hc_5) rfl rfl hl.1 rfl (lv_room (Nat.le_of_ble_eq_true rfl)) dX5_readName_35 ⟨Nat.le_of_ble_eq_true rfl, Nat.le_of_ble_eq_true rfl⟩) hS (fun z_8 σ_s_7 H locs rz_8 hw_6 hH hS => ?_)
    obtain ⟨hO9, hF9, hw_6⟩ := hw_6
    replace hO := hO9
    replace hF := hF.tu hF9 (by decide)
    refine lv_iconst (v := I 0) hx hb dX5_readName_38 (by decide) ?_
    obtain ⟨_, hc_9⟩ := hO.cell h_b (by decide) (ci := 4) rfl
    refine th_callv (va_runV (As := [.int (I 0), .int (I z_8), .int (I 0)]) (rest := []) ⟨hx, hb, hml, hown, hts⟩ (p_addStep l G y b0 σ_s_7 E hO b h_b 0 (show rng 0 from (show rng 0 from ⟨by decide, by decide⟩)) z_8 (show rng z_8 from rz_8) 0 (show rng 0 from (show rng 0 from ⟨by decide, by decide⟩))) (cwV 3 hts gX5_readName_X4_addStep rfl rfl rfl (by decide +kernel) ⟨Nat.le_of_ble_eq_true rfl, Nat.le_of_ble_eq_true rfl⟩) (th_PV hK hH rfl hc_9) rfl rfl hl.1 rfl (lv_room (Nat.le_of_ble_eq_true rfl)) dX5_readName_39 ⟨Nat.le_of_ble_eq_true rfl, Nat.le_of_ble_eq_true rfl⟩) hS (fun σ_s_11 H locs hw_10 hH hS => ?_)
    obtain ⟨hO9, hF9, hw_10⟩ := hw_10
    replace hO := hO9
    replace hF := hF.tu hF9 (by decide)
    exact th_vret hx hb hr hlocks hH hS ⟨hO, hF, trivial⟩ dX5_readName_42
  · replace c_4 := (I_eq (a := z_2) (b := 42) rz_2 (show rng 42 from ⟨by decide, by decide⟩)).mp c_4
    refine lv_aload_n hx hb dX5_readName_12 rfl (lv_at hl 0 rfl) ?_
    refine ok.getR hO h_a (by decide) k11_0 (by decide) (fun _ _ he hv kk => th_get (ci := 5) (C := RX5) (T := TX5) (N := 1) hx hb hts inX5 hown hK hH he rfl 0 (by decide) fl0 hv dX5_readName_13 kk) ?_
    obtain ⟨_, hc_12⟩ := hO.cell hp_1 (by decide) (ci := 8) rfl
    refine th_callv (va_runV (As := []) (rest := []) ⟨hx, hb, hml, hown, hts⟩ (k_step l G y b0 σ E hO (ad E a 0) hp_1) (cwV 0 hts gX5_readName_X8_step rfl rfl rfl (by decide +kernel) ⟨Nat.le_of_ble_eq_true rfl, Nat.le_of_ble_eq_true rfl⟩) (th_PV hK hH rfl hc_12) rfl rfl hl.1 rfl (lv_room (Nat.le_of_ble_eq_true rfl)) dX5_readName_16 ⟨Nat.le_of_ble_eq_true rfl, Nat.le_of_ble_eq_true rfl⟩) hS (fun σ_s_14 H locs hw_13 hH hS => ?_)
    obtain ⟨hO9, hF9, hw_13⟩ := hw_13
    replace hO := hO9
    replace hF := hF.tu hF9 (by decide)
    refine lv_aload_n hx hb dX5_readName_19 rfl (lv_at hl 1 rfl) ?_
    refine lv_iconst (v := I 1) hx hb dX5_readName_20 (by decide) ?_
    refine lv_iconst (v := I 0) hx hb dX5_readName_21 (by decide) ?_
    refine lv_iconst (v := I 0) hx hb dX5_readName_22 (by decide) ?_
    obtain ⟨_, hc_15⟩ := hO.cell h_b (by decide) (ci := 4) rfl
    refine th_callv (va_runV (As := [.int (I 1), .int (I 0), .int (I 0)]) (rest := []) ⟨hx, hb, hml, hown, hts⟩ (p_addStep l G y b0 σ_s_14 E hO b h_b 1 (show rng 1 from (show rng 1 from ⟨by decide, by decide⟩)) 0 (show rng 0 from (show rng 0 from ⟨by decide, by decide⟩)) 0 (show rng 0 from (show rng 0 from ⟨by decide, by decide⟩))) (cwV 3 hts gX5_readName_X4_addStep rfl rfl rfl (by decide +kernel) ⟨Nat.le_of_ble_eq_true rfl, Nat.le_of_ble_eq_true rfl⟩) (th_PV hK hH rfl hc_15) rfl rfl hl.1 rfl (lv_room (Nat.le_of_ble_eq_true rfl)) dX5_readName_23 ⟨Nat.le_of_ble_eq_true rfl, Nat.le_of_ble_eq_true rfl⟩) hS (fun σ_s_17 H locs hw_16 hH hS => ?_)
    obtain ⟨hO9, hF9, hw_16⟩ := hw_16
    replace hO := hO9
    replace hF := hF.tu hF9 (by decide)
    refine lv_goto (tgt := 42) hx hb dX5_readName_26 (by decide) ?_
    exact th_vret hx hb hr hlocks hH hS ⟨hO, hF, trivial⟩ dX5_readName_42

set_option maxHeartbeats 1000000 in
set_option maxRecDepth 100000 in
theorem s_readPlaces (l : Launch) (G : va_G) (y : Nat → ClassId) (b0 : Nat) (σ : th_M) (E : th_E) (hO : ok y E σ) (a : Nat) (h_a : kd E a = 11) (b : Nat) (h_b : kd E b = 4) : Met l yX5_readPlaces wsX5_readPlaces ({ frames := 2, cells := 0, slots := 0, locals := 51 }) (th_P G y b0 σ [.ref a, .ref b]) (th_Qv G b0 (fun σ1 => ok y E σ1 ∧ fr [3, 4] E σ σ1 ∧ (True))) 0 0 (th_A b0) := by
  refine Met.ofW (cc := cX5_readPlaces) (maxL := 4) (ret := none) (by decide) rfl ?_
  intro p e s m args below meth c s₁ B hml hv
  obtain ⟨rfl, hH, hK⟩ := hv
  have hx := B.exec
  have hb := B.bytes
  have hr := B.returns
  have hts := atoms_spec (ws := wsX5_readPlaces) B.pre
  have hown : s.vm.findClass RX5 = some m.cls := findClass_of_methodNamed B.named
  have hlocks := B.notSynchronized
  have h00 : b0 ≤ s.heap.size := hH.1
  have hS : va_S (th_A b0) s.heap s.heap [] := va_S.rf
  have hF : fr [3, 4] E σ σ := fr.rf
  have inX5 : ∀ w ∈ wsX50, w ∈ wsX5_readPlaces := by decide +kernel
  have inX8 : ∀ w ∈ wsX80, w ∈ wsX5_readPlaces := by decide +kernel
  have fl0 := hts (.fieldLink RX5 9 "NestQuery$PathReader" "tokens" "LNestQuery$Tokens;") (by decide +kernel)
  have hl := lv_entry ([.ref a, .ref b]) (n := 4) (Nat.le_of_ble_eq_true rfl)
  rw [lg_entry_eq]
  generalize (lg_sl ([.ref a, .ref b]) ++ List.replicate (4 - (lg_sl ([.ref a, .ref b])).length) Slot.unset).toArray = ls at hl ⊢
  have hl : lv_has ls 4 [(0, .ref a), (1, .ref b)] := hl
  refine lv_aload_n hx hb dX5_readPlaces_0 rfl (lv_at hl 0 rfl) ?_
  have hp_1 : kd E (ad E a 0) = 3 := ok.pk hO h_a (by decide) k11_0 rfl
  refine ok.getR hO h_a (by decide) k11_0 (by decide) (fun _ _ he hv kk => th_get (ci := 5) (C := RX5) (T := TX5) (N := 1) hx hb hts inX5 hown hK hH he rfl 0 (by decide) fl0 hv dX5_readPlaces_1 kk) ?_
  refine ok.getI hO hp_1 (by decide) k3_6 (fun _ _ he hv kk => th_getN (ci := 8) (C := RX8) (T := TX8) (N := 9) hx hb hts inX8 hown hK hH he rfl 6 (by decide) (nl_5 hK) hv dX5_readPlaces_4 kk) (fun z_2 e_3 rz_2 lz_2 uz_2 => ?_)
  refine lv_bipush (v := I 58) hx hb dX5_readPlaces_7 (by decide) ?_
  refine th_join (α := Int) (J := 23) (stk := fun x9 => [.int (I x9)]) (fun x9 σ9 H9 l9 ls9 => ok y E σ9 ∧ fr [3, 4] E σ σ9 ∧ th_H G b0 σ9 H9 ∧ va_S (th_A b0) s.heap H9 l9 ∧ lv_has ls9 4 [(0, .ref a), (1, .ref b)] ∧ rng x9) ?_ (fun jK_10 => ?_)
  · intro x9 σ_K_10 H locs ls hI9
    obtain ⟨w0q9, ex9⟩ : ∃ z, z = x9 := ⟨_, rfl⟩
    subst ex9
    obtain ⟨hO, hF, hH, hS, hl, rw0q9⟩ := hI9
    have hl : lv_has ls 4 [(0, .ref a), (1, .ref b)] := hl
    have rw0q9 : rng w0q9 := rw0q9
    refine lv_istore_n (lv' := [(2, .int (I w0q9)), (0, .ref a), (1, .ref b)]) hx hb dX5_readPlaces_23 rfl hl (by decide) rfl (fun ls hl => ?_)
    refine lv_aload_n hx hb dX5_readPlaces_24 rfl (lv_at hl 1 rfl) ?_
    refine ok.getR hO h_a (by decide) k11_0 (by decide) (fun _ _ he hv kk => th_get (ci := 5) (C := RX5) (T := TX5) (N := 1) hx hb hts inX5 hown hK hH he rfl 0 (by decide) fl0 hv dX5_readPlaces_25 kk) ?_
    refine ok.getI hO hp_1 (by decide) k3_6 (fun _ _ he hv kk => th_getN (ci := 8) (C := RX8) (T := TX8) (N := 9) hx hb hts inX8 hown hK hH he rfl 6 (by decide) (nl_5 hK) hv dX5_readPlaces_28 kk) (fun z_11 e_12 rz_11 lz_11 uz_11 => ?_)
    refine lv_bipush (v := I 93) hx hb dX5_readPlaces_31 (by decide) ?_
    refine lv_icmp_ne (tgt := 53) hx hb dX5_readPlaces_33 (by decide) (fun c_13 => ?_) (fun c_13 => ?_)
    · replace c_13 := mt (I_eq (a := z_11) (b := 93) rz_11 (show rng 93 from ⟨by decide, by decide⟩)).mpr c_13
      refine lv_aload_n hx hb dX5_readPlaces_53 rfl (lv_at hl 1 rfl) ?_
      refine ok.getR hO h_a (by decide) k11_0 (by decide) (fun _ _ he hv kk => th_get (ci := 5) (C := RX5) (T := TX5) (N := 1) hx hb hts inX5 hown hK hH he rfl 0 (by decide) fl0 hv dX5_readPlaces_54 kk) ?_
      refine lv_bipush (v := I 58) hx hb dX5_readPlaces_57 (by decide) ?_
      obtain ⟨_, hc_14⟩ := hO.cell hp_1 (by decide) (ci := 8) rfl
      refine th_callv (va_runV (As := [.int (I 58)]) (rest := []) ⟨hx, hb, hml, hown, hts⟩ (k_expect l G y b0 σ_K_10 E hO (ad E a 0) hp_1 58 (show rng 58 from (show rng 58 from ⟨by decide, by decide⟩))) (cwV 1 hts gX5_readPlaces_X8_expect rfl rfl rfl (by decide +kernel) ⟨Nat.le_of_ble_eq_true rfl, Nat.le_of_ble_eq_true rfl⟩) (th_PV hK hH rfl hc_14) rfl rfl hl.1 rfl (lv_room (Nat.le_of_ble_eq_true rfl)) dX5_readPlaces_59 ⟨Nat.le_of_ble_eq_true rfl, Nat.le_of_ble_eq_true rfl⟩) hS (fun σ_s_16 H locs hw_15 hH hS => ?_)
      obtain ⟨hO9, hF9, hw_15⟩ := hw_15
      replace hO := hO9
      replace hF := hF.tu hF9 (by decide)
      refine lv_aload_n hx hb dX5_readPlaces_62 rfl (lv_at hl 1 rfl) ?_
      refine ok.getR hO h_a (by decide) k11_0 (by decide) (fun _ _ he hv kk => th_get (ci := 5) (C := RX5) (T := TX5) (N := 1) hx hb hts inX5 hown hK hH he rfl 0 (by decide) fl0 hv dX5_readPlaces_63 kk) ?_
      refine ok.getI hO hp_1 (by decide) k3_6 (fun _ _ he hv kk => th_getN (ci := 8) (C := RX8) (T := TX8) (N := 9) hx hb hts inX8 hown hK hH he rfl 6 (by decide) (nl_5 hK) hv dX5_readPlaces_66 kk) (fun z_17 e_18 rz_17 lz_17 uz_17 => ?_)
      refine lv_bipush (v := I 93) hx hb dX5_readPlaces_69 (by decide) ?_
      refine lv_icmp_ne (tgt := 80) hx hb dX5_readPlaces_71 (by decide) (fun c_19 => ?_) (fun c_19 => ?_)
      · replace c_19 := mt (I_eq (a := z_17) (b := 93) rz_17 (show rng 93 from ⟨by decide, by decide⟩)).mpr c_19
        refine lv_aload_n hx hb dX5_readPlaces_80 rfl (lv_at hl 1 rfl) ?_
        refine ok.getR hO h_a (by decide) k11_0 (by decide) (fun _ _ he hv kk => th_get (ci := 5) (C := RX5) (T := TX5) (N := 1) hx hb hts inX5 hown hK hH he rfl 0 (by decide) fl0 hv dX5_readPlaces_81 kk) ?_
        obtain ⟨_, hc_20⟩ := hO.cell hp_1 (by decide) (ci := 8) rfl
        refine th_calli (va_runV (As := []) (rest := []) ⟨hx, hb, hml, hown, hts⟩ (k_number l G y b0 σ_s_16 E hO (ad E a 0) hp_1) (cwV 0 hts gX5_readPlaces_X8_takeNumber rfl rfl rfl (by decide +kernel) ⟨Nat.le_of_ble_eq_true rfl, Nat.le_of_ble_eq_true rfl⟩) (th_PV hK hH rfl hc_20) rfl rfl hl.1 rfl (lv_room (Nat.le_of_ble_eq_true rfl)) dX5_readPlaces_84 ⟨Nat.le_of_ble_eq_true rfl, Nat.le_of_ble_eq_true rfl⟩) hS (fun z_23 σ_s_22 H locs rz_23 hw_21 hH hS => ?_)
        obtain ⟨hO9, hF9, hw_21⟩ := hw_21
        replace hO := hO9
        replace hF := hF.tu hF9 (by decide)
        refine lv_istore_n (lv' := [(3, .int (I z_23)), (2, .int (I w0q9)), (0, .ref a), (1, .ref b)]) hx hb dX5_readPlaces_87 rfl hl (by decide) rfl (fun ls hl => ?_)
        refine lv_aload_n hx hb dX5_readPlaces_88 rfl (lv_at hl 2 rfl) ?_
        refine ok.getR hO h_a (by decide) k11_0 (by decide) (fun _ _ he hv kk => th_get (ci := 5) (C := RX5) (T := TX5) (N := 1) hx hb hts inX5 hown hK hH he rfl 0 (by decide) fl0 hv dX5_readPlaces_89 kk) ?_
        refine lv_bipush (v := I 93) hx hb dX5_readPlaces_92 (by decide) ?_
        obtain ⟨_, hc_24⟩ := hO.cell hp_1 (by decide) (ci := 8) rfl
        refine th_callv (va_runV (As := [.int (I 93)]) (rest := []) ⟨hx, hb, hml, hown, hts⟩ (k_expect l G y b0 σ_s_22 E hO (ad E a 0) hp_1 93 (show rng 93 from (show rng 93 from ⟨by decide, by decide⟩))) (cwV 1 hts gX5_readPlaces_X8_expect rfl rfl rfl (by decide +kernel) ⟨Nat.le_of_ble_eq_true rfl, Nat.le_of_ble_eq_true rfl⟩) (th_PV hK hH rfl hc_24) rfl rfl hl.1 rfl (lv_room (Nat.le_of_ble_eq_true rfl)) dX5_readPlaces_94 ⟨Nat.le_of_ble_eq_true rfl, Nat.le_of_ble_eq_true rfl⟩) hS (fun σ_s_26 H locs hw_25 hH hS => ?_)
        obtain ⟨hO9, hF9, hw_25⟩ := hw_25
        replace hO := hO9
        replace hF := hF.tu hF9 (by decide)
        refine lv_aload_n hx hb dX5_readPlaces_97 rfl (lv_at hl 3 rfl) ?_
        refine lv_iconst (v := I 4) hx hb dX5_readPlaces_98 (by decide) ?_
        refine lv_iload_n hx hb dX5_readPlaces_99 rfl (lv_at hl 1 rfl) ?_
        refine lv_iload_n hx hb dX5_readPlaces_100 rfl (lv_at hl 0 rfl) ?_
        obtain ⟨_, hc_27⟩ := hO.cell h_b (by decide) (ci := 4) rfl
        refine th_callv (va_runV (As := [.int (I 4), .int (I w0q9), .int (I z_23)]) (rest := []) ⟨hx, hb, hml, hown, hts⟩ (p_addStep l G y b0 σ_s_26 E hO b h_b 4 (show rng 4 from (show rng 4 from ⟨by decide, by decide⟩)) w0q9 (show rng w0q9 from rw0q9) z_23 (show rng z_23 from rz_23)) (cwV 3 hts gX5_readPlaces_X4_addStep rfl rfl rfl (by decide +kernel) ⟨Nat.le_of_ble_eq_true rfl, Nat.le_of_ble_eq_true rfl⟩) (th_PV hK hH rfl hc_27) rfl rfl hl.1 rfl (lv_room (Nat.le_of_ble_eq_true rfl)) dX5_readPlaces_101 ⟨Nat.le_of_ble_eq_true rfl, Nat.le_of_ble_eq_true rfl⟩) hS (fun σ_s_29 H locs hw_28 hH hS => ?_)
        obtain ⟨hO9, hF9, hw_28⟩ := hw_28
        replace hO := hO9
        replace hF := hF.tu hF9 (by decide)
        exact th_vret hx hb hr hlocks hH hS ⟨hO, hF, trivial⟩ dX5_readPlaces_104
      · replace c_19 := (I_eq (a := z_17) (b := 93) rz_17 (show rng 93 from ⟨by decide, by decide⟩)).mp c_19
        refine lv_sipush (v := I 1000) hx hb dX5_readPlaces_74 (by decide) ?_
        refine lv_goto (tgt := 87) hx hb dX5_readPlaces_77 (by decide) ?_
        refine lv_istore_n (lv' := [(3, .int (I 1000)), (2, .int (I w0q9)), (0, .ref a), (1, .ref b)]) hx hb dX5_readPlaces_87 rfl hl (by decide) rfl (fun ls hl => ?_)
        refine lv_aload_n hx hb dX5_readPlaces_88 rfl (lv_at hl 2 rfl) ?_
        refine ok.getR hO h_a (by decide) k11_0 (by decide) (fun _ _ he hv kk => th_get (ci := 5) (C := RX5) (T := TX5) (N := 1) hx hb hts inX5 hown hK hH he rfl 0 (by decide) fl0 hv dX5_readPlaces_89 kk) ?_
        refine lv_bipush (v := I 93) hx hb dX5_readPlaces_92 (by decide) ?_
        obtain ⟨_, hc_30⟩ := hO.cell hp_1 (by decide) (ci := 8) rfl
        refine th_callv (va_runV (As := [.int (I 93)]) (rest := []) ⟨hx, hb, hml, hown, hts⟩ (k_expect l G y b0 σ_s_16 E hO (ad E a 0) hp_1 93 (show rng 93 from (show rng 93 from ⟨by decide, by decide⟩))) (cwV 1 hts gX5_readPlaces_X8_expect rfl rfl rfl (by decide +kernel) ⟨Nat.le_of_ble_eq_true rfl, Nat.le_of_ble_eq_true rfl⟩) (th_PV hK hH rfl hc_30) rfl rfl hl.1 rfl (lv_room (Nat.le_of_ble_eq_true rfl)) dX5_readPlaces_94 ⟨Nat.le_of_ble_eq_true rfl, Nat.le_of_ble_eq_true rfl⟩) hS (fun σ_s_32 H locs hw_31 hH hS => ?_)
        obtain ⟨hO9, hF9, hw_31⟩ := hw_31
        replace hO := hO9
        replace hF := hF.tu hF9 (by decide)
        refine lv_aload_n hx hb dX5_readPlaces_97 rfl (lv_at hl 3 rfl) ?_
        refine lv_iconst (v := I 4) hx hb dX5_readPlaces_98 (by decide) ?_
        refine lv_iload_n hx hb dX5_readPlaces_99 rfl (lv_at hl 1 rfl) ?_
        refine lv_iload_n hx hb dX5_readPlaces_100 rfl (lv_at hl 0 rfl) ?_
        obtain ⟨_, hc_33⟩ := hO.cell h_b (by decide) (ci := 4) rfl
        refine th_callv (va_runV (As := [.int (I 4), .int (I w0q9), .int (I 1000)]) (rest := []) ⟨hx, hb, hml, hown, hts⟩ (p_addStep l G y b0 σ_s_32 E hO b h_b 4 (show rng 4 from (show rng 4 from ⟨by decide, by decide⟩)) w0q9 (show rng w0q9 from rw0q9) 1000 (show rng 1000 from (show rng 1000 from ⟨by decide, by decide⟩))) (cwV 3 hts gX5_readPlaces_X4_addStep rfl rfl rfl (by decide +kernel) ⟨Nat.le_of_ble_eq_true rfl, Nat.le_of_ble_eq_true rfl⟩) (th_PV hK hH rfl hc_33) rfl rfl hl.1 rfl (lv_room (Nat.le_of_ble_eq_true rfl)) dX5_readPlaces_101 ⟨Nat.le_of_ble_eq_true rfl, Nat.le_of_ble_eq_true rfl⟩) hS (fun σ_s_35 H locs hw_34 hH hS => ?_)
        obtain ⟨hO9, hF9, hw_34⟩ := hw_34
        replace hO := hO9
        replace hF := hF.tu hF9 (by decide)
        exact th_vret hx hb hr hlocks hH hS ⟨hO, hF, trivial⟩ dX5_readPlaces_104
    · replace c_13 := (I_eq (a := z_11) (b := 93) rz_11 (show rng 93 from ⟨by decide, by decide⟩)).mp c_13
      refine lv_aload_n hx hb dX5_readPlaces_36 rfl (lv_at hl 1 rfl) ?_
      refine ok.getR hO h_a (by decide) k11_0 (by decide) (fun _ _ he hv kk => th_get (ci := 5) (C := RX5) (T := TX5) (N := 1) hx hb hts inX5 hown hK hH he rfl 0 (by decide) fl0 hv dX5_readPlaces_37 kk) ?_
      obtain ⟨_, hc_36⟩ := hO.cell hp_1 (by decide) (ci := 8) rfl
      refine th_callv (va_runV (As := []) (rest := []) ⟨hx, hb, hml, hown, hts⟩ (k_step l G y b0 σ_K_10 E hO (ad E a 0) hp_1) (cwV 0 hts gX5_readPlaces_X8_step rfl rfl rfl (by decide +kernel) ⟨Nat.le_of_ble_eq_true rfl, Nat.le_of_ble_eq_true rfl⟩) (th_PV hK hH rfl hc_36) rfl rfl hl.1 rfl (lv_room (Nat.le_of_ble_eq_true rfl)) dX5_readPlaces_40 ⟨Nat.le_of_ble_eq_true rfl, Nat.le_of_ble_eq_true rfl⟩) hS (fun σ_s_38 H locs hw_37 hH hS => ?_)
      obtain ⟨hO9, hF9, hw_37⟩ := hw_37
      replace hO := hO9
      replace hF := hF.tu hF9 (by decide)
      refine lv_aload_n hx hb dX5_readPlaces_43 rfl (lv_at hl 2 rfl) ?_
      refine lv_iconst (v := I 3) hx hb dX5_readPlaces_44 (by decide) ?_
      refine lv_iload_n hx hb dX5_readPlaces_45 rfl (lv_at hl 0 rfl) ?_
      refine lv_iconst (v := I 0) hx hb dX5_readPlaces_46 (by decide) ?_
      obtain ⟨_, hc_39⟩ := hO.cell h_b (by decide) (ci := 4) rfl
      refine th_callv (va_runV (As := [.int (I 3), .int (I w0q9), .int (I 0)]) (rest := []) ⟨hx, hb, hml, hown, hts⟩ (p_addStep l G y b0 σ_s_38 E hO b h_b 3 (show rng 3 from (show rng 3 from ⟨by decide, by decide⟩)) w0q9 (show rng w0q9 from rw0q9) 0 (show rng 0 from (show rng 0 from ⟨by decide, by decide⟩))) (cwV 3 hts gX5_readPlaces_X4_addStep rfl rfl rfl (by decide +kernel) ⟨Nat.le_of_ble_eq_true rfl, Nat.le_of_ble_eq_true rfl⟩) (th_PV hK hH rfl hc_39) rfl rfl hl.1 rfl (lv_room (Nat.le_of_ble_eq_true rfl)) dX5_readPlaces_47 ⟨Nat.le_of_ble_eq_true rfl, Nat.le_of_ble_eq_true rfl⟩) hS (fun σ_s_41 H locs hw_40 hH hS => ?_)
      obtain ⟨hO9, hF9, hw_40⟩ := hw_40
      replace hO := hO9
      replace hF := hF.tu hF9 (by decide)
      refine lv_goto (tgt := 104) hx hb dX5_readPlaces_50 (by decide) ?_
      exact th_vret hx hb hr hlocks hH hS ⟨hO, hF, trivial⟩ dX5_readPlaces_104
  · refine lv_icmp_ne (tgt := 16) hx hb dX5_readPlaces_9 (by decide) (fun c_42 => ?_) (fun c_42 => ?_)
    · replace c_42 := mt (I_eq (a := z_2) (b := 58) rz_2 (show rng 58 from ⟨by decide, by decide⟩)).mpr c_42
      refine lv_aload_n hx hb dX5_readPlaces_16 rfl (lv_at hl 0 rfl) ?_
      refine ok.getR hO h_a (by decide) k11_0 (by decide) (fun _ _ he hv kk => th_get (ci := 5) (C := RX5) (T := TX5) (N := 1) hx hb hts inX5 hown hK hH he rfl 0 (by decide) fl0 hv dX5_readPlaces_17 kk) ?_
      obtain ⟨_, hc_43⟩ := hO.cell hp_1 (by decide) (ci := 8) rfl
      refine th_calli (va_runV (As := []) (rest := []) ⟨hx, hb, hml, hown, hts⟩ (k_number l G y b0 σ E hO (ad E a 0) hp_1) (cwV 0 hts gX5_readPlaces_X8_takeNumber rfl rfl rfl (by decide +kernel) ⟨Nat.le_of_ble_eq_true rfl, Nat.le_of_ble_eq_true rfl⟩) (th_PV hK hH rfl hc_43) rfl rfl hl.1 rfl (lv_room (Nat.le_of_ble_eq_true rfl)) dX5_readPlaces_20 ⟨Nat.le_of_ble_eq_true rfl, Nat.le_of_ble_eq_true rfl⟩) hS (fun z_46 σ_s_45 H locs rz_46 hw_44 hH hS => ?_)
      obtain ⟨hO9, hF9, hw_44⟩ := hw_44
      replace hO := hO9
      replace hF := hF.tu hF9 (by decide)
      exact jK_10 (z_46) σ_s_45 _ _ _ ⟨hO, hF, hH, hS, lv_sub hl [0, 1] rfl, rz_46⟩
    · replace c_42 := (I_eq (a := z_2) (b := 58) rz_2 (show rng 58 from ⟨by decide, by decide⟩)).mp c_42
      refine lv_iconst (v := I 0) hx hb dX5_readPlaces_12 (by decide) ?_
      refine lv_goto (tgt := 23) hx hb dX5_readPlaces_13 (by decide) ?_
      exact jK_10 (0) σ _ _ _ ⟨hO, hF, hH, hS, lv_sub hl [0, 1] rfl, (show rng 0 from ⟨by decide, by decide⟩)⟩

set_option maxHeartbeats 1000000 in
set_option maxRecDepth 100000 in
theorem s_readTest (l : Launch) (G : va_G) (y : Nat → ClassId) (b0 : Nat) (σ : th_M) (E : th_E) (hO : ok y E σ) (a : Nat) (h_a : kd E a = 11) (b : Nat) (h_b : kd E b = 4) : Met l yX5_readTest wsX5_readTest ({ frames := 2, cells := 0, slots := 0, locals := 52 }) (th_P G y b0 σ [.ref a, .ref b]) (th_Qv G b0 (fun σ1 => ok y E σ1 ∧ fr [3, 4] E σ σ1 ∧ (True))) 0 0 (th_A b0) := by
  refine Met.ofW (cc := cX5_readTest) (maxL := 4) (ret := none) (by decide) rfl ?_
  intro p e s m args below meth c s₁ B hml hv
  obtain ⟨rfl, hH, hK⟩ := hv
  have hx := B.exec
  have hb := B.bytes
  have hr := B.returns
  have hts := atoms_spec (ws := wsX5_readTest) B.pre
  have hown : s.vm.findClass RX5 = some m.cls := findClass_of_methodNamed B.named
  have hlocks := B.notSynchronized
  have h00 : b0 ≤ s.heap.size := hH.1
  have hS : va_S (th_A b0) s.heap s.heap [] := va_S.rf
  have hF : fr [3, 4] E σ σ := fr.rf
  have inX5 : ∀ w ∈ wsX50, w ∈ wsX5_readTest := by decide +kernel
  have inX8 : ∀ w ∈ wsX80, w ∈ wsX5_readTest := by decide +kernel
  have fl0 := hts (.fieldLink RX5 9 "NestQuery$PathReader" "tokens" "LNestQuery$Tokens;") (by decide +kernel)
  have fl1 := hts (.initialized RX10) (by decide +kernel)
  have fl2 := hts (.static yX10_firstLetterHighest) (by decide +kernel)
  have hl := lv_entry ([.ref a, .ref b]) (n := 4) (Nat.le_of_ble_eq_true rfl)
  rw [lg_entry_eq]
  generalize (lg_sl ([.ref a, .ref b]) ++ List.replicate (4 - (lg_sl ([.ref a, .ref b])).length) Slot.unset).toArray = ls at hl ⊢
  have hl : lv_has ls 4 [(0, .ref a), (1, .ref b)] := hl
  refine lv_iconst (v := I 0) hx hb dX5_readTest_0 (by decide) ?_
  refine lv_istore_n (lv' := [(2, .int (I 0)), (0, .ref a), (1, .ref b)]) hx hb dX5_readTest_1 rfl hl (by decide) rfl (fun ls hl => ?_)
  refine th_loop (α := Int) (pc := 2) (fun x9 => (400 - x9).toNat) (fun x9 σ9 H9 l9 ls9 => ok y E σ9 ∧ fr [3, 4] E σ σ9 ∧ th_H G b0 σ9 H9 ∧ va_S (th_A b0) s.heap H9 l9 ∧ lv_has ls9 4 [(0, .ref a), (1, .ref b), (2, .int (I x9))] ∧ rng x9 ∧ (0 ≤ x9) ∧ (x9 ≤ 400)) ?_ (0) σ _ _ _ ⟨hO, hF, hH, hS, lv_sub hl [1, 2, 0] rfl, (show rng 0 from ⟨by decide, by decide⟩), by first | omega | (dsimp only; omega), by first | omega | (dsimp only; omega)⟩
  intro x9 σ_J_81 H locs ls hI9 ihJ_81
  obtain ⟨v2q80, ex9⟩ : ∃ z, z = x9 := ⟨_, rfl⟩
  subst ex9
  obtain ⟨hO, hF, hH, hS, hl, rv2q80, J_81_0, J_81_1⟩ := hI9
  have hl : lv_has ls 4 [(0, .ref a), (1, .ref b), (2, .int (I v2q80))] := hl
  have rv2q80 : rng v2q80 := rv2q80
  have J_81_0 : 0 ≤ v2q80 := J_81_0
  have J_81_1 : v2q80 ≤ 400 := J_81_1
  refine lv_aload_n hx hb dX5_readTest_2 rfl (lv_at hl 0 rfl) ?_
  have hp_82 : kd E (ad E a 0) = 3 := ok.pk hO h_a (by decide) k11_0 rfl
  refine ok.getR hO h_a (by decide) k11_0 (by decide) (fun _ _ he hv kk => th_get (ci := 5) (C := RX5) (T := TX5) (N := 1) hx hb hts inX5 hown hK hH he rfl 0 (by decide) fl0 hv dX5_readTest_3 kk) ?_
  refine ok.getI hO hp_82 (by decide) k3_6 (fun _ _ he hv kk => th_getN (ci := 8) (C := RX8) (T := TX8) (N := 9) hx hb hts inX8 hown hK hH he rfl 6 (by decide) (nl_5 hK) hv dX5_readTest_6 kk) (fun z_83 e_84 rz_83 lz_83 uz_83 => ?_)
  refine lv_bipush (v := I 46) hx hb dX5_readTest_9 (by decide) ?_
  refine th_join (α := Unit) (J := 26) (stk := fun x9 => []) (fun x9 σ9 H9 l9 ls9 => σ9 = σ_J_81 ∧ th_H G b0 σ9 H9 ∧ va_S (th_A b0) s.heap H9 l9 ∧ lv_has ls9 4 [(0, .ref a), (1, .ref b), (2, .int (I v2q80))]) ?_ (fun jK_129 => ?_)
  · intro x9 σ_K_129 H locs ls hI9
    obtain ⟨eK_129, hH, hS, hl⟩ := hI9
    replace eK_129 := eK_129.symm
    subst eK_129
    have hl : lv_has ls 4 [(0, .ref a), (1, .ref b), (2, .int (I v2q80))] := hl
    refine lv_iload_n hx hb dX5_readTest_26 rfl (lv_at hl 2 rfl) ?_
    refine lv_sipush (v := I 400) hx hb dX5_readTest_27 (by decide) ?_
    refine lv_icmp_ge (tgt := 104) hx hb dX5_readTest_30 (by decide) (fun c_130 => ?_) (fun c_130 => ?_)
    · replace c_130 := (I_le (a := 400) (b := v2q80) (show rng 400 from ⟨by decide, by decide⟩) rv2q80).mp c_130
      refine lv_aload_n hx hb dX5_readTest_104 rfl (lv_at hl 0 rfl) ?_
      refine ok.getR hO h_a (by decide) k11_0 (by decide) (fun _ _ he hv kk => th_get (ci := 5) (C := RX5) (T := TX5) (N := 1) hx hb hts inX5 hown hK hH he rfl 0 (by decide) fl0 hv dX5_readTest_105 kk) ?_
      refine ok.getIc hO hp_82 (by decide) k3_6 e_84 (fun _ _ he hv kk => th_getN (ci := 8) (C := RX8) (T := TX8) (N := 9) hx hb hts inX8 hown hK hH he rfl 6 (by decide) (nl_5 hK) hv dX5_readTest_108 kk) ?_
      refine lv_istore_n (lv' := [(2, .int (I z_83)), (0, .ref a), (1, .ref b)]) hx hb dX5_readTest_111 rfl hl (by decide) rfl (fun ls hl => ?_)
      refine lv_iload_n hx hb dX5_readTest_112 rfl (lv_at hl 0 rfl) ?_
      refine lv_bipush (v := I 61) hx hb dX5_readTest_113 (by decide) ?_
      refine th_join (α := Unit) (J := 138) (stk := fun x9 => []) (fun x9 σ9 H9 l9 ls9 => σ9 = σ_J_81 ∧ th_H G b0 σ9 H9 ∧ va_S (th_A b0) s.heap H9 l9 ∧ lv_has ls9 4 [(0, .ref a), (1, .ref b), (2, .int (I z_83))]) ?_ (fun jK_139 => ?_)
      · intro x9 σ_K_139 H locs ls hI9
        obtain ⟨eK_139, hH, hS, hl⟩ := hI9
        replace eK_139 := eK_139.symm
        subst eK_139
        have hl : lv_has ls 4 [(0, .ref a), (1, .ref b), (2, .int (I z_83))] := hl
        refine lv_aload_n hx hb dX5_readTest_138 rfl (lv_at hl 0 rfl) ?_
        refine ok.getR hO h_a (by decide) k11_0 (by decide) (fun _ _ he hv kk => th_get (ci := 5) (C := RX5) (T := TX5) (N := 1) hx hb hts inX5 hown hK hH he rfl 0 (by decide) fl0 hv dX5_readTest_139 kk) ?_
        obtain ⟨_, hc_140⟩ := hO.cell hp_82 (by decide) (ci := 8) rfl
        refine th_callv (va_runV (As := []) (rest := []) ⟨hx, hb, hml, hown, hts⟩ (k_step l G y b0 σ_J_81 E hO (ad E a 0) hp_82) (cwV 0 hts gX5_readTest_X8_step rfl rfl rfl (by decide +kernel) ⟨Nat.le_of_ble_eq_true rfl, Nat.le_of_ble_eq_true rfl⟩) (th_PV hK hH rfl hc_140) rfl rfl hl.1 rfl (lv_room (Nat.le_of_ble_eq_true rfl)) dX5_readTest_142 ⟨Nat.le_of_ble_eq_true rfl, Nat.le_of_ble_eq_true rfl⟩) hS (fun σ_s_142 H locs hw_141 hH hS => ?_)
        obtain ⟨hO9, hF9, hw_141⟩ := hw_141
        replace hO := hO9
        replace hF := hF.tu hF9 (by decide)
        refine lv_aload_n hx hb dX5_readTest_145 rfl (lv_at hl 0 rfl) ?_
        refine ok.getR hO h_a (by decide) k11_0 (by decide) (fun _ _ he hv kk => th_get (ci := 5) (C := RX5) (T := TX5) (N := 1) hx hb hts inX5 hown hK hH he rfl 0 (by decide) fl0 hv dX5_readTest_146 kk) ?_
        refine ok.getI hO hp_82 (by decide) k3_6 (fun _ _ he hv kk => th_getN (ci := 8) (C := RX8) (T := TX8) (N := 9) hx hb hts inX8 hown hK hH he rfl 6 (by decide) (nl_5 hK) hv dX5_readTest_149 kk) (fun z_143 e_144 rz_143 lz_143 uz_143 => ?_)
        refine lv_sipush (v := I 256) hx hb dX5_readTest_152 (by decide) ?_
        refine lv_icmp_ne (tgt := 177) hx hb dX5_readTest_155 (by decide) (fun c_145 => ?_) (fun c_145 => ?_)
        · replace c_145 := mt (I_eq (a := z_143) (b := 256) rz_143 (show rng 256 from ⟨by decide, by decide⟩)).mpr c_145
          refine lv_aload_n hx hb dX5_readTest_177 rfl (lv_at hl 1 rfl) ?_
          refine lv_iload_n hx hb dX5_readTest_178 rfl (lv_at hl 2 rfl) ?_
          refine lv_iconst (v := I 0) hx hb dX5_readTest_179 (by decide) ?_
          refine lv_aload_n hx hb dX5_readTest_180 rfl (lv_at hl 0 rfl) ?_
          refine ok.getR hO h_a (by decide) k11_0 (by decide) (fun _ _ he hv kk => th_get (ci := 5) (C := RX5) (T := TX5) (N := 1) hx hb hts inX5 hown hK hH he rfl 0 (by decide) fl0 hv dX5_readTest_181 kk) ?_
          obtain ⟨_, hc_146⟩ := hO.cell hp_82 (by decide) (ci := 8) rfl
          refine th_calli (va_runV (As := []) (rest := [.int (I 0), .int (I z_83), .ref b]) ⟨hx, hb, hml, hown, hts⟩ (k_number l G y b0 σ_s_142 E hO (ad E a 0) hp_82) (cwV 0 hts gX5_readTest_X8_takeNumber rfl rfl rfl (by decide +kernel) ⟨Nat.le_of_ble_eq_true rfl, Nat.le_of_ble_eq_true rfl⟩) (th_PV hK hH rfl hc_146) rfl rfl hl.1 rfl (lv_room (Nat.le_of_ble_eq_true rfl)) dX5_readTest_184 ⟨Nat.le_of_ble_eq_true rfl, Nat.le_of_ble_eq_true rfl⟩) hS (fun z_149 σ_s_148 H locs rz_149 hw_147 hH hS => ?_)
          obtain ⟨hO9, hF9, hw_147⟩ := hw_147
          replace hO := hO9
          replace hF := hF.tu hF9 (by decide)
          obtain ⟨_, hc_150⟩ := hO.cell h_b (by decide) (ci := 4) rfl
          refine th_callv (va_runV (As := [.int (I z_83), .int (I 0), .int (I z_149)]) (rest := []) ⟨hx, hb, hml, hown, hts⟩ (p_addTest l G y b0 σ_s_148 E hO b h_b z_83 (show rng z_83 from rz_83) 0 (show rng 0 from (show rng 0 from ⟨by decide, by decide⟩)) z_149 (show rng z_149 from rz_149)) (cwV 3 hts gX5_readTest_X4_addTest rfl rfl rfl (by decide +kernel) ⟨Nat.le_of_ble_eq_true rfl, Nat.le_of_ble_eq_true rfl⟩) (th_PV hK hH rfl hc_150) rfl rfl hl.1 rfl (lv_room (Nat.le_of_ble_eq_true rfl)) dX5_readTest_187 ⟨Nat.le_of_ble_eq_true rfl, Nat.le_of_ble_eq_true rfl⟩) hS (fun σ_s_152 H locs hw_151 hH hS => ?_)
          obtain ⟨hO9, hF9, hw_151⟩ := hw_151
          replace hO := hO9
          replace hF := hF.tu hF9 (by decide)
          exact th_vret hx hb hr hlocks hH hS ⟨hO, hF, trivial⟩ dX5_readTest_190
        · replace c_145 := (I_eq (a := z_143) (b := 256) rz_143 (show rng 256 from ⟨by decide, by decide⟩)).mp c_145
          refine lv_aload_n hx hb dX5_readTest_158 rfl (lv_at hl 1 rfl) ?_
          refine lv_iload_n hx hb dX5_readTest_159 rfl (lv_at hl 2 rfl) ?_
          refine lv_iconst (v := I 1) hx hb dX5_readTest_160 (by decide) ?_
          refine lv_aload_n hx hb dX5_readTest_161 rfl (lv_at hl 0 rfl) ?_
          refine ok.getR hO h_a (by decide) k11_0 (by decide) (fun _ _ he hv kk => th_get (ci := 5) (C := RX5) (T := TX5) (N := 1) hx hb hts inX5 hown hK hH he rfl 0 (by decide) fl0 hv dX5_readTest_162 kk) ?_
          obtain ⟨_, hc_153⟩ := hO.cell hp_82 (by decide) (ci := 8) rfl
          refine th_calli (va_runV (As := []) (rest := [.int (I 1), .int (I z_83), .ref b]) ⟨hx, hb, hml, hown, hts⟩ (k_letters l G y b0 σ_s_142 E hO (ad E a 0) hp_82) (cwV 0 hts gX5_readTest_X8_takeLetters rfl rfl rfl (by decide +kernel) ⟨Nat.le_of_ble_eq_true rfl, Nat.le_of_ble_eq_true rfl⟩) (th_PV hK hH rfl hc_153) rfl rfl hl.1 rfl (lv_room (Nat.le_of_ble_eq_true rfl)) dX5_readTest_165 ⟨Nat.le_of_ble_eq_true rfl, Nat.le_of_ble_eq_true rfl⟩) hS (fun z_156 σ_s_155 H locs rz_156 hw_154 hH hS => ?_)
          obtain ⟨hO9, hF9, hw_154⟩ := hw_154
          replace hO := hO9
          replace hF := hF.tu hF9 (by decide)
          refine th_calli (va_runSN (As := [.int (I z_156)]) (rest := [.int (I 1), .int (I z_83), .ref b]) ⟨hx, hb, hml, hown, hts⟩ (n_first l G y b0 σ_s_155 E hO z_156 (show rng z_156 from rz_156)) ⟨(va_cnB 1 hts gX5_readTest_X10_firstLetterHighest_n99 rfl rfl rfl (ml_12 hK) fl1 (by decide +kernel) ⟨Nat.le_of_ble_eq_true rfl, Nat.le_of_ble_eq_true rfl⟩), fl2, trivial⟩ (th_PS hK hH) rfl rfl hl.1 rfl (lv_room (Nat.le_of_ble_eq_true rfl)) dX5_readTest_168 ⟨Nat.le_of_ble_eq_true rfl, Nat.le_of_ble_eq_true rfl⟩) hS (fun z_159 σ_s_158 H locs rz_159 hw_157 hH hS => ?_)
          obtain ⟨e9, hw_157⟩ := hw_157
          replace e9 := e9.symm
          subst e9
          obtain ⟨_, hc_160⟩ := hO.cell h_b (by decide) (ci := 4) rfl
          refine th_callv (va_runV (As := [.int (I z_83), .int (I 1), .int (I z_159)]) (rest := []) ⟨hx, hb, hml, hown, hts⟩ (p_addTest l G y b0 σ_s_155 E hO b h_b z_83 (show rng z_83 from rz_83) 1 (show rng 1 from (show rng 1 from ⟨by decide, by decide⟩)) z_159 (show rng z_159 from rz_159)) (cwV 3 hts gX5_readTest_X4_addTest rfl rfl rfl (by decide +kernel) ⟨Nat.le_of_ble_eq_true rfl, Nat.le_of_ble_eq_true rfl⟩) (th_PV hK hH rfl hc_160) rfl rfl hl.1 rfl (lv_room (Nat.le_of_ble_eq_true rfl)) dX5_readTest_171 ⟨Nat.le_of_ble_eq_true rfl, Nat.le_of_ble_eq_true rfl⟩) hS (fun σ_s_162 H locs hw_161 hH hS => ?_)
          obtain ⟨hO9, hF9, hw_161⟩ := hw_161
          replace hO := hO9
          replace hF := hF.tu hF9 (by decide)
          refine lv_goto (tgt := 190) hx hb dX5_readTest_174 (by decide) ?_
          exact th_vret hx hb hr hlocks hH hS ⟨hO, hF, trivial⟩ dX5_readTest_190
      · refine lv_icmp_eq (tgt := 138) hx hb dX5_readTest_115 (by decide) (fun c_163 => ?_) (fun c_163 => ?_)
        · replace c_163 := (I_eq (a := z_83) (b := 61) rz_83 (show rng 61 from ⟨by decide, by decide⟩)).mp c_163
          exact jK_139 () σ_J_81 _ _ _ ⟨rfl, hH, hS, lv_sub hl [1, 2, 0] rfl⟩
        · replace c_163 := mt (I_eq (a := z_83) (b := 61) rz_83 (show rng 61 from ⟨by decide, by decide⟩)).mpr c_163
          refine lv_iload_n hx hb dX5_readTest_118 rfl (lv_at hl 0 rfl) ?_
          refine lv_bipush (v := I 60) hx hb dX5_readTest_119 (by decide) ?_
          refine lv_icmp_eq (tgt := 138) hx hb dX5_readTest_121 (by decide) (fun c_164 => ?_) (fun c_164 => ?_)
          · replace c_164 := (I_eq (a := z_83) (b := 60) rz_83 (show rng 60 from ⟨by decide, by decide⟩)).mp c_164
            exact jK_139 () σ_J_81 _ _ _ ⟨rfl, hH, hS, lv_sub hl [1, 2, 0] rfl⟩
          · replace c_164 := mt (I_eq (a := z_83) (b := 60) rz_83 (show rng 60 from ⟨by decide, by decide⟩)).mpr c_164
            refine lv_iload_n hx hb dX5_readTest_124 rfl (lv_at hl 0 rfl) ?_
            refine lv_bipush (v := I 62) hx hb dX5_readTest_125 (by decide) ?_
            refine lv_icmp_eq (tgt := 138) hx hb dX5_readTest_127 (by decide) (fun c_165 => ?_) (fun c_165 => ?_)
            · replace c_165 := (I_eq (a := z_83) (b := 62) rz_83 (show rng 62 from ⟨by decide, by decide⟩)).mp c_165
              exact jK_139 () σ_J_81 _ _ _ ⟨rfl, hH, hS, lv_sub hl [1, 2, 0] rfl⟩
            · replace c_165 := mt (I_eq (a := z_83) (b := 62) rz_83 (show rng 62 from ⟨by decide, by decide⟩)).mpr c_165
              refine lv_aload_n hx hb dX5_readTest_130 rfl (lv_at hl 2 rfl) ?_
              refine lv_iconst (v := I 0) hx hb dX5_readTest_131 (by decide) ?_
              refine lv_iconst (v := I (-1)) hx hb dX5_readTest_132 (by decide) ?_
              refine lv_iconst (v := I 0) hx hb dX5_readTest_133 (by decide) ?_
              obtain ⟨_, hc_166⟩ := hO.cell h_b (by decide) (ci := 4) rfl
              refine th_callv (va_runV (As := [.int (I 0), .int (I (-1)), .int (I 0)]) (rest := []) ⟨hx, hb, hml, hown, hts⟩ (p_addTest l G y b0 σ_J_81 E hO b h_b 0 (show rng 0 from (show rng 0 from ⟨by decide, by decide⟩)) (-1) (show rng (-1) from (show rng (-1) from ⟨by decide, by decide⟩)) 0 (show rng 0 from (show rng 0 from ⟨by decide, by decide⟩))) (cwV 3 hts gX5_readTest_X4_addTest rfl rfl rfl (by decide +kernel) ⟨Nat.le_of_ble_eq_true rfl, Nat.le_of_ble_eq_true rfl⟩) (th_PV hK hH rfl hc_166) rfl rfl hl.1 rfl (lv_room (Nat.le_of_ble_eq_true rfl)) dX5_readTest_134 ⟨Nat.le_of_ble_eq_true rfl, Nat.le_of_ble_eq_true rfl⟩) hS (fun σ_s_168 H locs hw_167 hH hS => ?_)
              obtain ⟨hO9, hF9, hw_167⟩ := hw_167
              have e_169 : gI σ_s_168 (ad E a 0) 6 = z_83 := (fr.ki hO hF9 hp_82 (by decide) (by decide) _).trans e_84
              replace hO := hO9
              replace hF := hF.tu hF9 (by decide)
              exact th_vret hx hb hr hlocks hH hS ⟨hO, hF, trivial⟩ dX5_readTest_137
    · replace c_130 := mt (I_le (a := 400) (b := v2q80) (show rng 400 from ⟨by decide, by decide⟩) rv2q80).mpr c_130
      refine lv_aload_n hx hb dX5_readTest_33 rfl (lv_at hl 0 rfl) ?_
      refine ok.getR hO h_a (by decide) k11_0 (by decide) (fun _ _ he hv kk => th_get (ci := 5) (C := RX5) (T := TX5) (N := 1) hx hb hts inX5 hown hK hH he rfl 0 (by decide) fl0 hv dX5_readTest_34 kk) ?_
      refine ok.getIc hO hp_82 (by decide) k3_6 e_84 (fun _ _ he hv kk => th_getN (ci := 8) (C := RX8) (T := TX8) (N := 9) hx hb hts inX8 hown hK hH he rfl 6 (by decide) (nl_5 hK) hv dX5_readTest_37 kk) ?_
      refine lv_bipush (v := I 46) hx hb dX5_readTest_40 (by decide) ?_
      refine th_join (α := Int) (J := 50) (stk := fun x9 => [.int (I x9)]) (fun x9 σ9 H9 l9 ls9 => σ9 = σ_J_81 ∧ th_H G b0 σ9 H9 ∧ va_S (th_A b0) s.heap H9 l9 ∧ lv_has ls9 4 [(0, .ref a), (1, .ref b), (2, .int (I v2q80))] ∧ rng x9 ∧ (x9 = 0 ∨ x9 = 1)) ?_ (fun jK_172 => ?_)
      · intro x9 σ_K_172 H locs ls hI9
        obtain ⟨w0q171, ex9⟩ : ∃ z, z = x9 := ⟨_, rfl⟩
        subst ex9
        obtain ⟨eK_172, hH, hS, hl, rw0q171, K_172_0⟩ := hI9
        replace eK_172 := eK_172.symm
        subst eK_172
        have hl : lv_has ls 4 [(0, .ref a), (1, .ref b), (2, .int (I v2q80))] := hl
        have rw0q171 : rng w0q171 := rw0q171
        have K_172_0 : w0q171 = 0 ∨ w0q171 = 1 := K_172_0
        refine lv_istore_n (lv' := [(3, .int (I w0q171)), (0, .ref a), (1, .ref b), (2, .int (I v2q80))]) hx hb dX5_readTest_50 rfl hl (by decide) rfl (fun ls hl => ?_)
        refine lv_aload_n hx hb dX5_readTest_51 rfl (lv_at hl 1 rfl) ?_
        refine ok.getR hO h_a (by decide) k11_0 (by decide) (fun _ _ he hv kk => th_get (ci := 5) (C := RX5) (T := TX5) (N := 1) hx hb hts inX5 hown hK hH he rfl 0 (by decide) fl0 hv dX5_readTest_52 kk) ?_
        obtain ⟨_, hc_173⟩ := hO.cell hp_82 (by decide) (ci := 8) rfl
        refine th_callv (va_runV (As := []) (rest := []) ⟨hx, hb, hml, hown, hts⟩ (k_step l G y b0 σ_J_81 E hO (ad E a 0) hp_82) (cwV 0 hts gX5_readTest_X8_step rfl rfl rfl (by decide +kernel) ⟨Nat.le_of_ble_eq_true rfl, Nat.le_of_ble_eq_true rfl⟩) (th_PV hK hH rfl hc_173) rfl rfl hl.1 rfl (lv_room (Nat.le_of_ble_eq_true rfl)) dX5_readTest_55 ⟨Nat.le_of_ble_eq_true rfl, Nat.le_of_ble_eq_true rfl⟩) hS (fun σ_s_175 H locs hw_174 hH hS => ?_)
        obtain ⟨hO9, hF9, hw_174⟩ := hw_174
        replace hO := hO9
        replace hF := hF.tu hF9 (by decide)
        refine lv_iload_n hx hb dX5_readTest_58 rfl (lv_at hl 0 rfl) ?_
        refine lv_if_eq (tgt := 77) hx hb dX5_readTest_59 (by decide) (fun c_176 => ?_) (fun c_176 => ?_)
        · replace c_176 := (I_eq (a := w0q171) (b := 0) rw0q171 (show rng 0 from ⟨by decide, by decide⟩)).mp c_176
          refine lv_aload_n hx hb dX5_readTest_77 rfl (lv_at hl 2 rfl) ?_
          refine lv_iconst (v := I 0) hx hb dX5_readTest_78 (by decide) ?_
          refine lv_aload_n hx hb dX5_readTest_79 rfl (lv_at hl 1 rfl) ?_
          refine ok.getR hO h_a (by decide) k11_0 (by decide) (fun _ _ he hv kk => th_get (ci := 5) (C := RX5) (T := TX5) (N := 1) hx hb hts inX5 hown hK hH he rfl 0 (by decide) fl0 hv dX5_readTest_80 kk) ?_
          obtain ⟨_, hc_177⟩ := hO.cell hp_82 (by decide) (ci := 8) rfl
          refine th_calli (va_runV (As := []) (rest := [.int (I 0), .ref b]) ⟨hx, hb, hml, hown, hts⟩ (k_number l G y b0 σ_s_175 E hO (ad E a 0) hp_82) (cwV 0 hts gX5_readTest_X8_takeNumber rfl rfl rfl (by decide +kernel) ⟨Nat.le_of_ble_eq_true rfl, Nat.le_of_ble_eq_true rfl⟩) (th_PV hK hH rfl hc_177) rfl rfl hl.1 rfl (lv_room (Nat.le_of_ble_eq_true rfl)) dX5_readTest_83 ⟨Nat.le_of_ble_eq_true rfl, Nat.le_of_ble_eq_true rfl⟩) hS (fun z_180 σ_s_179 H locs rz_180 hw_178 hH hS => ?_)
          obtain ⟨hO9, hF9, hw_178⟩ := hw_178
          replace hO := hO9
          replace hF := hF.tu hF9 (by decide)
          obtain ⟨_, hc_181⟩ := hO.cell h_b (by decide) (ci := 4) rfl
          refine th_callv (va_runV (As := [.int (I 0), .int (I z_180)]) (rest := []) ⟨hx, hb, hml, hown, hts⟩ (p_addLittle l G y b0 σ_s_179 E hO b h_b 0 (show rng 0 from (show rng 0 from ⟨by decide, by decide⟩)) (by omega) (by omega) z_180 (show rng z_180 from rz_180)) (cwV 2 hts gX5_readTest_X4_addLittle rfl rfl rfl (by decide +kernel) ⟨Nat.le_of_ble_eq_true rfl, Nat.le_of_ble_eq_true rfl⟩) (th_PV hK hH rfl hc_181) rfl rfl hl.1 rfl (lv_room (Nat.le_of_ble_eq_true rfl)) dX5_readTest_86 ⟨Nat.le_of_ble_eq_true rfl, Nat.le_of_ble_eq_true rfl⟩) hS (fun σ_s_183 H locs hw_182 hH hS => ?_)
          obtain ⟨hO9, hF9, hw_182⟩ := hw_182
          replace hO := hO9
          replace hF := hF.tu hF9 (by decide)
          refine lv_aload_n hx hb dX5_readTest_89 rfl (lv_at hl 1 rfl) ?_
          refine ok.getR hO h_a (by decide) k11_0 (by decide) (fun _ _ he hv kk => th_get (ci := 5) (C := RX5) (T := TX5) (N := 1) hx hb hts inX5 hown hK hH he rfl 0 (by decide) fl0 hv dX5_readTest_90 kk) ?_
          refine lv_bipush (v := I 93) hx hb dX5_readTest_93 (by decide) ?_
          obtain ⟨_, hc_184⟩ := hO.cell hp_82 (by decide) (ci := 8) rfl
          refine th_callv (va_runV (As := [.int (I 93)]) (rest := []) ⟨hx, hb, hml, hown, hts⟩ (k_expect l G y b0 σ_s_183 E hO (ad E a 0) hp_82 93 (show rng 93 from (show rng 93 from ⟨by decide, by decide⟩))) (cwV 1 hts gX5_readTest_X8_expect rfl rfl rfl (by decide +kernel) ⟨Nat.le_of_ble_eq_true rfl, Nat.le_of_ble_eq_true rfl⟩) (th_PV hK hH rfl hc_184) rfl rfl hl.1 rfl (lv_room (Nat.le_of_ble_eq_true rfl)) dX5_readTest_95 ⟨Nat.le_of_ble_eq_true rfl, Nat.le_of_ble_eq_true rfl⟩) hS (fun σ_s_186 H locs hw_185 hH hS => ?_)
          obtain ⟨hO9, hF9, hw_185⟩ := hw_185
          replace hO := hO9
          replace hF := hF.tu hF9 (by decide)
          refine lv_iinc (v := I (v2q80 + 1)) (lv' := [(2, .int (I (v2q80 + 1))), (3, .int (I w0q171)), (0, .ref a), (1, .ref b)]) hx hb dX5_readTest_98 hl (k := 3) rfl (I_add _ _) (by decide) rfl (fun ls hl => ?_)
          refine lv_goto (tgt := 2) hx hb dX5_readTest_101 (by decide) ?_
          replace hl : lv_has ls 4 [(2, .int (I (v2q80 + 1))), (0, .ref a), (1, .ref b)] := lv_sub hl [0, 2, 3] rfl
          exact ihJ_81 (v2q80 + 1) σ_s_186 _ _ _ (by first | omega | (dsimp only; omega)) ⟨hO, hF, hH, hS, lv_sub hl [1, 2, 0] rfl, ⟨by first | omega | (dsimp only; omega), by first | omega | (dsimp only; omega)⟩, by first | omega | (dsimp only; omega), by first | omega | (dsimp only; omega)⟩
        · replace c_176 := mt (I_eq (a := w0q171) (b := 0) rw0q171 (show rng 0 from ⟨by decide, by decide⟩)).mpr c_176
          refine lv_aload_n hx hb dX5_readTest_62 rfl (lv_at hl 2 rfl) ?_
          refine lv_iconst (v := I 1) hx hb dX5_readTest_63 (by decide) ?_
          refine lv_aload_n hx hb dX5_readTest_64 rfl (lv_at hl 1 rfl) ?_
          refine ok.getR hO h_a (by decide) k11_0 (by decide) (fun _ _ he hv kk => th_get (ci := 5) (C := RX5) (T := TX5) (N := 1) hx hb hts inX5 hown hK hH he rfl 0 (by decide) fl0 hv dX5_readTest_65 kk) ?_
          obtain ⟨_, hc_187⟩ := hO.cell hp_82 (by decide) (ci := 8) rfl
          refine th_calli (va_runV (As := []) (rest := [.int (I 1), .ref b]) ⟨hx, hb, hml, hown, hts⟩ (k_letters l G y b0 σ_s_175 E hO (ad E a 0) hp_82) (cwV 0 hts gX5_readTest_X8_takeLetters rfl rfl rfl (by decide +kernel) ⟨Nat.le_of_ble_eq_true rfl, Nat.le_of_ble_eq_true rfl⟩) (th_PV hK hH rfl hc_187) rfl rfl hl.1 rfl (lv_room (Nat.le_of_ble_eq_true rfl)) dX5_readTest_68 ⟨Nat.le_of_ble_eq_true rfl, Nat.le_of_ble_eq_true rfl⟩) hS (fun z_190 σ_s_189 H locs rz_190 hw_188 hH hS => ?_)
          obtain ⟨hO9, hF9, hw_188⟩ := hw_188
          replace hO := hO9
          replace hF := hF.tu hF9 (by decide)
          obtain ⟨_, hc_191⟩ := hO.cell h_b (by decide) (ci := 4) rfl
          refine th_callv (va_runV (As := [.int (I 1), .int (I z_190)]) (rest := []) ⟨hx, hb, hml, hown, hts⟩ (p_addLittle l G y b0 σ_s_189 E hO b h_b 1 (show rng 1 from (show rng 1 from ⟨by decide, by decide⟩)) (by omega) (by omega) z_190 (show rng z_190 from rz_190)) (cwV 2 hts gX5_readTest_X4_addLittle rfl rfl rfl (by decide +kernel) ⟨Nat.le_of_ble_eq_true rfl, Nat.le_of_ble_eq_true rfl⟩) (th_PV hK hH rfl hc_191) rfl rfl hl.1 rfl (lv_room (Nat.le_of_ble_eq_true rfl)) dX5_readTest_71 ⟨Nat.le_of_ble_eq_true rfl, Nat.le_of_ble_eq_true rfl⟩) hS (fun σ_s_193 H locs hw_192 hH hS => ?_)
          obtain ⟨hO9, hF9, hw_192⟩ := hw_192
          replace hO := hO9
          replace hF := hF.tu hF9 (by decide)
          refine lv_goto (tgt := 98) hx hb dX5_readTest_74 (by decide) ?_
          refine lv_iinc (v := I (v2q80 + 1)) (lv' := [(2, .int (I (v2q80 + 1))), (3, .int (I w0q171)), (0, .ref a), (1, .ref b)]) hx hb dX5_readTest_98 hl (k := 3) rfl (I_add _ _) (by decide) rfl (fun ls hl => ?_)
          refine lv_goto (tgt := 2) hx hb dX5_readTest_101 (by decide) ?_
          replace hl : lv_has ls 4 [(2, .int (I (v2q80 + 1))), (0, .ref a), (1, .ref b)] := lv_sub hl [0, 2, 3] rfl
          exact ihJ_81 (v2q80 + 1) σ_s_193 _ _ _ (by first | omega | (dsimp only; omega)) ⟨hO, hF, hH, hS, lv_sub hl [1, 2, 0] rfl, ⟨by first | omega | (dsimp only; omega), by first | omega | (dsimp only; omega)⟩, by first | omega | (dsimp only; omega), by first | omega | (dsimp only; omega)⟩
      · refine lv_icmp_ne (tgt := 49) hx hb dX5_readTest_42 (by decide) (fun c_194 => ?_) (fun c_194 => ?_)
        · replace c_194 := mt (I_eq (a := z_83) (b := 46) rz_83 (show rng 46 from ⟨by decide, by decide⟩)).mpr c_194
          refine lv_iconst (v := I 0) hx hb dX5_readTest_49 (by decide) ?_
          exact jK_172 (0) σ_J_81 _ _ _ ⟨rfl, hH, hS, lv_sub hl [0, 1, 2] rfl, (show rng 0 from ⟨by decide, by decide⟩), by first | omega | (dsimp only; omega)⟩
        · replace c_194 := (I_eq (a := z_83) (b := 46) rz_83 (show rng 46 from ⟨by decide, by decide⟩)).mp c_194
          refine lv_iconst (v := I 1) hx hb dX5_readTest_45 (by decide) ?_
          refine lv_goto (tgt := 50) hx hb dX5_readTest_46 (by decide) ?_
          exact jK_172 (1) σ_J_81 _ _ _ ⟨rfl, hH, hS, lv_sub hl [0, 1, 2] rfl, (show rng 1 from ⟨by decide, by decide⟩), by first | omega | (dsimp only; omega)⟩
  · refine lv_icmp_eq (tgt := 26) hx hb dX5_readTest_11 (by decide) (fun c_197 => ?_) (fun c_197 => ?_)
    · replace c_197 := (I_eq (a := z_83) (b := 46) rz_83 (show rng 46 from ⟨by decide, by decide⟩)).mp c_197
      exact jK_129 () σ_J_81 _ _ _ ⟨rfl, hH, hS, lv_sub hl [0, 1, 2] rfl⟩
    · replace c_197 := mt (I_eq (a := z_83) (b := 46) rz_83 (show rng 46 from ⟨by decide, by decide⟩)).mpr c_197
      refine lv_aload_n hx hb dX5_readTest_14 rfl (lv_at hl 0 rfl) ?_
      refine ok.getR hO h_a (by decide) k11_0 (by decide) (fun _ _ he hv kk => th_get (ci := 5) (C := RX5) (T := TX5) (N := 1) hx hb hts inX5 hown hK hH he rfl 0 (by decide) fl0 hv dX5_readTest_15 kk) ?_
      refine ok.getIc hO hp_82 (by decide) k3_6 e_84 (fun _ _ he hv kk => th_getN (ci := 8) (C := RX8) (T := TX8) (N := 9) hx hb hts inX8 hown hK hH he rfl 6 (by decide) (nl_5 hK) hv dX5_readTest_18 kk) ?_
      refine lv_bipush (v := I 91) hx hb dX5_readTest_21 (by decide) ?_
      refine lv_icmp_ne (tgt := 104) hx hb dX5_readTest_23 (by decide) (fun c_198 => ?_) (fun c_198 => ?_)
      · replace c_198 := mt (I_eq (a := z_83) (b := 91) rz_83 (show rng 91 from ⟨by decide, by decide⟩)).mpr c_198
        refine lv_aload_n hx hb dX5_readTest_104 rfl (lv_at hl 0 rfl) ?_
        refine ok.getR hO h_a (by decide) k11_0 (by decide) (fun _ _ he hv kk => th_get (ci := 5) (C := RX5) (T := TX5) (N := 1) hx hb hts inX5 hown hK hH he rfl 0 (by decide) fl0 hv dX5_readTest_105 kk) ?_
        refine ok.getIc hO hp_82 (by decide) k3_6 e_84 (fun _ _ he hv kk => th_getN (ci := 8) (C := RX8) (T := TX8) (N := 9) hx hb hts inX8 hown hK hH he rfl 6 (by decide) (nl_5 hK) hv dX5_readTest_108 kk) ?_
        refine lv_istore_n (lv' := [(2, .int (I z_83)), (0, .ref a), (1, .ref b)]) hx hb dX5_readTest_111 rfl hl (by decide) rfl (fun ls hl => ?_)
        refine lv_iload_n hx hb dX5_readTest_112 rfl (lv_at hl 0 rfl) ?_
        refine lv_bipush (v := I 61) hx hb dX5_readTest_113 (by decide) ?_
        refine th_join (α := Unit) (J := 138) (stk := fun x9 => []) (fun x9 σ9 H9 l9 ls9 => σ9 = σ_J_81 ∧ th_H G b0 σ9 H9 ∧ va_S (th_A b0) s.heap H9 l9 ∧ lv_has ls9 4 [(0, .ref a), (1, .ref b), (2, .int (I z_83))]) ?_ (fun jK_207 => ?_)
        · intro x9 σ_K_207 H locs ls hI9
          obtain ⟨eK_207, hH, hS, hl⟩ := hI9
          replace eK_207 := eK_207.symm
          subst eK_207
          have hl : lv_has ls 4 [(0, .ref a), (1, .ref b), (2, .int (I z_83))] := hl
          refine lv_aload_n hx hb dX5_readTest_138 rfl (lv_at hl 0 rfl) ?_
          refine ok.getR hO h_a (by decide) k11_0 (by decide) (fun _ _ he hv kk => th_get (ci := 5) (C := RX5) (T := TX5) (N := 1) hx hb hts inX5 hown hK hH he rfl 0 (by decide) fl0 hv dX5_readTest_139 kk) ?_
          obtain ⟨_, hc_208⟩ := hO.cell hp_82 (by decide) (ci := 8) rfl
          refine th_callv (va_runV (As := []) (rest := []) ⟨hx, hb, hml, hown, hts⟩ (k_step l G y b0 σ_J_81 E hO (ad E a 0) hp_82) (cwV 0 hts gX5_readTest_X8_step rfl rfl rfl (by decide +kernel) ⟨Nat.le_of_ble_eq_true rfl, Nat.le_of_ble_eq_true rfl⟩) (th_PV hK hH rfl hc_208) rfl rfl hl.1 rfl (lv_room (Nat.le_of_ble_eq_true rfl)) dX5_readTest_142 ⟨Nat.le_of_ble_eq_true rfl, Nat.le_of_ble_eq_true rfl⟩) hS (fun σ_s_210 H locs hw_209 hH hS => ?_)
          obtain ⟨hO9, hF9, hw_209⟩ := hw_209
          replace hO := hO9
          replace hF := hF.tu hF9 (by decide)
          refine lv_aload_n hx hb dX5_readTest_145 rfl (lv_at hl 0 rfl) ?_
          refine ok.getR hO h_a (by decide) k11_0 (by decide) (fun _ _ he hv kk => th_get (ci := 5) (C := RX5) (T := TX5) (N := 1) hx hb hts inX5 hown hK hH he rfl 0 (by decide) fl0 hv dX5_readTest_146 kk) ?_
          refine ok.getI hO hp_82 (by decide) k3_6 (fun _ _ he hv kk => th_getN (ci := 8) (C := RX8) (T := TX8) (N := 9) hx hb hts inX8 hown hK hH he rfl 6 (by decide) (nl_5 hK) hv dX5_readTest_149 kk) (fun z_211 e_212 rz_211 lz_211 uz_211 => ?_)
          refine lv_sipush (v := I 256) hx hb dX5_readTest_152 (by decide) ?_
          refine lv_icmp_ne (tgt := 177) hx hb dX5_readTest_155 (by decide) (fun c_213 => ?_) (fun c_213 => ?_)
          · replace c_213 := mt (I_eq (a := z_211) (b := 256) rz_211 (show rng 256 from ⟨by decide, by decide⟩)).mpr c_213
            refine lv_aload_n hx hb dX5_readTest_177 rfl (lv_at hl 1 rfl) ?_
            refine lv_iload_n hx hb dX5_readTest_178 rfl (lv_at hl 2 rfl) ?_
            refine lv_iconst (v := I 0) hx hb dX5_readTest_179 (by decide) ?_
            refine lv_aload_n hx hb dX5_readTest_180 rfl (lv_at hl 0 rfl) ?_
            refine ok.getR hO h_a (by decide) k11_0 (by decide) (fun _ _ he hv kk => th_get (ci := 5) (C := RX5) (T := TX5) (N := 1) hx hb hts inX5 hown hK hH he rfl 0 (by decide) fl0 hv dX5_readTest_181 kk) ?_
            obtain ⟨_, hc_214⟩ := hO.cell hp_82 (by decide) (ci := 8) rfl
            refine th_calli (va_runV (As := []) (rest := [.int (I 0), .int (I z_83), .ref b]) ⟨hx, hb, hml, hown, hts⟩ (k_number l G y b0 σ_s_210 E hO (ad E a 0) hp_82) (cwV 0 hts gX5_readTest_X8_takeNumber rfl rfl rfl (by decide +kernel) ⟨Nat.le_of_ble_eq_true rfl, Nat.le_of_ble_eq_true rfl⟩) (th_PV hK hH rfl hc_214) rfl rfl hl.1 rfl (lv_room (Nat.le_of_ble_eq_true rfl)) dX5_readTest_184 ⟨Nat.le_of_ble_eq_true rfl, Nat.le_of_ble_eq_true rfl⟩) hS (fun z_217 σ_s_216 H locs rz_217 hw_215 hH hS => ?_)
            obtain ⟨hO9, hF9, hw_215⟩ := hw_215
            replace hO := hO9
            replace hF := hF.tu hF9 (by decide)
            obtain ⟨_, hc_218⟩ := hO.cell h_b (by decide) (ci := 4) rfl
            refine th_callv (va_runV (As := [.int (I z_83), .int (I 0), .int (I z_217)]) (rest := []) ⟨hx, hb, hml, hown, hts⟩ (p_addTest l G y b0 σ_s_216 E hO b h_b z_83 (show rng z_83 from rz_83) 0 (show rng 0 from (show rng 0 from ⟨by decide, by decide⟩)) z_217 (show rng z_217 from rz_217)) (cwV 3 hts gX5_readTest_X4_addTest rfl rfl rfl (by decide +kernel) ⟨Nat.le_of_ble_eq_true rfl, Nat.le_of_ble_eq_true rfl⟩) (th_PV hK hH rfl hc_218) rfl rfl hl.1 rfl (lv_room (Nat.le_of_ble_eq_true rfl)) dX5_readTest_187 ⟨Nat.le_of_ble_eq_true rfl, Nat.le_of_ble_eq_true rfl⟩) hS (fun σ_s_220 H locs hw_219 hH hS => ?_)
            obtain ⟨hO9, hF9, hw_219⟩ := hw_219
            replace hO := hO9
            replace hF := hF.tu hF9 (by decide)
            exact th_vret hx hb hr hlocks hH hS ⟨hO, hF, trivial⟩ dX5_readTest_190
          · replace c_213 := (I_eq (a := z_211) (b := 256) rz_211 (show rng 256 from ⟨by decide, by decide⟩)).mp c_213
            refine lv_aload_n hx hb dX5_readTest_158 rfl (lv_at hl 1 rfl) ?_
            refine lv_iload_n hx hb dX5_readTest_159 rfl (lv_at hl 2 rfl) ?_
            refine lv_iconst (v := I 1) hx hb dX5_readTest_160 (by decide) ?_
            refine lv_aload_n hx hb dX5_readTest_161 rfl (lv_at hl 0 rfl) ?_
            refine ok.getR hO h_a (by decide) k11_0 (by decide) (fun _ _ he hv kk => th_get (ci := 5) (C := RX5) (T := TX5) (N := 1) hx hb hts inX5 hown hK hH he rfl 0 (by decide) fl0 hv dX5_readTest_162 kk) ?_
            obtain ⟨_, hc_221⟩ := hO.cell hp_82 (by decide) (ci := 8) rfl
            refine th_calli (va_runV (As := []) (rest := [.int (I 1), .int (I z_83), .ref b]) ⟨hx, hb, hml, hown, hts⟩ (k_letters l G y b0 σ_s_210 E hO (ad E a 0) hp_82) (cwV 0 hts gX5_readTest_X8_takeLetters rfl rfl rfl (by decide +kernel) ⟨Nat.le_of_ble_eq_true rfl, Nat.le_of_ble_eq_true rfl⟩) (th_PV hK hH rfl hc_221) rfl rfl hl.1 rfl (lv_room (Nat.le_of_ble_eq_true rfl)) dX5_readTest_165 ⟨Nat.le_of_ble_eq_true rfl, Nat.le_of_ble_eq_true rfl⟩) hS (fun z_224 σ_s_223 H locs rz_224 hw_222 hH hS => ?_)
            obtain ⟨hO9, hF9, hw_222⟩ := hw_222
            replace hO := hO9
            replace hF := hF.tu hF9 (by decide)
            refine th_calli (va_runSN (As := [.int (I z_224)]) (rest := [.int (I 1), .int (I z_83), .ref b]) ⟨hx, hb, hml, hown, hts⟩ (n_first l G y b0 σ_s_223 E hO z_224 (show rng z_224 from rz_224)) ⟨(va_cnB 1 hts gX5_readTest_X10_firstLetterHighest_n99 rfl rfl rfl (ml_12 hK) fl1 (by decide +kernel) ⟨Nat.le_of_ble_eq_true rfl, Nat.le_of_ble_eq_true rfl⟩), fl2, trivial⟩ (th_PS hK hH) rfl rfl hl.1 rfl (lv_room (Nat.le_of_ble_eq_true rfl)) dX5_readTest_168 ⟨Nat.le_of_ble_eq_true rfl, Nat.le_of_ble_eq_true rfl⟩) hS (fun z_227 σ_s_226 H locs rz_227 hw_225 hH hS => ?_)
            obtain ⟨e9, hw_225⟩ := hw_225
            replace e9 := e9.symm
            subst e9
            obtain ⟨_, hc_228⟩ := hO.cell h_b (by decide) (ci := 4) rfl
            refine th_callv (va_runV (As := [.int (I z_83), .int (I 1), .int (I z_227)]) (rest := []) ⟨hx, hb, hml, hown, hts⟩ (p_addTest l G y b0 σ_s_223 E hO b h_b z_83 (show rng z_83 from rz_83) 1 (show rng 1 from (show rng 1 from ⟨by decide, by decide⟩)) z_227 (show rng z_227 from rz_227)) (cwV 3 hts gX5_readTest_X4_addTest rfl rfl rfl (by decide +kernel) ⟨Nat.le_of_ble_eq_true rfl, Nat.le_of_ble_eq_true rfl⟩) (th_PV hK hH rfl hc_228) rfl rfl hl.1 rfl (lv_room (Nat.le_of_ble_eq_true rfl)) dX5_readTest_171 ⟨Nat.le_of_ble_eq_true rfl, Nat.le_of_ble_eq_true rfl⟩) hS (fun σ_s_230 H locs hw_229 hH hS => ?_)
            obtain ⟨hO9, hF9, hw_229⟩ := hw_229
            replace hO := hO9
            replace hF := hF.tu hF9 (by decide)
            refine lv_goto (tgt := 190) hx hb dX5_readTest_174 (by decide) ?_
            exact th_vret hx hb hr hlocks hH hS ⟨hO, hF, trivial⟩ dX5_readTest_190
        · refine lv_icmp_eq (tgt := 138) hx hb dX5_readTest_115 (by decide) (fun c_231 => ?_) (fun c_231 => ?_)
          · replace c_231 := (I_eq (a := z_83) (b := 61) rz_83 (show rng 61 from ⟨by decide, by decide⟩)).mp c_231
            exact jK_207 () σ_J_81 _ _ _ ⟨rfl, hH, hS, lv_sub hl [1, 2, 0] rfl⟩
          · replace c_231 := mt (I_eq (a := z_83) (b := 61) rz_83 (show rng 61 from ⟨by decide, by decide⟩)).mpr c_231
            refine lv_iload_n hx hb dX5_readTest_118 rfl (lv_at hl 0 rfl) ?_
            refine lv_bipush (v := I 60) hx hb dX5_readTest_119 (by decide) ?_
            refine lv_icmp_eq (tgt := 138) hx hb dX5_readTest_121 (by decide) (fun c_232 => ?_) (fun c_232 => ?_)
            · replace c_232 := (I_eq (a := z_83) (b := 60) rz_83 (show rng 60 from ⟨by decide, by decide⟩)).mp c_232
              exact jK_207 () σ_J_81 _ _ _ ⟨rfl, hH, hS, lv_sub hl [1, 2, 0] rfl⟩
            · replace c_232 := mt (I_eq (a := z_83) (b := 60) rz_83 (show rng 60 from ⟨by decide, by decide⟩)).mpr c_232
              refine lv_iload_n hx hb dX5_readTest_124 rfl (lv_at hl 0 rfl) ?_
              refine lv_bipush (v := I 62) hx hb dX5_readTest_125 (by decide) ?_
              refine lv_icmp_eq (tgt := 138) hx hb dX5_readTest_127 (by decide) (fun c_233 => ?_) (fun c_233 => ?_)
              · replace c_233 := (I_eq (a := z_83) (b := 62) rz_83 (show rng 62 from ⟨by decide, by decide⟩)).mp c_233
                exact jK_207 () σ_J_81 _ _ _ ⟨rfl, hH, hS, lv_sub hl [1, 2, 0] rfl⟩
              · replace c_233 := mt (I_eq (a := z_83) (b := 62) rz_83 (show rng 62 from ⟨by decide, by decide⟩)).mpr c_233
                refine lv_aload_n hx hb dX5_readTest_130 rfl (lv_at hl 2 rfl) ?_
                refine lv_iconst (v := I 0) hx hb dX5_readTest_131 (by decide) ?_
                refine lv_iconst (v := I (-1)) hx hb dX5_readTest_132 (by decide) ?_
                refine lv_iconst (v := I 0) hx hb dX5_readTest_133 (by decide) ?_
                obtain ⟨_, hc_234⟩ := hO.cell h_b (by decide) (ci := 4) rfl
                refine th_callv (va_runV (As := [.int (I 0), .int (I (-1)), .int (I 0)]) (rest := []) ⟨hx, hb, hml, hown, hts⟩ (p_addTest l G y b0 σ_J_81 E hO b h_b 0 (show rng 0 from (show rng 0 from ⟨by decide, by decide⟩)) (-1) (show rng (-1) from (show rng (-1) from ⟨by decide, by decide⟩)) 0 (show rng 0 from (show rng 0 from ⟨by decide, by decide⟩))) (cwV 3 hts gX5_readTest_X4_addTest rfl rfl rfl (by decide +kernel) ⟨Nat.le_of_ble_eq_true rfl, Nat.le_of_ble_eq_true rfl⟩) (th_PV hK hH rfl hc_234) rfl rfl hl.1 rfl (lv_room (Nat.le_of_ble_eq_true rfl)) dX5_readTest_134 ⟨Nat.le_of_ble_eq_true rfl, Nat.le_of_ble_eq_true rfl⟩) hS (fun σ_s_236 H locs hw_235 hH hS => ?_)
                obtain ⟨hO9, hF9, hw_235⟩ := hw_235
                have e_237 : gI σ_s_236 (ad E a 0) 6 = z_83 := (fr.ki hO hF9 hp_82 (by decide) (by decide) _).trans e_84
                replace hO := hO9
                replace hF := hF.tu hF9 (by decide)
                exact th_vret hx hb hr hlocks hH hS ⟨hO, hF, trivial⟩ dX5_readTest_137
      · replace c_198 := (I_eq (a := z_83) (b := 91) rz_83 (show rng 91 from ⟨by decide, by decide⟩)).mp c_198
        exact jK_129 () σ_J_81 _ _ _ ⟨rfl, hH, hS, lv_sub hl [0, 1, 2] rfl⟩

set_option maxHeartbeats 1000000 in
set_option maxRecDepth 100000 in
theorem s_readAll (n : Nat) (ih : ∀ (l : Launch) (G : va_G) (y : Nat → ClassId) (b0 : Nat) (σ : th_M) (E : th_E) (hO : ok y E σ) (a : Nat) (h_a : kd E a = 11) (b : Nat) (h_b : kd E b = 4) (lv : Int) (rlv : rng lv) (l_lv : 0 ≤ lv) (u_lv : lv ≤ 5) (hn : (5 - lv).toNat < n), Met l yX5_readAtom wsX5_readAtom ({ frames := 6*n+8, cells := 0, slots := 0, locals := (200*n+600) }) (th_P G y b0 σ [.ref a, .ref b, .int (I lv)]) (th_Qv G b0 (fun σ1 => ok y E σ1 ∧ fr [3, 4] E σ σ1 ∧ (True))) 0 0 (th_A b0)) (l : Launch) (G : va_G) (y : Nat → ClassId) (b0 : Nat) (σ : th_M) (E : th_E) (hO : ok y E σ) (a : Nat) (h_a : kd E a = 11) (b : Nat) (h_b : kd E b = 4) (lv : Int) (rlv : rng lv) (l_lv : 0 ≤ lv) (u_lv : lv ≤ 5) (hy0 : (5 - lv).toNat < n) : Met l yX5_readAll wsX5_readAll ({ frames := 6*n+10, cells := 0, slots := 0, locals := (200*n+650) }) (th_P G y b0 σ [.ref a, .ref b, .int (I lv)]) (th_Qv G b0 (fun σ1 => ok y E σ1 ∧ fr [3, 4] E σ σ1 ∧ (True))) 0 0 (th_A b0) := by
  refine Met.ofW (cc := cX5_readAll) (maxL := 4) (ret := none) (by decide) rfl ?_
  intro p e s m args below meth c s₁ B hml hv
  obtain ⟨rfl, hH, hK⟩ := hv
  have hx := B.exec
  have hb := B.bytes
  have hr := B.returns
  have hts := atoms_spec (ws := wsX5_readAll) B.pre
  have hown : s.vm.findClass RX5 = some m.cls := findClass_of_methodNamed B.named
  have hlocks := B.notSynchronized
  have h00 : b0 ≤ s.heap.size := hH.1
  have hS : va_S (th_A b0) s.heap s.heap [] := va_S.rf
  have hF : fr [3, 4] E σ σ := fr.rf
  have inX5 : ∀ w ∈ wsX50, w ∈ wsX5_readAll := by decide +kernel
  have inX8 : ∀ w ∈ wsX80, w ∈ wsX5_readAll := by decide +kernel
  have fl0 := hts (.fieldLink RX5 9 "NestQuery$PathReader" "tokens" "LNestQuery$Tokens;") (by decide +kernel)
  have hl := lv_entry ([.ref a, .ref b, .int (I lv)]) (n := 4) (Nat.le_of_ble_eq_true rfl)
  rw [lg_entry_eq]
  generalize (lg_sl ([.ref a, .ref b, .int (I lv)]) ++ List.replicate (4 - (lg_sl ([.ref a, .ref b, .int (I lv)])).length) Slot.unset).toArray = ls at hl ⊢
  have hl : lv_has ls 4 [(0, .ref a), (1, .ref b), (2, .int (I lv))] := hl
  refine lv_aload_n hx hb dX5_readAll_0 rfl (lv_at hl 0 rfl) ?_
  refine lv_aload_n hx hb dX5_readAll_1 rfl (lv_at hl 1 rfl) ?_
  refine lv_iload_n hx hb dX5_readAll_2 rfl (lv_at hl 2 rfl) ?_
  obtain ⟨_, hc_1⟩ := hO.cell h_a (by decide) (ci := 5) rfl
  refine th_callv (va_runV (As := [.ref b, .int (I lv)]) (rest := []) ⟨hx, hb, hml, hown, hts⟩ (ih l G y b0 σ E hO a h_a b h_b lv (show rng lv from rlv) (by omega) (by omega) (by omega)) (cwV 2 hts gX5_readAll_X5_readAtom rfl rfl rfl (by decide +kernel) ⟨(by first | (simp only [headSpec]; omega) | omega | (dsimp only; omega)), (by first | (simp only [headSpec]; omega) | omega | (dsimp only; omega))⟩) (th_PV hK hH rfl hc_1) rfl rfl hl.1 rfl (lv_room (Nat.le_of_ble_eq_true rfl)) dX5_readAll_3 ⟨(by first | (simp only [headSpec]; omega) | omega | (dsimp only; omega)), (by first | (simp only [headSpec]; omega) | omega | (dsimp only; omega))⟩) hS (fun σ_s_3 H locs hw_2 hH hS => ?_)
  obtain ⟨hO9, hF9, hw_2⟩ := hw_2
  replace hO := hO9
  replace hF := hF.tu hF9 (by decide)
  refine lv_iconst (v := I 0) hx hb dX5_readAll_6 (by decide) ?_
  refine lv_istore_n (lv' := [(3, .int (I 0)), (0, .ref a), (1, .ref b), (2, .int (I lv))]) hx hb dX5_readAll_7 rfl hl (by decide) rfl (fun ls hl => ?_)
  refine th_loop (α := Int) (pc := 8) (fun x9 => (400 - x9).toNat) (fun x9 σ9 H9 l9 ls9 => ok y E σ9 ∧ fr [3, 4] E σ σ9 ∧ th_H G b0 σ9 H9 ∧ va_S (th_A b0) s.heap H9 l9 ∧ lv_has ls9 4 [(0, .ref a), (1, .ref b), (2, .int (I lv)), (3, .int (I x9))] ∧ rng x9 ∧ (0 ≤ x9) ∧ (x9 ≤ 400)) ?_ (0) σ_s_3 _ _ _ ⟨hO, hF, hH, hS, lv_sub hl [1, 2, 3, 0] rfl, (show rng 0 from ⟨by decide, by decide⟩), by first | omega | (dsimp only; omega), by first | omega | (dsimp only; omega)⟩
  intro x9 σ_J_20 H locs ls hI9 ihJ_20
  obtain ⟨v3q19, ex9⟩ : ∃ z, z = x9 := ⟨_, rfl⟩
  subst ex9
  obtain ⟨hO, hF, hH, hS, hl, rv3q19, J_20_0, J_20_1⟩ := hI9
  have hl : lv_has ls 4 [(0, .ref a), (1, .ref b), (2, .int (I lv)), (3, .int (I v3q19))] := hl
  have rv3q19 : rng v3q19 := rv3q19
  have J_20_0 : 0 ≤ v3q19 := J_20_0
  have J_20_1 : v3q19 ≤ 400 := J_20_1
  refine lv_aload_n hx hb dX5_readAll_8 rfl (lv_at hl 0 rfl) ?_
  have hp_21 : kd E (ad E a 0) = 3 := ok.pk hO h_a (by decide) k11_0 rfl
  refine ok.getR hO h_a (by decide) k11_0 (by decide) (fun _ _ he hv kk => th_get (ci := 5) (C := RX5) (T := TX5) (N := 1) hx hb hts inX5 hown hK hH he rfl 0 (by decide) fl0 hv dX5_readAll_9 kk) ?_
  refine ok.getI hO hp_21 (by decide) k3_6 (fun _ _ he hv kk => th_getN (ci := 8) (C := RX8) (T := TX8) (N := 9) hx hb hts inX8 hown hK hH he rfl 6 (by decide) (nl_5 hK) hv dX5_readAll_12 kk) (fun z_22 e_23 rz_22 lz_22 uz_22 => ?_)
  refine lv_bipush (v := I 38) hx hb dX5_readAll_15 (by decide) ?_
  refine lv_icmp_ne (tgt := 52) hx hb dX5_readAll_17 (by decide) (fun c_24 => ?_) (fun c_24 => ?_)
  · replace c_24 := mt (I_eq (a := z_22) (b := 38) rz_22 (show rng 38 from ⟨by decide, by decide⟩)).mpr c_24
    exact th_vret hx hb hr hlocks hH hS ⟨hO, hF, trivial⟩ dX5_readAll_52
  · replace c_24 := (I_eq (a := z_22) (b := 38) rz_22 (show rng 38 from ⟨by decide, by decide⟩)).mp c_24
    refine lv_iload_n hx hb dX5_readAll_20 rfl (lv_at hl 3 rfl) ?_
    refine lv_sipush (v := I 400) hx hb dX5_readAll_21 (by decide) ?_
    refine lv_icmp_ge (tgt := 52) hx hb dX5_readAll_24 (by decide) (fun c_25 => ?_) (fun c_25 => ?_)
    · replace c_25 := (I_le (a := 400) (b := v3q19) (show rng 400 from ⟨by decide, by decide⟩) rv3q19).mp c_25
      exact th_vret hx hb hr hlocks hH hS ⟨hO, hF, trivial⟩ dX5_readAll_52
    · replace c_25 := mt (I_le (a := 400) (b := v3q19) (show rng 400 from ⟨by decide, by decide⟩) rv3q19).mpr c_25
      refine lv_aload_n hx hb dX5_readAll_27 rfl (lv_at hl 0 rfl) ?_
      refine ok.getR hO h_a (by decide) k11_0 (by decide) (fun _ _ he hv kk => th_get (ci := 5) (C := RX5) (T := TX5) (N := 1) hx hb hts inX5 hown hK hH he rfl 0 (by decide) fl0 hv dX5_readAll_28 kk) ?_
      obtain ⟨_, hc_26⟩ := hO.cell hp_21 (by decide) (ci := 8) rfl
      refine th_callv (va_runV (As := []) (rest := []) ⟨hx, hb, hml, hown, hts⟩ (k_step l G y b0 σ_J_20 E hO (ad E a 0) hp_21) (cwV 0 hts gX5_readAll_X8_step rfl rfl rfl (by decide +kernel) ⟨(by first | (simp only [headSpec]; omega) | omega | (dsimp only; omega)), (by first | (simp only [headSpec]; omega) | omega | (dsimp only; omega))⟩) (th_PV hK hH rfl hc_26) rfl rfl hl.1 rfl (lv_room (Nat.le_of_ble_eq_true rfl)) dX5_readAll_31 ⟨(by first | (simp only [headSpec]; omega) | omega | (dsimp only; omega)), (by first | (simp only [headSpec]; omega) | omega | (dsimp only; omega))⟩) hS (fun σ_s_28 H locs hw_27 hH hS => ?_)
      obtain ⟨hO9, hF9, hw_27⟩ := hw_27
      replace hO := hO9
      replace hF := hF.tu hF9 (by decide)
      refine lv_aload_n hx hb dX5_readAll_34 rfl (lv_at hl 0 rfl) ?_
      refine lv_aload_n hx hb dX5_readAll_35 rfl (lv_at hl 1 rfl) ?_
      refine lv_iload_n hx hb dX5_readAll_36 rfl (lv_at hl 2 rfl) ?_
      obtain ⟨_, hc_29⟩ := hO.cell h_a (by decide) (ci := 5) rfl
      refine th_callv (va_runV (As := [.ref b, .int (I lv)]) (rest := []) ⟨hx, hb, hml, hown, hts⟩ (ih l G y b0 σ_s_28 E hO a h_a b h_b lv (show rng lv from rlv) (by omega) (by omega) (by omega)) (cwV 2 hts gX5_readAll_X5_readAtom rfl rfl rfl (by decide +kernel) ⟨(by first | (simp only [headSpec]; omega) | omega | (dsimp only; omega)), (by first | (simp only [headSpec]; omega) | omega | (dsimp only; omega))⟩) (th_PV hK hH rfl hc_29) rfl rfl hl.1 rfl (lv_room (Nat.le_of_ble_eq_true rfl)) dX5_readAll_37 ⟨(by first | (simp only [headSpec]; omega) | omega | (dsimp only; omega)), (by first | (simp only [headSpec]; omega) | omega | (dsimp only; omega))⟩) hS (fun σ_s_31 H locs hw_30 hH hS => ?_)
      obtain ⟨hO9, hF9, hw_30⟩ := hw_30
      replace hO := hO9
      replace hF := hF.tu hF9 (by decide)
      refine lv_aload_n hx hb dX5_readAll_40 rfl (lv_at hl 1 rfl) ?_
      refine lv_bipush (v := I (-2)) hx hb dX5_readAll_41 (by decide) ?_
      obtain ⟨_, hc_32⟩ := hO.cell h_b (by decide) (ci := 4) rfl
      refine th_callv (va_runV (As := [.int (I (-2))]) (rest := []) ⟨hx, hb, hml, hown, hts⟩ (p_addCode l G y b0 σ_s_31 E hO b h_b (-2) (show rng (-2) from (show rng (-2) from ⟨by decide, by decide⟩))) (cwV 1 hts gX5_readAll_X4_addCode rfl rfl rfl (by decide +kernel) ⟨(by first | (simp only [headSpec]; omega) | omega | (dsimp only; omega)), (by first | (simp only [headSpec]; omega) | omega | (dsimp only; omega))⟩) (th_PV hK hH rfl hc_32) rfl rfl hl.1 rfl (lv_room (Nat.le_of_ble_eq_true rfl)) dX5_readAll_43 ⟨(by first | (simp only [headSpec]; omega) | omega | (dsimp only; omega)), (by first | (simp only [headSpec]; omega) | omega | (dsimp only; omega))⟩) hS (fun σ_s_34 H locs hw_33 hH hS => ?_)
      obtain ⟨hO9, hF9, hw_33⟩ := hw_33
      replace hO := hO9
      replace hF := hF.tu hF9 (by decide)
      have hw_33 : gI σ_s_34 b 13 = gI σ_s_31 b 13 := hw_33
      refine lv_iinc (v := I (v3q19 + 1)) (lv' := [(3, .int (I (v3q19 + 1))), (0, .ref a), (1, .ref b), (2, .int (I lv))]) hx hb dX5_readAll_46 hl (k := 3) rfl (I_add _ _) (by decide) rfl (fun ls hl => ?_)
      refine lv_goto (tgt := 8) hx hb dX5_readAll_49 (by decide) ?_
      exact ihJ_20 (v3q19 + 1) σ_s_34 _ _ _ (by first | omega | (dsimp only; omega)) ⟨hO, hF, hH, hS, lv_sub hl [1, 2, 3, 0] rfl, ⟨by first | omega | (dsimp only; omega), by first | omega | (dsimp only; omega)⟩, by first | omega | (dsimp only; omega), by first | omega | (dsimp only; omega)⟩

set_option maxHeartbeats 1000000 in
set_option maxRecDepth 100000 in
theorem s_readCond (n : Nat) (ih : ∀ (l : Launch) (G : va_G) (y : Nat → ClassId) (b0 : Nat) (σ : th_M) (E : th_E) (hO : ok y E σ) (a : Nat) (h_a : kd E a = 11) (b : Nat) (h_b : kd E b = 4) (lv : Int) (rlv : rng lv) (l_lv : 0 ≤ lv) (u_lv : lv ≤ 5) (hn : (5 - lv).toNat < n), Met l yX5_readAtom wsX5_readAtom ({ frames := 6*n+8, cells := 0, slots := 0, locals := (200*n+600) }) (th_P G y b0 σ [.ref a, .ref b, .int (I lv)]) (th_Qv G b0 (fun σ1 => ok y E σ1 ∧ fr [3, 4] E σ σ1 ∧ (True))) 0 0 (th_A b0)) (l : Launch) (G : va_G) (y : Nat → ClassId) (b0 : Nat) (σ : th_M) (E : th_E) (hO : ok y E σ) (a : Nat) (h_a : kd E a = 11) (b : Nat) (h_b : kd E b = 4) (lv : Int) (rlv : rng lv) (l_lv : 0 ≤ lv) (u_lv : lv ≤ 5) (hy0 : (5 - lv).toNat < n) : Met l yX5_readCond wsX5_readCond ({ frames := 6*n+12, cells := 0, slots := 0, locals := (200*n+700) }) (th_P G y b0 σ [.ref a, .ref b, .int (I lv)]) (th_Qv G b0 (fun σ1 => ok y E σ1 ∧ fr [3, 4] E σ σ1 ∧ (True))) 0 0 (th_A b0) := by
  refine Met.ofW (cc := cX5_readCond) (maxL := 4) (ret := none) (by decide) rfl ?_
  intro p e s m args below meth c s₁ B hml hv
  obtain ⟨rfl, hH, hK⟩ := hv
  have hx := B.exec
  have hb := B.bytes
  have hr := B.returns
  have hts := atoms_spec (ws := wsX5_readCond) B.pre
  have hown : s.vm.findClass RX5 = some m.cls := findClass_of_methodNamed B.named
  have hlocks := B.notSynchronized
  have h00 : b0 ≤ s.heap.size := hH.1
  have hS : va_S (th_A b0) s.heap s.heap [] := va_S.rf
  have hF : fr [3, 4] E σ σ := fr.rf
  have inX5 : ∀ w ∈ wsX50, w ∈ wsX5_readCond := by decide +kernel
  have inX8 : ∀ w ∈ wsX80, w ∈ wsX5_readCond := by decide +kernel
  have fl0 := hts (.fieldLink RX5 9 "NestQuery$PathReader" "tokens" "LNestQuery$Tokens;") (by decide +kernel)
  have hl := lv_entry ([.ref a, .ref b, .int (I lv)]) (n := 4) (Nat.le_of_ble_eq_true rfl)
  rw [lg_entry_eq]
  generalize (lg_sl ([.ref a, .ref b, .int (I lv)]) ++ List.replicate (4 - (lg_sl ([.ref a, .ref b, .int (I lv)])).length) Slot.unset).toArray = ls at hl ⊢
  have hl : lv_has ls 4 [(0, .ref a), (1, .ref b), (2, .int (I lv))] := hl
  refine lv_aload_n hx hb dX5_readCond_0 rfl (lv_at hl 0 rfl) ?_
  refine lv_aload_n hx hb dX5_readCond_1 rfl (lv_at hl 1 rfl) ?_
  refine lv_iload_n hx hb dX5_readCond_2 rfl (lv_at hl 2 rfl) ?_
  obtain ⟨_, hc_1⟩ := hO.cell h_a (by decide) (ci := 5) rfl
  refine th_callv (va_runV (As := [.ref b, .int (I lv)]) (rest := []) ⟨hx, hb, hml, hown, hts⟩ (s_readAll n ih l G y b0 σ E hO a h_a b h_b lv (show rng lv from rlv) (by omega) (by omega) (by omega)) (cwV 2 hts gX5_readCond_X5_readAll rfl rfl rfl (by decide +kernel) ⟨(by first | (simp only [headSpec]; omega) | omega | (dsimp only; omega)), (by first | (simp only [headSpec]; omega) | omega | (dsimp only; omega))⟩) (th_PV hK hH rfl hc_1) rfl rfl hl.1 rfl (lv_room (Nat.le_of_ble_eq_true rfl)) dX5_readCond_3 ⟨(by first | (simp only [headSpec]; omega) | omega | (dsimp only; omega)), (by first | (simp only [headSpec]; omega) | omega | (dsimp only; omega))⟩) hS (fun σ_s_3 H locs hw_2 hH hS => ?_)
  obtain ⟨hO9, hF9, hw_2⟩ := hw_2
  replace hO := hO9
  replace hF := hF.tu hF9 (by decide)
  refine lv_iconst (v := I 0) hx hb dX5_readCond_6 (by decide) ?_
  refine lv_istore_n (lv' := [(3, .int (I 0)), (0, .ref a), (1, .ref b), (2, .int (I lv))]) hx hb dX5_readCond_7 rfl hl (by decide) rfl (fun ls hl => ?_)
  refine th_loop (α := Int) (pc := 8) (fun x9 => (400 - x9).toNat) (fun x9 σ9 H9 l9 ls9 => ok y E σ9 ∧ fr [3, 4] E σ σ9 ∧ th_H G b0 σ9 H9 ∧ va_S (th_A b0) s.heap H9 l9 ∧ lv_has ls9 4 [(0, .ref a), (1, .ref b), (2, .int (I lv)), (3, .int (I x9))] ∧ rng x9 ∧ (0 ≤ x9) ∧ (x9 ≤ 400)) ?_ (0) σ_s_3 _ _ _ ⟨hO, hF, hH, hS, lv_sub hl [1, 2, 3, 0] rfl, (show rng 0 from ⟨by decide, by decide⟩), by first | omega | (dsimp only; omega), by first | omega | (dsimp only; omega)⟩
  intro x9 σ_J_20 H locs ls hI9 ihJ_20
  obtain ⟨v3q19, ex9⟩ : ∃ z, z = x9 := ⟨_, rfl⟩
  subst ex9
  obtain ⟨hO, hF, hH, hS, hl, rv3q19, J_20_0, J_20_1⟩ := hI9
  have hl : lv_has ls 4 [(0, .ref a), (1, .ref b), (2, .int (I lv)), (3, .int (I v3q19))] := hl
  have rv3q19 : rng v3q19 := rv3q19
  have J_20_0 : 0 ≤ v3q19 := J_20_0
  have J_20_1 : v3q19 ≤ 400 := J_20_1
  refine lv_aload_n hx hb dX5_readCond_8 rfl (lv_at hl 0 rfl) ?_
  have hp_21 : kd E (ad E a 0) = 3 := ok.pk hO h_a (by decide) k11_0 rfl
  refine ok.getR hO h_a (by decide) k11_0 (by decide) (fun _ _ he hv kk => th_get (ci := 5) (C := RX5) (T := TX5) (N := 1) hx hb hts inX5 hown hK hH he rfl 0 (by decide) fl0 hv dX5_readCond_9 kk) ?_
  refine ok.getI hO hp_21 (by decide) k3_6 (fun _ _ he hv kk => th_getN (ci := 8) (C := RX8) (T := TX8) (N := 9) hx hb hts inX8 hown hK hH he rfl 6 (by decide) (nl_5 hK) hv dX5_readCond_12 kk) (fun z_22 e_23 rz_22 lz_22 uz_22 => ?_)
  refine lv_bipush (v := I 124) hx hb dX5_readCond_15 (by decide) ?_
  refine lv_icmp_ne (tgt := 52) hx hb dX5_readCond_17 (by decide) (fun c_24 => ?_) (fun c_24 => ?_)
  · replace c_24 := mt (I_eq (a := z_22) (b := 124) rz_22 (show rng 124 from ⟨by decide, by decide⟩)).mpr c_24
    exact th_vret hx hb hr hlocks hH hS ⟨hO, hF, trivial⟩ dX5_readCond_52
  · replace c_24 := (I_eq (a := z_22) (b := 124) rz_22 (show rng 124 from ⟨by decide, by decide⟩)).mp c_24
    refine lv_iload_n hx hb dX5_readCond_20 rfl (lv_at hl 3 rfl) ?_
    refine lv_sipush (v := I 400) hx hb dX5_readCond_21 (by decide) ?_
    refine lv_icmp_ge (tgt := 52) hx hb dX5_readCond_24 (by decide) (fun c_25 => ?_) (fun c_25 => ?_)
    · replace c_25 := (I_le (a := 400) (b := v3q19) (show rng 400 from ⟨by decide, by decide⟩) rv3q19).mp c_25
      exact th_vret hx hb hr hlocks hH hS ⟨hO, hF, trivial⟩ dX5_readCond_52
    · replace c_25 := mt (I_le (a := 400) (b := v3q19) (show rng 400 from ⟨by decide, by decide⟩) rv3q19).mpr c_25
      refine lv_aload_n hx hb dX5_readCond_27 rfl (lv_at hl 0 rfl) ?_
      refine ok.getR hO h_a (by decide) k11_0 (by decide) (fun _ _ he hv kk => th_get (ci := 5) (C := RX5) (T := TX5) (N := 1) hx hb hts inX5 hown hK hH he rfl 0 (by decide) fl0 hv dX5_readCond_28 kk) ?_
      obtain ⟨_, hc_26⟩ := hO.cell hp_21 (by decide) (ci := 8) rfl
      refine th_callv (va_runV (As := []) (rest := []) ⟨hx, hb, hml, hown, hts⟩ (k_step l G y b0 σ_J_20 E hO (ad E a 0) hp_21) (cwV 0 hts gX5_readCond_X8_step rfl rfl rfl (by decide +kernel) ⟨(by first | (simp only [headSpec]; omega) | omega | (dsimp only; omega)), (by first | (simp only [headSpec]; omega) | omega | (dsimp only; omega))⟩) (th_PV hK hH rfl hc_26) rfl rfl hl.1 rfl (lv_room (Nat.le_of_ble_eq_true rfl)) dX5_readCond_31 ⟨(by first | (simp only [headSpec]; omega) | omega | (dsimp only; omega)), (by first | (simp only [headSpec]; omega) | omega | (dsimp only; omega))⟩) hS (fun σ_s_28 H locs hw_27 hH hS => ?_)
      obtain ⟨hO9, hF9, hw_27⟩ := hw_27
      replace hO := hO9
      replace hF := hF.tu hF9 (by decide)
      refine lv_aload_n hx hb dX5_readCond_34 rfl (lv_at hl 0 rfl) ?_
      refine lv_aload_n hx hb dX5_readCond_35 rfl (lv_at hl 1 rfl) ?_
      refine lv_iload_n hx hb dX5_readCond_36 rfl (lv_at hl 2 rfl) ?_
      obtain ⟨_, hc_29⟩ := hO.cell h_a (by decide) (ci := 5) rfl
      refine th_callv (va_runV (As := [.ref b, .int (I lv)]) (rest := []) ⟨hx, hb, hml, hown, hts⟩ (s_readAll n ih l G y b0 σ_s_28 E hO a h_a b h_b lv (show rng lv from rlv) (by omega) (by omega) (by omega)) (cwV 2 hts gX5_readCond_X5_readAll rfl rfl rfl (by decide +kernel) ⟨(by first | (simp only [headSpec]; omega) | omega | (dsimp only; omega)), (by first | (simp only [headSpec]; omega) | omega | (dsimp only; omega))⟩) (th_PV hK hH rfl hc_29) rfl rfl hl.1 rfl (lv_room (Nat.le_of_ble_eq_true rfl)) dX5_readCond_37 ⟨(by first | (simp only [headSpec]; omega) | omega | (dsimp only; omega)), (by first | (simp only [headSpec]; omega) | omega | (dsimp only; omega))⟩) hS (fun σ_s_31 H locs hw_30 hH hS => ?_)
      obtain ⟨hO9, hF9, hw_30⟩ := hw_30
      replace hO := hO9
      replace hF := hF.tu hF9 (by decide)
      refine lv_aload_n hx hb dX5_readCond_40 rfl (lv_at hl 1 rfl) ?_
      refine lv_bipush (v := I (-3)) hx hb dX5_readCond_41 (by decide) ?_
      obtain ⟨_, hc_32⟩ := hO.cell h_b (by decide) (ci := 4) rfl
      refine th_callv (va_runV (As := [.int (I (-3))]) (rest := []) ⟨hx, hb, hml, hown, hts⟩ (p_addCode l G y b0 σ_s_31 E hO b h_b (-3) (show rng (-3) from (show rng (-3) from ⟨by decide, by decide⟩))) (cwV 1 hts gX5_readCond_X4_addCode rfl rfl rfl (by decide +kernel) ⟨(by first | (simp only [headSpec]; omega) | omega | (dsimp only; omega)), (by first | (simp only [headSpec]; omega) | omega | (dsimp only; omega))⟩) (th_PV hK hH rfl hc_32) rfl rfl hl.1 rfl (lv_room (Nat.le_of_ble_eq_true rfl)) dX5_readCond_43 ⟨(by first | (simp only [headSpec]; omega) | omega | (dsimp only; omega)), (by first | (simp only [headSpec]; omega) | omega | (dsimp only; omega))⟩) hS (fun σ_s_34 H locs hw_33 hH hS => ?_)
      obtain ⟨hO9, hF9, hw_33⟩ := hw_33
      replace hO := hO9
      replace hF := hF.tu hF9 (by decide)
      have hw_33 : gI σ_s_34 b 13 = gI σ_s_31 b 13 := hw_33
      refine lv_iinc (v := I (v3q19 + 1)) (lv' := [(3, .int (I (v3q19 + 1))), (0, .ref a), (1, .ref b), (2, .int (I lv))]) hx hb dX5_readCond_46 hl (k := 3) rfl (I_add _ _) (by decide) rfl (fun ls hl => ?_)
      refine lv_goto (tgt := 8) hx hb dX5_readCond_49 (by decide) ?_
      exact ihJ_20 (v3q19 + 1) σ_s_34 _ _ _ (by first | omega | (dsimp only; omega)) ⟨hO, hF, hH, hS, lv_sub hl [1, 2, 3, 0] rfl, ⟨by first | omega | (dsimp only; omega), by first | omega | (dsimp only; omega)⟩, by first | omega | (dsimp only; omega), by first | omega | (dsimp only; omega)⟩

set_option maxHeartbeats 1000000 in
set_option maxRecDepth 100000 in
theorem s_readAtom (n : Nat) : ∀ (l : Launch) (G : va_G) (y : Nat → ClassId) (b0 : Nat) (σ : th_M) (E : th_E) (hO : ok y E σ) (a : Nat) (h_a : kd E a = 11) (b : Nat) (h_b : kd E b = 4) (lv : Int) (rlv : rng lv) (l_lv : 0 ≤ lv) (u_lv : lv ≤ 5) (hn : (5 - lv).toNat < n), Met l yX5_readAtom wsX5_readAtom ({ frames := 6*n+8, cells := 0, slots := 0, locals := (200*n+600) }) (th_P G y b0 σ [.ref a, .ref b, .int (I lv)]) (th_Qv G b0 (fun σ1 => ok y E σ1 ∧ fr [3, 4] E σ σ1 ∧ (True))) 0 0 (th_A b0) := by
  induction n with
  | zero => intro l G y b0 σ E hO a h_a b h_b lv rlv l_lv u_lv hn; exact absurd hn (Nat.not_lt_zero _)
  | succ n ih =>
    intro l G y b0 σ E hO a h_a b h_b lv rlv l_lv u_lv hn
    refine Met.ofW (cc := cX5_readAtom) (maxL := 4) (ret := none) (by decide) rfl ?_
    intro p e s m args below meth c s₁ B hml hv
    obtain ⟨rfl, hH, hK⟩ := hv
    have hx := B.exec
    have hb := B.bytes
    have hr := B.returns
    have hts := atoms_spec (ws := wsX5_readAtom) B.pre
    have hown : s.vm.findClass RX5 = some m.cls := findClass_of_methodNamed B.named
    have hlocks := B.notSynchronized
    have h00 : b0 ≤ s.heap.size := hH.1
    have hS : va_S (th_A b0) s.heap s.heap [] := va_S.rf
    have hF : fr [3, 4] E σ σ := fr.rf
    have inX4 : ∀ w ∈ wsX40, w ∈ wsX5_readAtom := by decide +kernel
    have inX5 : ∀ w ∈ wsX50, w ∈ wsX5_readAtom := by decide +kernel
    have inX8 : ∀ w ∈ wsX80, w ∈ wsX5_readAtom := by decide +kernel
    have fl0 := hts (.fieldLink RX5 9 "NestQuery$PathReader" "tokens" "LNestQuery$Tokens;") (by decide +kernel)
    have hl := lv_entry ([.ref a, .ref b, .int (I lv)]) (n := 4) (Nat.le_of_ble_eq_true rfl)
    rw [lg_entry_eq]
    generalize (lg_sl ([.ref a, .ref b, .int (I lv)]) ++ List.replicate (4 - (lg_sl ([.ref a, .ref b, .int (I lv)])).length) Slot.unset).toArray = ls at hl ⊢
    have hl : lv_has ls 4 [(0, .ref a), (1, .ref b), (2, .int (I lv))] := hl
    refine lv_aload_n hx hb dX5_readAtom_0 rfl (lv_at hl 0 rfl) ?_
    have hp_1 : kd E (ad E a 0) = 3 := ok.pk hO h_a (by decide) k11_0 rfl
    refine ok.getR hO h_a (by decide) k11_0 (by decide) (fun _ _ he hv kk => th_get (ci := 5) (C := RX5) (T := TX5) (N := 1) hx hb hts inX5 hown hK hH he rfl 0 (by decide) fl0 hv dX5_readAtom_1 kk) ?_
    refine ok.getI hO hp_1 (by decide) k3_6 (fun _ _ he hv kk => th_getN (ci := 8) (C := RX8) (T := TX8) (N := 9) hx hb hts inX8 hown hK hH he rfl 6 (by decide) (nl_5 hK) hv dX5_readAtom_4 kk) (fun z_2 e_3 rz_2 lz_2 uz_2 => ?_)
    refine lv_istore_n (lv' := [(3, .int (I z_2)), (0, .ref a), (1, .ref b), (2, .int (I lv))]) hx hb dX5_readAtom_7 rfl hl (by decide) rfl (fun ls hl => ?_)
    refine lv_iload_n hx hb dX5_readAtom_8 rfl (lv_at hl 0 rfl) ?_
    refine lv_bipush (v := I 33) hx hb dX5_readAtom_9 (by decide) ?_
    refine lv_icmp_eq (tgt := 37) hx hb dX5_readAtom_11 (by decide) (fun c_4 => ?_) (fun c_4 => ?_)
    · replace c_4 := (I_eq (a := z_2) (b := 33) rz_2 (show rng 33 from ⟨by decide, by decide⟩)).mp c_4
      refine lv_iload_n hx hb dX5_readAtom_37 rfl (lv_at hl 0 rfl) ?_
      refine lv_bipush (v := I 64) hx hb dX5_readAtom_38 (by decide) ?_
      refine lv_icmp_ne (tgt := 55) hx hb dX5_readAtom_40 (by decide) (fun c_5 => ?_) (fun c_5 => ?_)
      · replace c_5 := mt (I_eq (a := z_2) (b := 64) rz_2 (show rng 64 from ⟨by decide, by decide⟩)).mpr c_5
        refine lv_iload_n hx hb dX5_readAtom_55 rfl (lv_at hl 3 rfl) ?_
        refine lv_iconst (v := I 5) hx hb dX5_readAtom_56 (by decide) ?_
        refine lv_icmp_lt (tgt := 71) hx hb dX5_readAtom_57 (by decide) (fun c_6 => ?_) (fun c_6 => ?_)
        · replace c_6 := (I_lt (a := lv) (b := 5) rlv (show rng 5 from ⟨by decide, by decide⟩)).mp c_6
          refine lv_aload_n hx hb dX5_readAtom_71 rfl (lv_at hl 1 rfl) ?_
          refine ok.getR hO h_a (by decide) k11_0 (by decide) (fun _ _ he hv kk => th_get (ci := 5) (C := RX5) (T := TX5) (N := 1) hx hb hts inX5 hown hK hH he rfl 0 (by decide) fl0 hv dX5_readAtom_72 kk) ?_
          obtain ⟨_, hc_7⟩ := hO.cell hp_1 (by decide) (ci := 8) rfl
          refine th_callv (va_runV (As := []) (rest := []) ⟨hx, hb, hml, hown, hts⟩ (k_step l G y b0 σ E hO (ad E a 0) hp_1) (cwV 0 hts gX5_readAtom_X8_step rfl rfl rfl (by decide +kernel) ⟨(by first | (simp only [headSpec]; omega) | omega | (dsimp only; omega)), (by first | (simp only [headSpec]; omega) | omega | (dsimp only; omega))⟩) (th_PV hK hH rfl hc_7) rfl rfl hl.1 rfl (lv_room (Nat.le_of_ble_eq_true rfl)) dX5_readAtom_75 ⟨(by first | (simp only [headSpec]; omega) | omega | (dsimp only; omega)), (by first | (simp only [headSpec]; omega) | omega | (dsimp only; omega))⟩) hS (fun σ_s_9 H locs hw_8 hH hS => ?_)
          obtain ⟨hO9, hF9, hw_8⟩ := hw_8
          replace hO := hO9
          replace hF := hF.tu hF9 (by decide)
          refine lv_iload_n hx hb dX5_readAtom_78 rfl (lv_at hl 0 rfl) ?_
          refine lv_bipush (v := I 64) hx hb dX5_readAtom_79 (by decide) ?_
          refine lv_icmp_ne (tgt := 92) hx hb dX5_readAtom_81 (by decide) (fun c_10 => ?_) (fun c_10 => ?_)
          · replace c_10 := mt (I_eq (a := z_2) (b := 64) rz_2 (show rng 64 from ⟨by decide, by decide⟩)).mpr c_10
            refine lv_iload_n hx hb dX5_readAtom_92 rfl (lv_at hl 0 rfl) ?_
            refine lv_bipush (v := I 33) hx hb dX5_readAtom_93 (by decide) ?_
            refine lv_icmp_ne (tgt := 115) hx hb dX5_readAtom_95 (by decide) (fun c_11 => ?_) (fun c_11 => ?_)
            · replace c_11 := mt (I_eq (a := z_2) (b := 33) rz_2 (show rng 33 from ⟨by decide, by decide⟩)).mpr c_11
              refine lv_aload_n hx hb dX5_readAtom_115 rfl (lv_at hl 1 rfl) ?_
              refine lv_aload_n hx hb dX5_readAtom_116 rfl (lv_at hl 2 rfl) ?_
              refine lv_iload_n hx hb dX5_readAtom_117 rfl (lv_at hl 3 rfl) ?_
              refine lv_iconst (v := I 1) hx hb dX5_readAtom_118 (by decide) ?_
              refine lv_iadd hx hb dX5_readAtom_119 ?_
              refine nq_top (I_add _ _) ?_
              obtain ⟨_, hc_12⟩ := hO.cell h_a (by decide) (ci := 5) rfl
              refine th_callv (va_runV (As := [.ref b, .int (I (lv + 1))]) (rest := []) ⟨hx, hb, hml, hown, hts⟩ (s_readCond n ih l G y b0 σ_s_9 E hO a h_a b h_b (lv + 1) (show rng (lv + 1) from ⟨by omega, by omega⟩) (by omega) (by omega) (by omega)) (cwV 2 hts gX5_readAtom_X5_readCond rfl rfl rfl (by decide +kernel) ⟨(by first | (simp only [headSpec]; omega) | omega | (dsimp only; omega)), (by first | (simp only [headSpec]; omega) | omega | (dsimp only; omega))⟩) (th_PV hK hH rfl hc_12) rfl rfl hl.1 rfl (lv_room (Nat.le_of_ble_eq_true rfl)) dX5_readAtom_120 ⟨(by first | (simp only [headSpec]; omega) | omega | (dsimp only; omega)), (by first | (simp only [headSpec]; omega) | omega | (dsimp only; omega))⟩) hS (fun σ_s_14 H locs hw_13 hH hS => ?_)
              obtain ⟨hO9, hF9, hw_13⟩ := hw_13
              replace hO := hO9
              replace hF := hF.tu hF9 (by decide)
              refine lv_aload_n hx hb dX5_readAtom_123 rfl (lv_at hl 1 rfl) ?_
              refine ok.getR hO h_a (by decide) k11_0 (by decide) (fun _ _ he hv kk => th_get (ci := 5) (C := RX5) (T := TX5) (N := 1) hx hb hts inX5 hown hK hH he rfl 0 (by decide) fl0 hv dX5_readAtom_124 kk) ?_
              refine lv_bipush (v := I 41) hx hb dX5_readAtom_127 (by decide) ?_
              obtain ⟨_, hc_15⟩ := hO.cell hp_1 (by decide) (ci := 8) rfl
              refine th_callv (va_runV (As := [.int (I 41)]) (rest := []) ⟨hx, hb, hml, hown, hts⟩ (k_expect l G y b0 σ_s_14 E hO (ad E a 0) hp_1 41 (show rng 41 from (show rng 41 from ⟨by decide, by decide⟩))) (cwV 1 hts gX5_readAtom_X8_expect rfl rfl rfl (by decide +kernel) ⟨(by first | (simp only [headSpec]; omega) | omega | (dsimp only; omega)), (by first | (simp only [headSpec]; omega) | omega | (dsimp only; omega))⟩) (th_PV hK hH rfl hc_15) rfl rfl hl.1 rfl (lv_room (Nat.le_of_ble_eq_true rfl)) dX5_readAtom_129 ⟨(by first | (simp only [headSpec]; omega) | omega | (dsimp only; omega)), (by first | (simp only [headSpec]; omega) | omega | (dsimp only; omega))⟩) hS (fun σ_s_17 H locs hw_16 hH hS => ?_)
              obtain ⟨hO9, hF9, hw_16⟩ := hw_16
              replace hO := hO9
              replace hF := hF.tu hF9 (by decide)
              exact th_vret hx hb hr hlocks hH hS ⟨hO, hF, trivial⟩ dX5_readAtom_132
            · replace c_11 := (I_eq (a := z_2) (b := 33) rz_2 (show rng 33 from ⟨by decide, by decide⟩)).mp c_11
              refine lv_aload_n hx hb dX5_readAtom_98 rfl (lv_at hl 1 rfl) ?_
              refine lv_aload_n hx hb dX5_readAtom_99 rfl (lv_at hl 2 rfl) ?_
              refine lv_iload_n hx hb dX5_readAtom_100 rfl (lv_at hl 3 rfl) ?_
              refine lv_iconst (v := I 1) hx hb dX5_readAtom_101 (by decide) ?_
              refine lv_iadd hx hb dX5_readAtom_102 ?_
              refine nq_top (I_add _ _) ?_
              obtain ⟨_, hc_18⟩ := hO.cell h_a (by decide) (ci := 5) rfl
              refine th_callv (va_runV (As := [.ref b, .int (I (lv + 1))]) (rest := []) ⟨hx, hb, hml, hown, hts⟩ (ih l G y b0 σ_s_9 E hO a h_a b h_b (lv + 1) (show rng (lv + 1) from ⟨by omega, by omega⟩) (by omega) (by omega) (by omega)) (cwV 2 hts gX5_readAtom_X5_readAtom rfl rfl rfl (by decide +kernel) ⟨(by first | (simp only [headSpec]; omega) | omega | (dsimp only; omega)), (by first | (simp only [headSpec]; omega) | omega | (dsimp only; omega))⟩) (th_PV hK hH rfl hc_18) rfl rfl hl.1 rfl (lv_room (Nat.le_of_ble_eq_true rfl)) dX5_readAtom_103 ⟨(by first | (simp only [headSpec]; omega) | omega | (dsimp only; omega)), (by first | (simp only [headSpec]; omega) | omega | (dsimp only; omega))⟩) hS (fun σ_s_20 H locs hw_19 hH hS => ?_)
              obtain ⟨hO9, hF9, hw_19⟩ := hw_19
              replace hO := hO9
              replace hF := hF.tu hF9 (by decide)
              refine lv_aload_n hx hb dX5_readAtom_106 rfl (lv_at hl 2 rfl) ?_
              refine lv_bipush (v := I (-4)) hx hb dX5_readAtom_107 (by decide) ?_
              obtain ⟨_, hc_21⟩ := hO.cell h_b (by decide) (ci := 4) rfl
              refine th_callv (va_runV (As := [.int (I (-4))]) (rest := []) ⟨hx, hb, hml, hown, hts⟩ (p_addCode l G y b0 σ_s_20 E hO b h_b (-4) (show rng (-4) from (show rng (-4) from ⟨by decide, by decide⟩))) (cwV 1 hts gX5_readAtom_X4_addCode rfl rfl rfl (by decide +kernel) ⟨(by first | (simp only [headSpec]; omega) | omega | (dsimp only; omega)), (by first | (simp only [headSpec]; omega) | omega | (dsimp only; omega))⟩) (th_PV hK hH rfl hc_21) rfl rfl hl.1 rfl (lv_room (Nat.le_of_ble_eq_true rfl)) dX5_readAtom_109 ⟨(by first | (simp only [headSpec]; omega) | omega | (dsimp only; omega)), (by first | (simp only [headSpec]; omega) | omega | (dsimp only; omega))⟩) hS (fun σ_s_23 H locs hw_22 hH hS => ?_)
              obtain ⟨hO9, hF9, hw_22⟩ := hw_22
              replace hO := hO9
              replace hF := hF.tu hF9 (by decide)
              have hw_22 : gI σ_s_23 b 13 = gI σ_s_20 b 13 := hw_22
              refine lv_goto (tgt := 132) hx hb dX5_readAtom_112 (by decide) ?_
              exact th_vret hx hb hr hlocks hH hS ⟨hO, hF, trivial⟩ dX5_readAtom_132
          · replace c_10 := (I_eq (a := z_2) (b := 64) rz_2 (show rng 64 from ⟨by decide, by decide⟩)).mp c_10
            refine lv_aload_n hx hb dX5_readAtom_84 rfl (lv_at hl 1 rfl) ?_
            refine lv_aload_n hx hb dX5_readAtom_85 rfl (lv_at hl 2 rfl) ?_
            obtain ⟨_, hc_24⟩ := hO.cell h_a (by decide) (ci := 5) rfl
            refine th_callv (va_runV (As := [.ref b]) (rest := []) ⟨hx, hb, hml, hown, hts⟩ (s_readTest l G y b0 σ_s_9 E hO a h_a b h_b) (cwV 1 hts gX5_readAtom_X5_readTest rfl rfl rfl (by decide +kernel) ⟨(by first | (simp only [headSpec]; omega) | omega | (dsimp only; omega)), (by first | (simp only [headSpec]; omega) | omega | (dsimp only; omega))⟩) (th_PV hK hH rfl hc_24) rfl rfl hl.1 rfl (lv_room (Nat.le_of_ble_eq_true rfl)) dX5_readAtom_86 ⟨(by first | (simp only [headSpec]; omega) | omega | (dsimp only; omega)), (by first | (simp only [headSpec]; omega) | omega | (dsimp only; omega))⟩) hS (fun σ_s_26 H locs hw_25 hH hS => ?_)
            obtain ⟨hO9, hF9, hw_25⟩ := hw_25
            replace hO := hO9
            replace hF := hF.tu hF9 (by decide)
            refine lv_goto (tgt := 132) hx hb dX5_readAtom_89 (by decide) ?_
            exact th_vret hx hb hr hlocks hH hS ⟨hO, hF, trivial⟩ dX5_readAtom_132
        · replace c_6 := mt (I_lt (a := lv) (b := 5) rlv (show rng 5 from ⟨by decide, by decide⟩)).mpr c_6
          refine lv_aload_n hx hb dX5_readAtom_60 rfl (lv_at hl 1 rfl) ?_
          refine ok.getR hO h_a (by decide) k11_0 (by decide) (fun _ _ he hv kk => th_get (ci := 5) (C := RX5) (T := TX5) (N := 1) hx hb hts inX5 hown hK hH he rfl 0 (by decide) fl0 hv dX5_readAtom_61 kk) ?_
          refine lv_iconst (v := I 2) hx hb dX5_readAtom_64 (by decide) ?_
          obtain ⟨_, hc_27⟩ := hO.cell hp_1 (by decide) (ci := 8) rfl
          refine th_callv (va_runV (As := [.int (I 2)]) (rest := []) ⟨hx, hb, hml, hown, hts⟩ (k_fail l G y b0 σ E hO (ad E a 0) hp_1 2 (show rng 2 from (show rng 2 from ⟨by decide, by decide⟩))) (cwV 1 hts gX5_readAtom_X8_fail rfl rfl rfl (by decide +kernel) ⟨(by first | (simp only [headSpec]; omega) | omega | (dsimp only; omega)), (by first | (simp only [headSpec]; omega) | omega | (dsimp only; omega))⟩) (th_PV hK hH rfl hc_27) rfl rfl hl.1 rfl (lv_room (Nat.le_of_ble_eq_true rfl)) dX5_readAtom_65 ⟨(by first | (simp only [headSpec]; omega) | omega | (dsimp only; omega)), (by first | (simp only [headSpec]; omega) | omega | (dsimp only; omega))⟩) hS (fun σ_s_29 H locs hw_28 hH hS => ?_)
          obtain ⟨hO9, hF9, hw_28⟩ := hw_28
          replace hO := hO9
          replace hF := hF.tu hF9 (by decide)
          refine lv_goto (tgt := 132) hx hb dX5_readAtom_68 (by decide) ?_
          exact th_vret hx hb hr hlocks hH hS ⟨hO, hF, trivial⟩ dX5_readAtom_132
      · replace c_5 := (I_eq (a := z_2) (b := 64) rz_2 (show rng 64 from ⟨by decide, by decide⟩)).mp c_5
        refine lv_aload_n hx hb dX5_readAtom_43 rfl (lv_at hl 2 rfl) ?_
        refine ok.getI hO h_b (by decide) k4_13 (fun _ _ he hv kk => th_getN (ci := 4) (C := RX4) (T := TX4) (N := 14) hx hb hts inX4 hown hK hH he rfl 13 (by decide) (nl_3 hK) hv dX5_readAtom_44 kk) (fun z_30 e_31 rz_30 lz_30 uz_30 => ?_)
        refine lv_bipush (v := I 12) hx hb dX5_readAtom_47 (by decide) ?_
        refine lv_icmp_lt (tgt := 71) hx hb dX5_readAtom_49 (by decide) (fun c_32 => ?_) (fun c_32 => ?_)
        · replace c_32 := (I_lt (a := z_30) (b := 12) rz_30 (show rng 12 from ⟨by decide, by decide⟩)).mp c_32
          refine lv_aload_n hx hb dX5_readAtom_71 rfl (lv_at hl 1 rfl) ?_
          refine ok.getR hO h_a (by decide) k11_0 (by decide) (fun _ _ he hv kk => th_get (ci := 5) (C := RX5) (T := TX5) (N := 1) hx hb hts inX5 hown hK hH he rfl 0 (by decide) fl0 hv dX5_readAtom_72 kk) ?_
          obtain ⟨_, hc_33⟩ := hO.cell hp_1 (by decide) (ci := 8) rfl
          refine th_callv (va_runV (As := []) (rest := []) ⟨hx, hb, hml, hown, hts⟩ (k_step l G y b0 σ E hO (ad E a 0) hp_1) (cwV 0 hts gX5_readAtom_X8_step rfl rfl rfl (by decide +kernel) ⟨(by first | (simp only [headSpec]; omega) | omega | (dsimp only; omega)), (by first | (simp only [headSpec]; omega) | omega | (dsimp only; omega))⟩) (th_PV hK hH rfl hc_33) rfl rfl hl.1 rfl (lv_room (Nat.le_of_ble_eq_true rfl)) dX5_readAtom_75 ⟨(by first | (simp only [headSpec]; omega) | omega | (dsimp only; omega)), (by first | (simp only [headSpec]; omega) | omega | (dsimp only; omega))⟩) hS (fun σ_s_35 H locs hw_34 hH hS => ?_)
          obtain ⟨hO9, hF9, hw_34⟩ := hw_34
          have e_36 : gI σ_s_35 b 13 = z_30 := (fr.ki hO hF9 h_b (by decide) (by decide) _).trans e_31
          replace hO := hO9
          replace hF := hF.tu hF9 (by decide)
          refine lv_iload_n hx hb dX5_readAtom_78 rfl (lv_at hl 0 rfl) ?_
          refine lv_bipush (v := I 64) hx hb dX5_readAtom_79 (by decide) ?_
          refine lv_icmp_ne (tgt := 92) hx hb dX5_readAtom_81 (by decide) (fun c_37 => ?_) (fun c_37 => ?_)
          · replace c_37 := mt (I_eq (a := z_2) (b := 64) rz_2 (show rng 64 from ⟨by decide, by decide⟩)).mpr c_37
            refine lv_iload_n hx hb dX5_readAtom_92 rfl (lv_at hl 0 rfl) ?_
            refine lv_bipush (v := I 33) hx hb dX5_readAtom_93 (by decide) ?_
            refine lv_icmp_ne (tgt := 115) hx hb dX5_readAtom_95 (by decide) (fun c_38 => ?_) (fun c_38 => ?_)
            · replace c_38 := mt (I_eq (a := z_2) (b := 33) rz_2 (show rng 33 from ⟨by decide, by decide⟩)).mpr c_38
              refine lv_aload_n hx hb dX5_readAtom_115 rfl (lv_at hl 1 rfl) ?_
              refine lv_aload_n hx hb dX5_readAtom_116 rfl (lv_at hl 2 rfl) ?_
              refine lv_iload_n hx hb dX5_readAtom_117 rfl (lv_at hl 3 rfl) ?_
              refine lv_iconst (v := I 1) hx hb dX5_readAtom_118 (by decide) ?_
              refine lv_iadd hx hb dX5_readAtom_119 ?_
              refine nq_top (I_add _ _) ?_
              obtain ⟨_, hc_39⟩ := hO.cell h_a (by decide) (ci := 5) rfl
              refine th_callv (va_runV (As := [.ref b, .int (I (lv + 1))]) (rest := []) ⟨hx, hb, hml, hown, hts⟩ (s_readCond n ih l G y b0 σ_s_35 E hO a h_a b h_b (lv + 1) (show rng (lv + 1) from ⟨by omega, by omega⟩) (by omega) (by omega) (by omega)) (cwV 2 hts gX5_readAtom_X5_readCond rfl rfl rfl (by decide +kernel) ⟨(by first | (simp only [headSpec]; omega) | omega | (dsimp only; omega)), (by first | (simp only [headSpec]; omega) | omega | (dsimp only; omega))⟩) (th_PV hK hH rfl hc_39) rfl rfl hl.1 rfl (lv_room (Nat.le_of_ble_eq_true rfl)) dX5_readAtom_120 ⟨(by first | (simp only [headSpec]; omega) | omega | (dsimp only; omega)), (by first | (simp only [headSpec]; omega) | omega | (dsimp only; omega))⟩) hS (fun σ_s_41 H locs hw_40 hH hS => ?_)
              obtain ⟨hO9, hF9, hw_40⟩ := hw_40
              replace hO := hO9
              replace hF := hF.tu hF9 (by decide)
              refine lv_aload_n hx hb dX5_readAtom_123 rfl (lv_at hl 1 rfl) ?_
              refine ok.getR hO h_a (by decide) k11_0 (by decide) (fun _ _ he hv kk => th_get (ci := 5) (C := RX5) (T := TX5) (N := 1) hx hb hts inX5 hown hK hH he rfl 0 (by decide) fl0 hv dX5_readAtom_124 kk) ?_
              refine lv_bipush (v := I 41) hx hb dX5_readAtom_127 (by decide) ?_
              obtain ⟨_, hc_42⟩ := hO.cell hp_1 (by decide) (ci := 8) rfl
              refine th_callv (va_runV (As := [.int (I 41)]) (rest := []) ⟨hx, hb, hml, hown, hts⟩ (k_expect l G y b0 σ_s_41 E hO (ad E a 0) hp_1 41 (show rng 41 from (show rng 41 from ⟨by decide, by decide⟩))) (cwV 1 hts gX5_readAtom_X8_expect rfl rfl rfl (by decide +kernel) ⟨(by first | (simp only [headSpec]; omega) | omega | (dsimp only; omega)), (by first | (simp only [headSpec]; omega) | omega | (dsimp only; omega))⟩) (th_PV hK hH rfl hc_42) rfl rfl hl.1 rfl (lv_room (Nat.le_of_ble_eq_true rfl)) dX5_readAtom_129 ⟨(by first | (simp only [headSpec]; omega) | omega | (dsimp only; omega)), (by first | (simp only [headSpec]; omega) | omega | (dsimp only; omega))⟩) hS (fun σ_s_44 H locs hw_43 hH hS => ?_)
              obtain ⟨hO9, hF9, hw_43⟩ := hw_43
              replace hO := hO9
              replace hF := hF.tu hF9 (by decide)
              exact th_vret hx hb hr hlocks hH hS ⟨hO, hF, trivial⟩ dX5_readAtom_132
            · replace c_38 := (I_eq (a := z_2) (b := 33) rz_2 (show rng 33 from ⟨by decide, by decide⟩)).mp c_38
              refine lv_aload_n hx hb dX5_readAtom_98 rfl (lv_at hl 1 rfl) ?_
              refine lv_aload_n hx hb dX5_readAtom_99 rfl (lv_at hl 2 rfl) ?_
              refine lv_iload_n hx hb dX5_readAtom_100 rfl (lv_at hl 3 rfl) ?_
              refine lv_iconst (v := I 1) hx hb dX5_readAtom_101 (by decide) ?_
              refine lv_iadd hx hb dX5_readAtom_102 ?_
              refine nq_top (I_add _ _) ?_
              obtain ⟨_, hc_45⟩ := hO.cell h_a (by decide) (ci := 5) rfl
              refine th_callv (va_runV (As := [.ref b, .int (I (lv + 1))]) (rest := []) ⟨hx, hb, hml, hown, hts⟩ (ih l G y b0 σ_s_35 E hO a h_a b h_b (lv + 1) (show rng (lv + 1) from ⟨by omega, by omega⟩) (by omega) (by omega) (by omega)) (cwV 2 hts gX5_readAtom_X5_readAtom rfl rfl rfl (by decide +kernel) ⟨(by first | (simp only [headSpec]; omega) | omega | (dsimp only; omega)), (by first | (simp only [headSpec]; omega) | omega | (dsimp only; omega))⟩) (th_PV hK hH rfl hc_45) rfl rfl hl.1 rfl (lv_room (Nat.le_of_ble_eq_true rfl)) dX5_readAtom_103 ⟨(by first | (simp only [headSpec]; omega) | omega | (dsimp only; omega)), (by first | (simp only [headSpec]; omega) | omega | (dsimp only; omega))⟩) hS (fun σ_s_47 H locs hw_46 hH hS => ?_)
              obtain ⟨hO9, hF9, hw_46⟩ := hw_46
              replace hO := hO9
              replace hF := hF.tu hF9 (by decide)
              refine lv_aload_n hx hb dX5_readAtom_106 rfl (lv_at hl 2 rfl) ?_
              refine lv_bipush (v := I (-4)) hx hb dX5_readAtom_107 (by decide) ?_
              obtain ⟨_, hc_48⟩ := hO.cell h_b (by decide) (ci := 4) rfl
              refine th_callv (va_runV (As := [.int (I (-4))]) (rest := []) ⟨hx, hb, hml, hown, hts⟩ (p_addCode l G y b0 σ_s_47 E hO b h_b (-4) (show rng (-4) from (show rng (-4) from ⟨by decide, by decide⟩))) (cwV 1 hts gX5_readAtom_X4_addCode rfl rfl rfl (by decide +kernel) ⟨(by first | (simp only [headSpec]; omega) | omega | (dsimp only; omega)), (by first | (simp only [headSpec]; omega) | omega | (dsimp only; omega))⟩) (th_PV hK hH rfl hc_48) rfl rfl hl.1 rfl (lv_room (Nat.le_of_ble_eq_true rfl)) dX5_readAtom_109 ⟨(by first | (simp only [headSpec]; omega) | omega | (dsimp only; omega)), (by first | (simp only [headSpec]; omega) | omega | (dsimp only; omega))⟩) hS (fun σ_s_50 H locs hw_49 hH hS => ?_)
              obtain ⟨hO9, hF9, hw_49⟩ := hw_49
              replace hO := hO9
              replace hF := hF.tu hF9 (by decide)
              have hw_49 : gI σ_s_50 b 13 = gI σ_s_47 b 13 := hw_49
              refine lv_goto (tgt := 132) hx hb dX5_readAtom_112 (by decide) ?_
              exact th_vret hx hb hr hlocks hH hS ⟨hO, hF, trivial⟩ dX5_readAtom_132
          · replace c_37 := (I_eq (a := z_2) (b := 64) rz_2 (show rng 64 from ⟨by decide, by decide⟩)).mp c_37
            refine lv_aload_n hx hb dX5_readAtom_84 rfl (lv_at hl 1 rfl) ?_
            refine lv_aload_n hx hb dX5_readAtom_85 rfl (lv_at hl 2 rfl) ?_
            obtain ⟨_, hc_51⟩ := hO.cell h_a (by decide) (ci := 5) rfl
            refine th_callv (va_runV (As := [.ref b]) (rest := []) ⟨hx, hb, hml, hown, hts⟩ (s_readTest l G y b0 σ_s_35 E hO a h_a b h_b) (cwV 1 hts gX5_readAtom_X5_readTest rfl rfl rfl (by decide +kernel) ⟨(by first | (simp only [headSpec]; omega) | omega | (dsimp only; omega)), (by first | (simp only [headSpec]; omega) | omega | (dsimp only; omega))⟩) (th_PV hK hH rfl hc_51) rfl rfl hl.1 rfl (lv_room (Nat.le_of_ble_eq_true rfl)) dX5_readAtom_86 ⟨(by first | (simp only [headSpec]; omega) | omega | (dsimp only; omega)), (by first | (simp only [headSpec]; omega) | omega | (dsimp only; omega))⟩) hS (fun σ_s_53 H locs hw_52 hH hS => ?_)
            obtain ⟨hO9, hF9, hw_52⟩ := hw_52
            replace hO := hO9
            replace hF := hF.tu hF9 (by decide)
            refine lv_goto (tgt := 132) hx hb dX5_readAtom_89 (by decide) ?_
            exact th_vret hx hb hr hlocks hH hS ⟨hO, hF, trivial⟩ dX5_readAtom_132
        · replace c_32 := mt (I_lt (a := z_30) (b := 12) rz_30 (show rng 12 from ⟨by decide, by decide⟩)).mpr c_32
          refine lv_goto (tgt := 60) hx hb dX5_readAtom_52 (by decide) ?_
          refine lv_aload_n hx hb dX5_readAtom_60 rfl (lv_at hl 1 rfl) ?_
          refine ok.getR hO h_a (by decide) k11_0 (by decide) (fun _ _ he hv kk => th_get (ci := 5) (C := RX5) (T := TX5) (N := 1) hx hb hts inX5 hown hK hH he rfl 0 (by decide) fl0 hv dX5_readAtom_61 kk) ?_
          refine lv_iconst (v := I 2) hx hb dX5_readAtom_64 (by decide) ?_
          obtain ⟨_, hc_54⟩ := hO.cell hp_1 (by decide) (ci := 8) rfl
          refine th_callv (va_runV (As := [.int (I 2)]) (rest := []) ⟨hx, hb, hml, hown, hts⟩ (k_fail l G y b0 σ E hO (ad E a 0) hp_1 2 (show rng 2 from (show rng 2 from ⟨by decide, by decide⟩))) (cwV 1 hts gX5_readAtom_X8_fail rfl rfl rfl (by decide +kernel) ⟨(by first | (simp only [headSpec]; omega) | omega | (dsimp only; omega)), (by first | (simp only [headSpec]; omega) | omega | (dsimp only; omega))⟩) (th_PV hK hH rfl hc_54) rfl rfl hl.1 rfl (lv_room (Nat.le_of_ble_eq_true rfl)) dX5_readAtom_65 ⟨(by first | (simp only [headSpec]; omega) | omega | (dsimp only; omega)), (by first | (simp only [headSpec]; omega) | omega | (dsimp only; omega))⟩) hS (fun σ_s_56 H locs hw_55 hH hS => ?_)
          obtain ⟨hO9, hF9, hw_55⟩ := hw_55
          have e_57 : gI σ_s_56 b 13 = z_30 := (fr.ki hO hF9 h_b (by decide) (by decide) _).trans e_31
          replace hO := hO9
          replace hF := hF.tu hF9 (by decide)
          refine lv_goto (tgt := 132) hx hb dX5_readAtom_68 (by decide) ?_
          exact th_vret hx hb hr hlocks hH hS ⟨hO, hF, trivial⟩ dX5_readAtom_132
    · replace c_4 := mt (I_eq (a := z_2) (b := 33) rz_2 (show rng 33 from ⟨by decide, by decide⟩)).mpr c_4
      refine lv_iload_n hx hb dX5_readAtom_14 rfl (lv_at hl 0 rfl) ?_
      refine lv_bipush (v := I 40) hx hb dX5_readAtom_15 (by decide) ?_
      refine lv_icmp_eq (tgt := 37) hx hb dX5_readAtom_17 (by decide) (fun c_58 => ?_) (fun c_58 => ?_)
      · replace c_58 := (I_eq (a := z_2) (b := 40) rz_2 (show rng 40 from ⟨by decide, by decide⟩)).mp c_58
        refine lv_iload_n hx hb dX5_readAtom_37 rfl (lv_at hl 0 rfl) ?_
        refine lv_bipush (v := I 64) hx hb dX5_readAtom_38 (by decide) ?_
        refine lv_icmp_ne (tgt := 55) hx hb dX5_readAtom_40 (by decide) (fun c_59 => ?_) (fun c_59 => ?_)
        · replace c_59 := mt (I_eq (a := z_2) (b := 64) rz_2 (show rng 64 from ⟨by decide, by decide⟩)).mpr c_59
          refine lv_iload_n hx hb dX5_readAtom_55 rfl (lv_at hl 3 rfl) ?_
          refine lv_iconst (v := I 5) hx hb dX5_readAtom_56 (by decide) ?_
          refine lv_icmp_lt (tgt := 71) hx hb dX5_readAtom_57 (by decide) (fun c_60 => ?_) (fun c_60 => ?_)
          · replace c_60 := (I_lt (a := lv) (b := 5) rlv (show rng 5 from ⟨by decide, by decide⟩)).mp c_60
            refine lv_aload_n hx hb dX5_readAtom_71 rfl (lv_at hl 1 rfl) ?_
            refine ok.getR hO h_a (by decide) k11_0 (by decide) (fun _ _ he hv kk => th_get (ci := 5) (C := RX5) (T := TX5) (N := 1) hx hb hts inX5 hown hK hH he rfl 0 (by decide) fl0 hv dX5_readAtom_72 kk) ?_
            obtain ⟨_, hc_61⟩ := hO.cell hp_1 (by decide) (ci := 8) rfl
            refine th_callv (va_runV (As := []) (rest := []) ⟨hx, hb, hml, hown, hts⟩ (k_step l G y b0 σ E hO (ad E a 0) hp_1) (cwV 0 hts gX5_readAtom_X8_step rfl rfl rfl (by decide +kernel) ⟨(by first | (simp only [headSpec]; omega) | omega | (dsimp only; omega)), (by first | (simp only [headSpec]; omega) | omega | (dsimp only; omega))⟩) (th_PV hK hH rfl hc_61) rfl rfl hl.1 rfl (lv_room (Nat.le_of_ble_eq_true rfl)) dX5_readAtom_75 ⟨(by first | (simp only [headSpec]; omega) | omega | (dsimp only; omega)), (by first | (simp only [headSpec]; omega) | omega | (dsimp only; omega))⟩) hS (fun σ_s_63 H locs hw_62 hH hS => ?_)
            obtain ⟨hO9, hF9, hw_62⟩ := hw_62
            replace hO := hO9
            replace hF := hF.tu hF9 (by decide)
            refine lv_iload_n hx hb dX5_readAtom_78 rfl (lv_at hl 0 rfl) ?_
            refine lv_bipush (v := I 64) hx hb dX5_readAtom_79 (by decide) ?_
            refine lv_icmp_ne (tgt := 92) hx hb dX5_readAtom_81 (by decide) (fun c_64 => ?_) (fun c_64 => ?_)
            · replace c_64 := mt (I_eq (a := z_2) (b := 64) rz_2 (show rng 64 from ⟨by decide, by decide⟩)).mpr c_64
              refine lv_iload_n hx hb dX5_readAtom_92 rfl (lv_at hl 0 rfl) ?_
              refine lv_bipush (v := I 33) hx hb dX5_readAtom_93 (by decide) ?_
              refine lv_icmp_ne (tgt := 115) hx hb dX5_readAtom_95 (by decide) (fun c_65 => ?_) (fun c_65 => ?_)
              · replace c_65 := mt (I_eq (a := z_2) (b := 33) rz_2 (show rng 33 from ⟨by decide, by decide⟩)).mpr c_65
                refine lv_aload_n hx hb dX5_readAtom_115 rfl (lv_at hl 1 rfl) ?_
                refine lv_aload_n hx hb dX5_readAtom_116 rfl (lv_at hl 2 rfl) ?_
                refine lv_iload_n hx hb dX5_readAtom_117 rfl (lv_at hl 3 rfl) ?_
                refine lv_iconst (v := I 1) hx hb dX5_readAtom_118 (by decide) ?_
                refine lv_iadd hx hb dX5_readAtom_119 ?_
                refine nq_top (I_add _ _) ?_
                obtain ⟨_, hc_66⟩ := hO.cell h_a (by decide) (ci := 5) rfl
                refine th_callv (va_runV (As := [.ref b, .int (I (lv + 1))]) (rest := []) ⟨hx, hb, hml, hown, hts⟩ (s_readCond n ih l G y b0 σ_s_63 E hO a h_a b h_b (lv + 1) (show rng (lv + 1) from ⟨by omega, by omega⟩) (by omega) (by omega) (by omega)) (cwV 2 hts gX5_readAtom_X5_readCond rfl rfl rfl (by decide +kernel) ⟨(by first | (simp only [headSpec]; omega) | omega | (dsimp only; omega)), (by first | (simp only [headSpec]; omega) | omega | (dsimp only; omega))⟩) (th_PV hK hH rfl hc_66) rfl rfl hl.1 rfl (lv_room (Nat.le_of_ble_eq_true rfl)) dX5_readAtom_120 ⟨(by first | (simp only [headSpec]; omega) | omega | (dsimp only; omega)), (by first | (simp only [headSpec]; omega) | omega | (dsimp only; omega))⟩) hS (fun σ_s_68 H locs hw_67 hH hS => ?_)
                obtain ⟨hO9, hF9, hw_67⟩ := hw_67
                replace hO := hO9
                replace hF := hF.tu hF9 (by decide)
                refine lv_aload_n hx hb dX5_readAtom_123 rfl (lv_at hl 1 rfl) ?_
                refine ok.getR hO h_a (by decide) k11_0 (by decide) (fun _ _ he hv kk => th_get (ci := 5) (C := RX5) (T := TX5) (N := 1) hx hb hts inX5 hown hK hH he rfl 0 (by decide) fl0 hv dX5_readAtom_124 kk) ?_
                refine lv_bipush (v := I 41) hx hb dX5_readAtom_127 (by decide) ?_
                obtain ⟨_, hc_69⟩ := hO.cell hp_1 (by decide) (ci := 8) rfl
                refine th_callv (va_runV (As := [.int (I 41)]) (rest := []) ⟨hx, hb, hml, hown, hts⟩ (k_expect l G y b0 σ_s_68 E hO (ad E a 0) hp_1 41 (show rng 41 from (show rng 41 from ⟨by decide, by decide⟩))) (cwV 1 hts gX5_readAtom_X8_expect rfl rfl rfl (by decide +kernel) ⟨(by first | (simp only [headSpec]; omega) | omega | (dsimp only; omega)), (by first | (simp only [headSpec]; omega) | omega | (dsimp only; omega))⟩) (th_PV hK hH rfl hc_69) rfl rfl hl.1 rfl (lv_room (Nat.le_of_ble_eq_true rfl)) dX5_readAtom_129 ⟨(by first | (simp only [headSpec]; omega) | omega | (dsimp only; omega)), (by first | (simp only [headSpec]; omega) | omega | (dsimp only; omega))⟩) hS (fun σ_s_71 H locs hw_70 hH hS => ?_)
                obtain ⟨hO9, hF9, hw_70⟩ := hw_70
                replace hO := hO9
                replace hF := hF.tu hF9 (by decide)
                exact th_vret hx hb hr hlocks hH hS ⟨hO, hF, trivial⟩ dX5_readAtom_132
              · replace c_65 := (I_eq (a := z_2) (b := 33) rz_2 (show rng 33 from ⟨by decide, by decide⟩)).mp c_65
                refine lv_aload_n hx hb dX5_readAtom_98 rfl (lv_at hl 1 rfl) ?_
                refine lv_aload_n hx hb dX5_readAtom_99 rfl (lv_at hl 2 rfl) ?_
                refine lv_iload_n hx hb dX5_readAtom_100 rfl (lv_at hl 3 rfl) ?_
                refine lv_iconst (v := I 1) hx hb dX5_readAtom_101 (by decide) ?_
                refine lv_iadd hx hb dX5_readAtom_102 ?_
                refine nq_top (I_add _ _) ?_
                obtain ⟨_, hc_72⟩ := hO.cell h_a (by decide) (ci := 5) rfl
                refine th_callv (va_runV (As := [.ref b, .int (I (lv + 1))]) (rest := []) ⟨hx, hb, hml, hown, hts⟩ (ih l G y b0 σ_s_63 E hO a h_a b h_b (lv + 1) (show rng (lv + 1) from ⟨by omega, by omega⟩) (by omega) (by omega) (by omega)) (cwV 2 hts gX5_readAtom_X5_readAtom rfl rfl rfl (by decide +kernel) ⟨(by first | (simp only [headSpec]; omega) | omega | (dsimp only; omega)), (by first | (simp only [headSpec]; omega) | omega | (dsimp only; omega))⟩) (th_PV hK hH rfl hc_72) rfl rfl hl.1 rfl (lv_room (Nat.le_of_ble_eq_true rfl)) dX5_readAtom_103 ⟨(by first | (simp only [headSpec]; omega) | omega | (dsimp only; omega)), (by first | (simp only [headSpec]; omega) | omega | (dsimp only; omega))⟩) hS (fun σ_s_74 H locs hw_73 hH hS => ?_)
                obtain ⟨hO9, hF9, hw_73⟩ := hw_73
                replace hO := hO9
                replace hF := hF.tu hF9 (by decide)
                refine lv_aload_n hx hb dX5_readAtom_106 rfl (lv_at hl 2 rfl) ?_
                refine lv_bipush (v := I (-4)) hx hb dX5_readAtom_107 (by decide) ?_
                obtain ⟨_, hc_75⟩ := hO.cell h_b (by decide) (ci := 4) rfl
                refine th_callv (va_runV (As := [.int (I (-4))]) (rest := []) ⟨hx, hb, hml, hown, hts⟩ (p_addCode l G y b0 σ_s_74 E hO b h_b (-4) (show rng (-4) from (show rng (-4) from ⟨by decide, by decide⟩))) (cwV 1 hts gX5_readAtom_X4_addCode rfl rfl rfl (by decide +kernel) ⟨(by first | (simp only [headSpec]; omega) | omega | (dsimp only; omega)), (by first | (simp only [headSpec]; omega) | omega | (dsimp only; omega))⟩) (th_PV hK hH rfl hc_75) rfl rfl hl.1 rfl (lv_room (Nat.le_of_ble_eq_true rfl)) dX5_readAtom_109 ⟨(by first | (simp only [headSpec]; omega) | omega | (dsimp only; omega)), (by first | (simp only [headSpec]; omega) | omega | (dsimp only; omega))⟩) hS (fun σ_s_77 H locs hw_76 hH hS => ?_)
                obtain ⟨hO9, hF9, hw_76⟩ := hw_76
                replace hO := hO9
                replace hF := hF.tu hF9 (by decide)
                have hw_76 : gI σ_s_77 b 13 = gI σ_s_74 b 13 := hw_76
                refine lv_goto (tgt := 132) hx hb dX5_readAtom_112 (by decide) ?_
                exact th_vret hx hb hr hlocks hH hS ⟨hO, hF, trivial⟩ dX5_readAtom_132
            · replace c_64 := (I_eq (a := z_2) (b := 64) rz_2 (show rng 64 from ⟨by decide, by decide⟩)).mp c_64
              refine lv_aload_n hx hb dX5_readAtom_84 rfl (lv_at hl 1 rfl) ?_
              refine lv_aload_n hx hb dX5_readAtom_85 rfl (lv_at hl 2 rfl) ?_
              obtain ⟨_, hc_78⟩ := hO.cell h_a (by decide) (ci := 5) rfl
              refine th_callv (va_runV (As := [.ref b]) (rest := []) ⟨hx, hb, hml, hown, hts⟩ (s_readTest l G y b0 σ_s_63 E hO a h_a b h_b) (cwV 1 hts gX5_readAtom_X5_readTest rfl rfl rfl (by decide +kernel) ⟨(by first | (simp only [headSpec]; omega) | omega | (dsimp only; omega)), (by first | (simp only [headSpec]; omega) | omega | (dsimp only; omega))⟩) (th_PV hK hH rfl hc_78) rfl rfl hl.1 rfl (lv_room (Nat.le_of_ble_eq_true rfl)) dX5_readAtom_86 ⟨(by first | (simp only [headSpec]; omega) | omega | (dsimp only; omega)), (by first | (simp only [headSpec]; omega) | omega | (dsimp only; omega))⟩) hS (fun σ_s_80 H locs hw_79 hH hS => ?_)
              obtain ⟨hO9, hF9, hw_79⟩ := hw_79
              replace hO := hO9
              replace hF := hF.tu hF9 (by decide)
              refine lv_goto (tgt := 132) hx hb dX5_readAtom_89 (by decide) ?_
              exact th_vret hx hb hr hlocks hH hS ⟨hO, hF, trivial⟩ dX5_readAtom_132
          · replace c_60 := mt (I_lt (a := lv) (b := 5) rlv (show rng 5 from ⟨by decide, by decide⟩)).mpr c_60
            refine lv_aload_n hx hb dX5_readAtom_60 rfl (lv_at hl 1 rfl) ?_
            refine ok.getR hO h_a (by decide) k11_0 (by decide) (fun _ _ he hv kk => th_get (ci := 5) (C := RX5) (T := TX5) (N := 1) hx hb hts inX5 hown hK hH he rfl 0 (by decide) fl0 hv dX5_readAtom_61 kk) ?_
            refine lv_iconst (v := I 2) hx hb dX5_readAtom_64 (by decide) ?_
            obtain ⟨_, hc_81⟩ := hO.cell hp_1 (by decide) (ci := 8) rfl
            refine th_callv (va_runV (As := [.int (I 2)]) (rest := []) ⟨hx, hb, hml, hown, hts⟩ (k_fail l G y b0 σ E hO (ad E a 0) hp_1 2 (show rng 2 from (show rng 2 from ⟨by decide, by decide⟩))) (cwV 1 hts gX5_readAtom_X8_fail rfl rfl rfl (by decide +kernel) ⟨(by first | (simp only [headSpec]; omega) | omega | (dsimp only; omega)), (by first | (simp only [headSpec]; omega) | omega | (dsimp only; omega))⟩) (th_PV hK hH rfl hc_81) rfl rfl hl.1 rfl (lv_room (Nat.le_of_ble_eq_true rfl)) dX5_readAtom_65 ⟨(by first | (simp only [headSpec]; omega) | omega | (dsimp only; omega)), (by first | (simp only [headSpec]; omega) | omega | (dsimp only; omega))⟩) hS (fun σ_s_83 H locs hw_82 hH hS => ?_)
            obtain ⟨hO9, hF9, hw_82⟩ := hw_82
            replace hO := hO9
            replace hF := hF.tu hF9 (by decide)
            refine lv_goto (tgt := 132) hx hb dX5_readAtom_68 (by decide) ?_
            exact th_vret hx hb hr hlocks hH hS ⟨hO, hF, trivial⟩ dX5_readAtom_132
        · replace c_59 := (I_eq (a := z_2) (b := 64) rz_2 (show rng 64 from ⟨by decide, by decide⟩)).mp c_59
          refine lv_aload_n hx hb dX5_readAtom_43 rfl (lv_at hl 2 rfl) ?_
          refine ok.getI hO h_b (by decide) k4_13 (fun _ _ he hv kk => th_getN (ci := 4) (C := RX4) (T := TX4) (N := 14) hx hb hts inX4 hown hK hH he rfl 13 (by decide) (nl_3 hK) hv dX5_readAtom_44 kk) (fun z_84 e_85 rz_84 lz_84 uz_84 => ?_)
          refine lv_bipush (v := I 12) hx hb dX5_readAtom_47 (by decide) ?_
          refine lv_icmp_lt (tgt := 71) hx hb dX5_readAtom_49 (by decide) (fun c_86 => ?_) (fun c_86 => ?_)
          · replace c_86 := (I_lt (a := z_84) (b := 12) rz_84 (show rng 12 from ⟨by decide, by decide⟩)).mp c_86
            refine lv_aload_n hx hb dX5_readAtom_71 rfl (lv_at hl 1 rfl) ?_
            refine ok.getR hO h_a (by decide) k11_0 (by decide) (fun _ _ he hv kk => th_get (ci := 5) (C := RX5) (T := TX5) (N := 1) hx hb hts inX5 hown hK hH he rfl 0 (by decide) fl0 hv dX5_readAtom_72 kk) ?_
            obtain ⟨_, hc_87⟩ := hO.cell hp_1 (by decide) (ci := 8) rfl
            refine th_callv (va_runV (As := []) (rest := []) ⟨hx, hb, hml, hown, hts⟩ (k_step l G y b0 σ E hO (ad E a 0) hp_1) (cwV 0 hts gX5_readAtom_X8_step rfl rfl rfl (by decide +kernel) ⟨(by first | (simp only [headSpec]; omega) | omega | (dsimp only; omega)), (by first | (simp only [headSpec]; omega) | omega | (dsimp only; omega))⟩) (th_PV hK hH rfl hc_87) rfl rfl hl.1 rfl (lv_room (Nat.le_of_ble_eq_true rfl)) dX5_readAtom_75 ⟨(by first | (simp only [headSpec]; omega) | omega | (dsimp only; omega)), (by first | (simp only [headSpec]; omega) | omega | (dsimp only; omega))⟩) hS (fun σ_s_89 H locs hw_88 hH hS => ?_)
            obtain ⟨hO9, hF9, hw_88⟩ := hw_88
            have e_90 : gI σ_s_89 b 13 = z_84 := (fr.ki hO hF9 h_b (by decide) (by decide) _).trans e_85
            replace hO := hO9
            replace hF := hF.tu hF9 (by decide)
            refine lv_iload_n hx hb dX5_readAtom_78 rfl (lv_at hl 0 rfl) ?_
            refine lv_bipush (v := I 64) hx hb dX5_readAtom_79 (by decide) ?_
            refine lv_icmp_ne (tgt := 92) hx hb dX5_readAtom_81 (by decide) (fun c_91 => ?_) (fun c_91 => ?_)
            · replace c_91 := mt (I_eq (a := z_2) (b := 64) rz_2 (show rng 64 from ⟨by decide, by decide⟩)).mpr c_91
              refine lv_iload_n hx hb dX5_readAtom_92 rfl (lv_at hl 0 rfl) ?_
              refine lv_bipush (v := I 33) hx hb dX5_readAtom_93 (by decide) ?_
              refine lv_icmp_ne (tgt := 115) hx hb dX5_readAtom_95 (by decide) (fun c_92 => ?_) (fun c_92 => ?_)
              · replace c_92 := mt (I_eq (a := z_2) (b := 33) rz_2 (show rng 33 from ⟨by decide, by decide⟩)).mpr c_92
                refine lv_aload_n hx hb dX5_readAtom_115 rfl (lv_at hl 1 rfl) ?_
                refine lv_aload_n hx hb dX5_readAtom_116 rfl (lv_at hl 2 rfl) ?_
                refine lv_iload_n hx hb dX5_readAtom_117 rfl (lv_at hl 3 rfl) ?_
                refine lv_iconst (v := I 1) hx hb dX5_readAtom_118 (by decide) ?_
                refine lv_iadd hx hb dX5_readAtom_119 ?_
                refine nq_top (I_add _ _) ?_
                obtain ⟨_, hc_93⟩ := hO.cell h_a (by decide) (ci := 5) rfl
                refine th_callv (va_runV (As := [.ref b, .int (I (lv + 1))]) (rest := []) ⟨hx, hb, hml, hown, hts⟩ (s_readCond n ih l G y b0 σ_s_89 E hO a h_a b h_b (lv + 1) (show rng (lv + 1) from ⟨by omega, by omega⟩) (by omega) (by omega) (by omega)) (cwV 2 hts gX5_readAtom_X5_readCond rfl rfl rfl (by decide +kernel) ⟨(by first | (simp only [headSpec]; omega) | omega | (dsimp only; omega)), (by first | (simp only [headSpec]; omega) | omega | (dsimp only; omega))⟩) (th_PV hK hH rfl hc_93) rfl rfl hl.1 rfl (lv_room (Nat.le_of_ble_eq_true rfl)) dX5_readAtom_120 ⟨(by first | (simp only [headSpec]; omega) | omega | (dsimp only; omega)), (by first | (simp only [headSpec]; omega) | omega | (dsimp only; omega))⟩) hS (fun σ_s_95 H locs hw_94 hH hS => ?_)
                obtain ⟨hO9, hF9, hw_94⟩ := hw_94
                replace hO := hO9
                replace hF := hF.tu hF9 (by decide)
                refine lv_aload_n hx hb dX5_readAtom_123 rfl (lv_at hl 1 rfl) ?_
                refine ok.getR hO h_a (by decide) k11_0 (by decide) (fun _ _ he hv kk => th_get (ci := 5) (C := RX5) (T := TX5) (N := 1) hx hb hts inX5 hown hK hH he rfl 0 (by decide) fl0 hv dX5_readAtom_124 kk) ?_
                refine lv_bipush (v := I 41) hx hb dX5_readAtom_127 (by decide) ?_
                obtain ⟨_, hc_96⟩ := hO.cell hp_1 (by decide) (ci := 8) rfl
                refine th_callv (va_runV (As := [.int (I 41)]) (rest := []) ⟨hx, hb, hml, hown, hts⟩ (k_expect l G y b0 σ_s_95 E hO (ad E a 0) hp_1 41 (show rng 41 from (show rng 41 from ⟨by decide, by decide⟩))) (cwV 1 hts gX5_readAtom_X8_expect rfl rfl rfl (by decide +kernel) ⟨(by first | (simp only [headSpec]; omega) | omega | (dsimp only; omega)), (by first | (simp only [headSpec]; omega) | omega | (dsimp only; omega))⟩) (th_PV hK hH rfl hc_96) rfl rfl hl.1 rfl (lv_room (Nat.le_of_ble_eq_true rfl)) dX5_readAtom_129 ⟨(by first | (simp only [headSpec]; omega) | omega | (dsimp only; omega)), (by first | (simp only [headSpec]; omega) | omega | (dsimp only; omega))⟩) hS (fun σ_s_98 H locs hw_97 hH hS => ?_)
                obtain ⟨hO9, hF9, hw_97⟩ := hw_97
                replace hO := hO9
                replace hF := hF.tu hF9 (by decide)
                exact th_vret hx hb hr hlocks hH hS ⟨hO, hF, trivial⟩ dX5_readAtom_132
              · replace c_92 := (I_eq (a := z_2) (b := 33) rz_2 (show rng 33 from ⟨by decide, by decide⟩)).mp c_92
                refine lv_aload_n hx hb dX5_readAtom_98 rfl (lv_at hl 1 rfl) ?_
                refine lv_aload_n hx hb dX5_readAtom_99 rfl (lv_at hl 2 rfl) ?_
                refine lv_iload_n hx hb dX5_readAtom_100 rfl (lv_at hl 3 rfl) ?_
                refine lv_iconst (v := I 1) hx hb dX5_readAtom_101 (by decide) ?_
                refine lv_iadd hx hb dX5_readAtom_102 ?_
                refine nq_top (I_add _ _) ?_
                obtain ⟨_, hc_99⟩ := hO.cell h_a (by decide) (ci := 5) rfl
                refine th_callv (va_runV (As := [.ref b, .int (I (lv + 1))]) (rest := []) ⟨hx, hb, hml, hown, hts⟩ (ih l G y b0 σ_s_89 E hO a h_a b h_b (lv + 1) (show rng (lv + 1) from ⟨by omega, by omega⟩) (by omega) (by omega) (by omega)) (cwV 2 hts gX5_readAtom_X5_readAtom rfl rfl rfl (by decide +kernel) ⟨(by first | (simp only [headSpec]; omega) | omega | (dsimp only; omega)), (by first | (simp only [headSpec]; omega) | omega | (dsimp only; omega))⟩) (th_PV hK hH rfl hc_99) rfl rfl hl.1 rfl (lv_room (Nat.le_of_ble_eq_true rfl)) dX5_readAtom_103 ⟨(by first | (simp only [headSpec]; omega) | omega | (dsimp only; omega)), (by first | (simp only [headSpec]; omega) | omega | (dsimp only; omega))⟩) hS (fun σ_s_101 H locs hw_100 hH hS => ?_)
                obtain ⟨hO9, hF9, hw_100⟩ := hw_100
                replace hO := hO9
                replace hF := hF.tu hF9 (by decide)
                refine lv_aload_n hx hb dX5_readAtom_106 rfl (lv_at hl 2 rfl) ?_
                refine lv_bipush (v := I (-4)) hx hb dX5_readAtom_107 (by decide) ?_
                obtain ⟨_, hc_102⟩ := hO.cell h_b (by decide) (ci := 4) rfl
                refine th_callv (va_runV (As := [.int (I (-4))]) (rest := []) ⟨hx, hb, hml, hown, hts⟩ (p_addCode l G y b0 σ_s_101 E hO b h_b (-4) (show rng (-4) from (show rng (-4) from ⟨by decide, by decide⟩))) (cwV 1 hts gX5_readAtom_X4_addCode rfl rfl rfl (by decide +kernel) ⟨(by first | (simp only [headSpec]; omega) | omega | (dsimp only; omega)), (by first | (simp only [headSpec]; omega) | omega | (dsimp only; omega))⟩) (th_PV hK hH rfl hc_102) rfl rfl hl.1 rfl (lv_room (Nat.le_of_ble_eq_true rfl)) dX5_readAtom_109 ⟨(by first | (simp only [headSpec]; omega) | omega | (dsimp only; omega)), (by first | (simp only [headSpec]; omega) | omega | (dsimp only; omega))⟩) hS (fun σ_s_104 H locs hw_103 hH hS => ?_)
                obtain ⟨hO9, hF9, hw_103⟩ := hw_103
                replace hO := hO9
                replace hF := hF.tu hF9 (by decide)
                have hw_103 : gI σ_s_104 b 13 = gI σ_s_101 b 13 := hw_103
                refine lv_goto (tgt := 132) hx hb dX5_readAtom_112 (by decide) ?_
                exact th_vret hx hb hr hlocks hH hS ⟨hO, hF, trivial⟩ dX5_readAtom_132
            · replace c_91 := (I_eq (a := z_2) (b := 64) rz_2 (show rng 64 from ⟨by decide, by decide⟩)).mp c_91
              refine lv_aload_n hx hb dX5_readAtom_84 rfl (lv_at hl 1 rfl) ?_
              refine lv_aload_n hx hb dX5_readAtom_85 rfl (lv_at hl 2 rfl) ?_
              obtain ⟨_, hc_105⟩ := hO.cell h_a (by decide) (ci := 5) rfl
              refine th_callv (va_runV (As := [.ref b]) (rest := []) ⟨hx, hb, hml, hown, hts⟩ (s_readTest l G y b0 σ_s_89 E hO a h_a b h_b) (cwV 1 hts gX5_readAtom_X5_readTest rfl rfl rfl (by decide +kernel) ⟨(by first | (simp only [headSpec]; omega) | omega | (dsimp only; omega)), (by first | (simp only [headSpec]; omega) | omega | (dsimp only; omega))⟩) (th_PV hK hH rfl hc_105) rfl rfl hl.1 rfl (lv_room (Nat.le_of_ble_eq_true rfl)) dX5_readAtom_86 ⟨(by first | (simp only [headSpec]; omega) | omega | (dsimp only; omega)), (by first | (simp only [headSpec]; omega) | omega | (dsimp only; omega))⟩) hS (fun σ_s_107 H locs hw_106 hH hS => ?_)
              obtain ⟨hO9, hF9, hw_106⟩ := hw_106
              replace hO := hO9
              replace hF := hF.tu hF9 (by decide)
              refine lv_goto (tgt := 132) hx hb dX5_readAtom_89 (by decide) ?_
              exact th_vret hx hb hr hlocks hH hS ⟨hO, hF, trivial⟩ dX5_readAtom_132
          · replace c_86 := mt (I_lt (a := z_84) (b := 12) rz_84 (show rng 12 from ⟨by decide, by decide⟩)).mpr c_86
            refine lv_goto (tgt := 60) hx hb dX5_readAtom_52 (by decide) ?_
            refine lv_aload_n hx hb dX5_readAtom_60 rfl (lv_at hl 1 rfl) ?_
            refine ok.getR hO h_a (by decide) k11_0 (by decide) (fun _ _ he hv kk => th_get (ci := 5) (C := RX5) (T := TX5) (N := 1) hx hb hts inX5 hown hK hH he rfl 0 (by decide) fl0 hv dX5_readAtom_61 kk) ?_
            refine lv_iconst (v := I 2) hx hb dX5_readAtom_64 (by decide) ?_
            obtain ⟨_, hc_108⟩ := hO.cell hp_1 (by decide) (ci := 8) rfl
            refine th_callv (va_runV (As := [.int (I 2)]) (rest := []) ⟨hx, hb, hml, hown, hts⟩ (k_fail l G y b0 σ E hO (ad E a 0) hp_1 2 (show rng 2 from (show rng 2 from ⟨by decide, by decide⟩))) (cwV 1 hts gX5_readAtom_X8_fail rfl rfl rfl (by decide +kernel) ⟨(by first | (simp only [headSpec]; omega) | omega | (dsimp only; omega)), (by first | (simp only [headSpec]; omega) | omega | (dsimp only; omega))⟩) (th_PV hK hH rfl hc_108) rfl rfl hl.1 rfl (lv_room (Nat.le_of_ble_eq_true rfl)) dX5_readAtom_65 ⟨(by first | (simp only [headSpec]; omega) | omega | (dsimp only; omega)), (by first | (simp only [headSpec]; omega) | omega | (dsimp only; omega))⟩) hS (fun σ_s_110 H locs hw_109 hH hS => ?_)
            obtain ⟨hO9, hF9, hw_109⟩ := hw_109
            have e_111 : gI σ_s_110 b 13 = z_84 := (fr.ki hO hF9 h_b (by decide) (by decide) _).trans e_85
            replace hO := hO9
            replace hF := hF.tu hF9 (by decide)
            refine lv_goto (tgt := 132) hx hb dX5_readAtom_68 (by decide) ?_
            exact th_vret hx hb hr hlocks hH hS ⟨hO, hF, trivial⟩ dX5_readAtom_132
      · replace c_58 := mt (I_eq (a := z_2) (b := 40) rz_2 (show rng 40 from ⟨by decide, by decide⟩)).mpr c_58
        refine lv_iload_n hx hb dX5_readAtom_20 rfl (lv_at hl 0 rfl) ?_
        refine lv_bipush (v := I 64) hx hb dX5_readAtom_21 (by decide) ?_
        refine lv_icmp_eq (tgt := 37) hx hb dX5_readAtom_23 (by decide) (fun c_112 => ?_) (fun c_112 => ?_)
        · replace c_112 := (I_eq (a := z_2) (b := 64) rz_2 (show rng 64 from ⟨by decide, by decide⟩)).mp c_112
          refine lv_iload_n hx hb dX5_readAtom_37 rfl (lv_at hl 0 rfl) ?_
          refine lv_bipush (v := I 64) hx hb dX5_readAtom_38 (by decide) ?_
          refine lv_icmp_ne (tgt := 55) hx hb dX5_readAtom_40 (by decide) (fun c_113 => ?_) (fun c_113 => ?_)
          · replace c_113 := mt (I_eq (a := z_2) (b := 64) rz_2 (show rng 64 from ⟨by decide, by decide⟩)).mpr c_113
            refine lv_iload_n hx hb dX5_readAtom_55 rfl (lv_at hl 3 rfl) ?_
            refine lv_iconst (v := I 5) hx hb dX5_readAtom_56 (by decide) ?_
            refine lv_icmp_lt (tgt := 71) hx hb dX5_readAtom_57 (by decide) (fun c_114 => ?_) (fun c_114 => ?_)
            · replace c_114 := (I_lt (a := lv) (b := 5) rlv (show rng 5 from ⟨by decide, by decide⟩)).mp c_114
              refine lv_aload_n hx hb dX5_readAtom_71 rfl (lv_at hl 1 rfl) ?_
              refine ok.getR hO h_a (by decide) k11_0 (by decide) (fun _ _ he hv kk => th_get (ci := 5) (C := RX5) (T := TX5) (N := 1) hx hb hts inX5 hown hK hH he rfl 0 (by decide) fl0 hv dX5_readAtom_72 kk) ?_
              obtain ⟨_, hc_115⟩ := hO.cell hp_1 (by decide) (ci := 8) rfl
              refine th_callv (va_runV (As := []) (rest := []) ⟨hx, hb, hml, hown, hts⟩ (k_step l G y b0 σ E hO (ad E a 0) hp_1) (cwV 0 hts gX5_readAtom_X8_step rfl rfl rfl (by decide +kernel) ⟨(by first | (simp only [headSpec]; omega) | omega | (dsimp only; omega)), (by first | (simp only [headSpec]; omega) | omega | (dsimp only; omega))⟩) (th_PV hK hH rfl hc_115) rfl rfl hl.1 rfl (lv_room (Nat.le_of_ble_eq_true rfl)) dX5_readAtom_75 ⟨(by first | (simp only [headSpec]; omega) | omega | (dsimp only; omega)), (by first | (simp only [headSpec]; omega) | omega | (dsimp only; omega))⟩) hS (fun σ_s_117 H locs hw_116 hH hS => ?_)
              obtain ⟨hO9, hF9, hw_116⟩ := hw_116
              replace hO := hO9
              replace hF := hF.tu hF9 (by decide)
              refine lv_iload_n hx hb dX5_readAtom_78 rfl (lv_at hl 0 rfl) ?_
              refine lv_bipush (v := I 64) hx hb dX5_readAtom_79 (by decide) ?_
              refine lv_icmp_ne (tgt := 92) hx hb dX5_readAtom_81 (by decide) (fun c_118 => ?_) (fun c_118 => ?_)
              · replace c_118 := mt (I_eq (a := z_2) (b := 64) rz_2 (show rng 64 from ⟨by decide, by decide⟩)).mpr c_118
                refine lv_iload_n hx hb dX5_readAtom_92 rfl (lv_at hl 0 rfl) ?_
                refine lv_bipush (v := I 33) hx hb dX5_readAtom_93 (by decide) ?_
                refine lv_icmp_ne (tgt := 115) hx hb dX5_readAtom_95 (by decide) (fun c_119 => ?_) (fun c_119 => ?_)
                · replace c_119 := mt (I_eq (a := z_2) (b := 33) rz_2 (show rng 33 from ⟨by decide, by decide⟩)).mpr c_119
                  refine lv_aload_n hx hb dX5_readAtom_115 rfl (lv_at hl 1 rfl) ?_
                  refine lv_aload_n hx hb dX5_readAtom_116 rfl (lv_at hl 2 rfl) ?_
                  refine lv_iload_n hx hb dX5_readAtom_117 rfl (lv_at hl 3 rfl) ?_
                  refine lv_iconst (v := I 1) hx hb dX5_readAtom_118 (by decide) ?_
                  refine lv_iadd hx hb dX5_readAtom_119 ?_
                  refine nq_top (I_add _ _) ?_
                  obtain ⟨_, hc_120⟩ := hO.cell h_a (by decide) (ci := 5) rfl
                  refine th_callv (va_runV (As := [.ref b, .int (I (lv + 1))]) (rest := []) ⟨hx, hb, hml, hown, hts⟩ (s_readCond n ih l G y b0 σ_s_117 E hO a h_a b h_b (lv + 1) (show rng (lv + 1) from ⟨by omega, by omega⟩) (by omega) (by omega) (by omega)) (cwV 2 hts gX5_readAtom_X5_readCond rfl rfl rfl (by decide +kernel) ⟨(by first | (simp only [headSpec]; omega) | omega | (dsimp only; omega)), (by first | (simp only [headSpec]; omega) | omega | (dsimp only; omega))⟩) (th_PV hK hH rfl hc_120) rfl rfl hl.1 rfl (lv_room (Nat.le_of_ble_eq_true rfl)) dX5_readAtom_120 ⟨(by first | (simp only [headSpec]; omega) | omega | (dsimp only; omega)), (by first | (simp only [headSpec]; omega) | omega | (dsimp only; omega))⟩) hS (fun σ_s_122 H locs hw_121 hH hS => ?_)
                  obtain ⟨hO9, hF9, hw_121⟩ := hw_121
                  replace hO := hO9
                  replace hF := hF.tu hF9 (by decide)
                  refine lv_aload_n hx hb dX5_readAtom_123 rfl (lv_at hl 1 rfl) ?_
                  refine ok.getR hO h_a (by decide) k11_0 (by decide) (fun _ _ he hv kk => th_get (ci := 5) (C := RX5) (T := TX5) (N := 1) hx hb hts inX5 hown hK hH he rfl 0 (by decide) fl0 hv dX5_readAtom_124 kk) ?_
                  refine lv_bipush (v := I 41) hx hb dX5_readAtom_127 (by decide) ?_
                  obtain ⟨_, hc_123⟩ := hO.cell hp_1 (by decide) (ci := 8) rfl
                  refine th_callv (va_runV (As := [.int (I 41)]) (rest := []) ⟨hx, hb, hml, hown, hts⟩ (k_expect l G y b0 σ_s_122 E hO (ad E a 0) hp_1 41 (show rng 41 from (show rng 41 from ⟨by decide, by decide⟩))) (cwV 1 hts gX5_readAtom_X8_expect rfl rfl rfl (by decide +kernel) ⟨(by first | (simp only [headSpec]; omega) | omega | (dsimp only; omega)), (by first | (simp only [headSpec]; omega) | omega | (dsimp only; omega))⟩) (th_PV hK hH rfl hc_123) rfl rfl hl.1 rfl (lv_room (Nat.le_of_ble_eq_true rfl)) dX5_readAtom_129 ⟨(by first | (simp only [headSpec]; omega) | omega | (dsimp only; omega)), (by first | (simp only [headSpec]; omega) | omega | (dsimp only; omega))⟩) hS (fun σ_s_125 H locs hw_124 hH hS => ?_)
                  obtain ⟨hO9, hF9, hw_124⟩ := hw_124
                  replace hO := hO9
                  replace hF := hF.tu hF9 (by decide)
                  exact th_vret hx hb hr hlocks hH hS ⟨hO, hF, trivial⟩ dX5_readAtom_132
                · replace c_119 := (I_eq (a := z_2) (b := 33) rz_2 (show rng 33 from ⟨by decide, by decide⟩)).mp c_119
                  refine lv_aload_n hx hb dX5_readAtom_98 rfl (lv_at hl 1 rfl) ?_
                  refine lv_aload_n hx hb dX5_readAtom_99 rfl (lv_at hl 2 rfl) ?_
                  refine lv_iload_n hx hb dX5_readAtom_100 rfl (lv_at hl 3 rfl) ?_
                  refine lv_iconst (v := I 1) hx hb dX5_readAtom_101 (by decide) ?_
                  refine lv_iadd hx hb dX5_readAtom_102 ?_
                  refine nq_top (I_add _ _) ?_
                  obtain ⟨_, hc_126⟩ := hO.cell h_a (by decide) (ci := 5) rfl
                  refine th_callv (va_runV (As := [.ref b, .int (I (lv + 1))]) (rest := []) ⟨hx, hb, hml, hown, hts⟩ (ih l G y b0 σ_s_117 E hO a h_a b h_b (lv + 1) (show rng (lv + 1) from ⟨by omega, by omega⟩) (by omega) (by omega) (by omega)) (cwV 2 hts gX5_readAtom_X5_readAtom rfl rfl rfl (by decide +kernel) ⟨(by first | (simp only [headSpec]; omega) | omega | (dsimp only; omega)), (by first | (simp only [headSpec]; omega) | omega | (dsimp only; omega))⟩) (th_PV hK hH rfl hc_126) rfl rfl hl.1 rfl (lv_room (Nat.le_of_ble_eq_true rfl)) dX5_readAtom_103 ⟨(by first | (simp only [headSpec]; omega) | omega | (dsimp only; omega)), (by first | (simp only [headSpec]; omega) | omega | (dsimp only; omega))⟩) hS (fun σ_s_128 H locs hw_127 hH hS => ?_)
                  obtain ⟨hO9, hF9, hw_127⟩ := hw_127
                  replace hO := hO9
                  replace hF := hF.tu hF9 (by decide)
                  refine lv_aload_n hx hb dX5_readAtom_106 rfl (lv_at hl 2 rfl) ?_
                  refine lv_bipush (v := I (-4)) hx hb dX5_readAtom_107 (by decide) ?_
                  obtain ⟨_, hc_129⟩ := hO.cell h_b (by decide) (ci := 4) rfl
                  refine th_callv (va_runV (As := [.int (I (-4))]) (rest := []) ⟨hx, hb, hml, hown, hts⟩ (p_addCode l G y b0 σ_s_128 E hO b h_b (-4) (show rng (-4) from (show rng (-4) from ⟨by decide, by decide⟩))) (cwV 1 hts gX5_readAtom_X4_addCode rfl rfl rfl (by decide +kernel) ⟨(by first | (simp only [headSpec]; omega) | omega | (dsimp only; omega)), (by first | (simp only [headSpec]; omega) | omega | (dsimp only; omega))⟩) (th_PV hK hH rfl hc_129) rfl rfl hl.1 rfl (lv_room (Nat.le_of_ble_eq_true rfl)) dX5_readAtom_109 ⟨(by first | (simp only [headSpec]; omega) | omega | (dsimp only; omega)), (by first | (simp only [headSpec]; omega) | omega | (dsimp only; omega))⟩) hS (fun σ_s_131 H locs hw_130 hH hS => ?_)
                  obtain ⟨hO9, hF9, hw_130⟩ := hw_130
                  replace hO := hO9
                  replace hF := hF.tu hF9 (by decide)
                  have hw_130 : gI σ_s_131 b 13 = gI σ_s_128 b 13 := hw_130
                  refine lv_goto (tgt := 132) hx hb dX5_readAtom_112 (by decide) ?_
                  exact th_vret hx hb hr hlocks hH hS ⟨hO, hF, trivial⟩ dX5_readAtom_132
              · replace c_118 := (I_eq (a := z_2) (b := 64) rz_2 (show rng 64 from ⟨by decide, by decide⟩)).mp c_118
                refine lv_aload_n hx hb dX5_readAtom_84 rfl (lv_at hl 1 rfl) ?_
                refine lv_aload_n hx hb dX5_readAtom_85 rfl (lv_at hl 2 rfl) ?_
                obtain ⟨_, hc_132⟩ := hO.cell h_a (by decide) (ci := 5) rfl
                refine th_callv (va_runV (As := [.ref b]) (rest := []) ⟨hx, hb, hml, hown, hts⟩ (s_readTest l G y b0 σ_s_117 E hO a h_a b h_b) (cwV 1 hts gX5_readAtom_X5_readTest rfl rfl rfl (by decide +kernel) ⟨(by first | (simp only [headSpec]; omega) | omega | (dsimp only; omega)), (by first | (simp only [headSpec]; omega) | omega | (dsimp only; omega))⟩) (th_PV hK hH rfl hc_132) rfl rfl hl.1 rfl (lv_room (Nat.le_of_ble_eq_true rfl)) dX5_readAtom_86 ⟨(by first | (simp only [headSpec]; omega) | omega | (dsimp only; omega)), (by first | (simp only [headSpec]; omega) | omega | (dsimp only; omega))⟩) hS (fun σ_s_134 H locs hw_133 hH hS => ?_)
                obtain ⟨hO9, hF9, hw_133⟩ := hw_133
                replace hO := hO9
                replace hF := hF.tu hF9 (by decide)
                refine lv_goto (tgt := 132) hx hb dX5_readAtom_89 (by decide) ?_
                exact th_vret hx hb hr hlocks hH hS ⟨hO, hF, trivial⟩ dX5_readAtom_132
            · replace c_114 := mt (I_lt (a := lv) (b := 5) rlv (show rng 5 from ⟨by decide, by decide⟩)).mpr c_114
              refine lv_aload_n hx hb dX5_readAtom_60 rfl (lv_at hl 1 rfl) ?_
              refine ok.getR hO h_a (by decide) k11_0 (by decide) (fun _ _ he hv kk => th_get (ci := 5) (C := RX5) (T := TX5) (N := 1) hx hb hts inX5 hown hK hH he rfl 0 (by decide) fl0 hv dX5_readAtom_61 kk) ?_
              refine lv_iconst (v := I 2) hx hb dX5_readAtom_64 (by decide) ?_
              obtain ⟨_, hc_135⟩ := hO.cell hp_1 (by decide) (ci := 8) rfl
              refine th_callv (va_runV (As := [.int (I 2)]) (rest := []) ⟨hx, hb, hml, hown, hts⟩ (k_fail l G y b0 σ E hO (ad E a 0) hp_1 2 (show rng 2 from (show rng 2 from ⟨by decide, by decide⟩))) (cwV 1 hts gX5_readAtom_X8_fail rfl rfl rfl (by decide +kernel) ⟨(by first | (simp only [headSpec]; omega) | omega | (dsimp only; omega)), (by first | (simp only [headSpec]; omega) | omega | (dsimp only; omega))⟩) (th_PV hK hH rfl hc_135) rfl rfl hl.1 rfl (lv_room (Nat.le_of_ble_eq_true rfl)) dX5_readAtom_65 ⟨(by first | (simp only [headSpec]; omega) | omega | (dsimp only; omega)), (by first | (simp only [headSpec]; omega) | omega | (dsimp only; omega))⟩) hS (fun σ_s_137 H locs hw_136 hH hS => ?_)
              obtain ⟨hO9, hF9, hw_136⟩ := hw_136
              replace hO := hO9
              replace hF := hF.tu hF9 (by decide)
              refine lv_goto (tgt := 132) hx hb dX5_readAtom_68 (by decide) ?_
              exact th_vret hx hb hr hlocks hH hS ⟨hO, hF, trivial⟩ dX5_readAtom_132
          · replace c_113 := (I_eq (a := z_2) (b := 64) rz_2 (show rng 64 from ⟨by decide, by decide⟩)).mp c_113
            refine lv_aload_n hx hb dX5_readAtom_43 rfl (lv_at hl 2 rfl) ?_
            refine ok.getI hO h_b (by decide) k4_13 (fun _ _ he hv kk => th_getN (ci := 4) (C := RX4) (T := TX4) (N := 14) hx hb hts inX4 hown hK hH he rfl 13 (by decide) (nl_3 hK) hv dX5_readAtom_44 kk) (fun z_138 e_139 rz_138 lz_138 uz_138 => ?_)
            refine lv_bipush (v := I 12) hx hb dX5_readAtom_47 (by decide) ?_
            refine lv_icmp_lt (tgt := 71) hx hb dX5_readAtom_49 (by decide) (fun c_140 => ?_) (fun c_140 => ?_)
            · replace c_140 := (I_lt (a := z_138) (b := 12) rz_138 (show rng 12 from ⟨by decide, by decide⟩)).mp c_140
              refine lv_aload_n hx hb dX5_readAtom_71 rfl (lv_at hl 1 rfl) ?_
              refine ok.getR hO h_a (by decide) k11_0 (by decide) (fun _ _ he hv kk => th_get (ci := 5) (C := RX5) (T := TX5) (N := 1) hx hb hts inX5 hown hK hH he rfl 0 (by decide) fl0 hv dX5_readAtom_72 kk) ?_
              obtain ⟨_, hc_141⟩ := hO.cell hp_1 (by decide) (ci := 8) rfl
              refine th_callv (va_runV (As := []) (rest := []) ⟨hx, hb, hml, hown, hts⟩ (k_step l G y b0 σ E hO (ad E a 0) hp_1) (cwV 0 hts gX5_readAtom_X8_step rfl rfl rfl (by decide +kernel) ⟨(by first | (simp only [headSpec]; omega) | omega | (dsimp only; omega)), (by first | (simp only [headSpec]; omega) | omega | (dsimp only; omega))⟩) (th_PV hK hH rfl hc_141) rfl rfl hl.1 rfl (lv_room (Nat.le_of_ble_eq_true rfl)) dX5_readAtom_75 ⟨(by first | (simp only [headSpec]; omega) | omega | (dsimp only; omega)), (by first | (simp only [headSpec]; omega) | omega | (dsimp only; omega))⟩) hS (fun σ_s_143 H locs hw_142 hH hS => ?_)
              obtain ⟨hO9, hF9, hw_142⟩ := hw_142
              have e_144 : gI σ_s_143 b 13 = z_138 := (fr.ki hO hF9 h_b (by decide) (by decide) _).trans e_139
              replace hO := hO9
              replace hF := hF.tu hF9 (by decide)
              refine lv_iload_n hx hb dX5_readAtom_78 rfl (lv_at hl 0 rfl) ?_
              refine lv_bipush (v := I 64) hx hb dX5_readAtom_79 (by decide) ?_
              refine lv_icmp_ne (tgt := 92) hx hb dX5_readAtom_81 (by decide) (fun c_145 => ?_) (fun c_145 => ?_)
              · replace c_145 := mt (I_eq (a := z_2) (b := 64) rz_2 (show rng 64 from ⟨by decide, by decide⟩)).mpr c_145
                refine lv_iload_n hx hb dX5_readAtom_92 rfl (lv_at hl 0 rfl) ?_
                refine lv_bipush (v := I 33) hx hb dX5_readAtom_93 (by decide) ?_
                refine lv_icmp_ne (tgt := 115) hx hb dX5_readAtom_95 (by decide) (fun c_146 => ?_) (fun c_146 => ?_)
                · replace c_146 := mt (I_eq (a := z_2) (b := 33) rz_2 (show rng 33 from ⟨by decide, by decide⟩)).mpr c_146
                  refine lv_aload_n hx hb dX5_readAtom_115 rfl (lv_at hl 1 rfl) ?_
                  refine lv_aload_n hx hb dX5_readAtom_116 rfl (lv_at hl 2 rfl) ?_
                  refine lv_iload_n hx hb dX5_readAtom_117 rfl (lv_at hl 3 rfl) ?_
                  refine lv_iconst (v := I 1) hx hb dX5_readAtom_118 (by decide) ?_
                  refine lv_iadd hx hb dX5_readAtom_119 ?_
                  refine nq_top (I_add _ _) ?_
                  obtain ⟨_, hc_147⟩ := hO.cell h_a (by decide) (ci := 5) rfl
                  refine th_callv (va_runV (As := [.ref b, .int (I (lv + 1))]) (rest := []) ⟨hx, hb, hml, hown, hts⟩ (s_readCond n ih l G y b0 σ_s_143 E hO a h_a b h_b (lv + 1) (show rng (lv + 1) from ⟨by omega, by omega⟩) (by omega) (by omega) (by omega)) (cwV 2 hts gX5_readAtom_X5_readCond rfl rfl rfl (by decide +kernel) ⟨(by first | (simp only [headSpec]; omega) | omega | (dsimp only; omega)), (by first | (simp only [headSpec]; omega) | omega | (dsimp only; omega))⟩) (th_PV hK hH rfl hc_147) rfl rfl hl.1 rfl (lv_room (Nat.le_of_ble_eq_true rfl)) dX5_readAtom_120 ⟨(by first | (simp only [headSpec]; omega) | omega | (dsimp only; omega)), (by first | (simp only [headSpec]; omega) | omega | (dsimp only; omega))⟩) hS (fun σ_s_149 H locs hw_148 hH hS => ?_)
                  obtain ⟨hO9, hF9, hw_148⟩ := hw_148
                  replace hO := hO9
                  replace hF := hF.tu hF9 (by decide)
                  refine lv_aload_n hx hb dX5_readAtom_123 rfl (lv_at hl 1 rfl) ?_
                  refine ok.getR hO h_a (by decide) k11_0 (by decide) (fun _ _ he hv kk => th_get (ci := 5) (C := RX5) (T := TX5) (N := 1) hx hb hts inX5 hown hK hH he rfl 0 (by decide) fl0 hv dX5_readAtom_124 kk) ?_
                  refine lv_bipush (v := I 41) hx hb dX5_readAtom_127 (by decide) ?_
                  obtain ⟨_, hc_150⟩ := hO.cell hp_1 (by decide) (ci := 8) rfl
                  refine th_callv (va_runV (As := [.int (I 41)]) (rest := []) ⟨hx, hb, hml, hown, hts⟩ (k_expect l G y b0 σ_s_149 E hO (ad E a 0) hp_1 41 (show rng 41 from (show rng 41 from ⟨by decide, by decide⟩))) (cwV 1 hts gX5_readAtom_X8_expect rfl rfl rfl (by decide +kernel) ⟨(by first | (simp only [headSpec]; omega) | omega | (dsimp only; omega)), (by first | (simp only [headSpec]; omega) | omega | (dsimp only; omega))⟩) (th_PV hK hH rfl hc_150) rfl rfl hl.1 rfl (lv_room (Nat.le_of_ble_eq_true rfl)) dX5_readAtom_129 ⟨(by first | (simp only [headSpec]; omega) | omega | (dsimp only; omega)), (by first | (simp only [headSpec]; omega) | omega | (dsimp only; omega))⟩) hS (fun σ_s_152 H locs hw_151 hH hS => ?_)
                  obtain ⟨hO9, hF9, hw_151⟩ := hw_151
                  replace hO := hO9
                  replace hF := hF.tu hF9 (by decide)
                  exact th_vret hx hb hr hlocks hH hS ⟨hO, hF, trivial⟩ dX5_readAtom_132
                · replace c_146 := (I_eq (a := z_2) (b := 33) rz_2 (show rng 33 from ⟨by decide, by decide⟩)).mp c_146
                  refine lv_aload_n hx hb dX5_readAtom_98 rfl (lv_at hl 1 rfl) ?_
                  refine lv_aload_n hx hb dX5_readAtom_99 rfl (lv_at hl 2 rfl) ?_
                  refine lv_iload_n hx hb dX5_readAtom_100 rfl (lv_at hl 3 rfl) ?_
                  refine lv_iconst (v := I 1) hx hb dX5_readAtom_101 (by decide) ?_
                  refine lv_iadd hx hb dX5_readAtom_102 ?_
                  refine nq_top (I_add _ _) ?_
                  obtain ⟨_, hc_153⟩ := hO.cell h_a (by decide) (ci := 5) rfl
                  refine th_callv (va_runV (As := [.ref b, .int (I (lv + 1))]) (rest := []) ⟨hx, hb, hml, hown, hts⟩ (ih l G y b0 σ_s_143 E hO a h_a b h_b (lv + 1) (show rng (lv + 1) from ⟨by omega, by omega⟩) (by omega) (by omega) (by omega)) (cwV 2 hts gX5_readAtom_X5_readAtom rfl rfl rfl (by decide +kernel) ⟨(by first | (simp only [headSpec]; omega) | omega | (dsimp only; omega)), (by first | (simp only [headSpec]; omega) | omega | (dsimp only; omega))⟩) (th_PV hK hH rfl hc_153) rfl rfl hl.1 rfl (lv_room (Nat.le_of_ble_eq_true rfl)) dX5_readAtom_103 ⟨(by first | (simp only [headSpec]; omega) | omega | (dsimp only; omega)), (by first | (simp only [headSpec]; omega) | omega | (dsimp only; omega))⟩) hS (fun σ_s_155 H locs hw_154 hH hS => ?_)
                  obtain ⟨hO9, hF9, hw_154⟩ := hw_154
                  replace hO := hO9
                  replace hF := hF.tu hF9 (by decide)
                  refine lv_aload_n hx hb dX5_readAtom_106 rfl (lv_at hl 2 rfl) ?_
                  refine lv_bipush (v := I (-4)) hx hb dX5_readAtom_107 (by decide) ?_
                  obtain ⟨_, hc_156⟩ := hO.cell h_b (by decide) (ci := 4) rfl
                  refine th_callv (va_runV (As := [.int (I (-4))]) (rest := []) ⟨hx, hb, hml, hown, hts⟩ (p_addCode l G y b0 σ_s_155 E hO b h_b (-4) (show rng (-4) from (show rng (-4) from ⟨by decide, by decide⟩))) (cwV 1 hts gX5_readAtom_X4_addCode rfl rfl rfl (by decide +kernel) ⟨(by first | (simp only [headSpec]; omega) | omega | (dsimp only; omega)), (by first | (simp only [headSpec]; omega) | omega | (dsimp only; omega))⟩) (th_PV hK hH rfl hc_156) rfl rfl hl.1 rfl (lv_room (Nat.le_of_ble_eq_true rfl)) dX5_readAtom_109 ⟨(by first | (simp only [headSpec]; omega) | omega | (dsimp only; omega)), (by first | (simp only [headSpec]; omega) | omega | (dsimp only; omega))⟩) hS (fun σ_s_158 H locs hw_157 hH hS => ?_)
                  obtain ⟨hO9, hF9, hw_157⟩ := hw_157
                  replace hO := hO9
                  replace hF := hF.tu hF9 (by decide)
                  have hw_157 : gI σ_s_158 b 13 = gI σ_s_155 b 13 := hw_157
                  refine lv_goto (tgt := 132) hx hb dX5_readAtom_112 (by decide) ?_
                  exact th_vret hx hb hr hlocks hH hS ⟨hO, hF, trivial⟩ dX5_readAtom_132
              · replace c_145 := (I_eq (a := z_2) (b := 64) rz_2 (show rng 64 from ⟨by decide, by decide⟩)).mp c_145
                refine lv_aload_n hx hb dX5_readAtom_84 rfl (lv_at hl 1 rfl) ?_
                refine lv_aload_n hx hb dX5_readAtom_85 rfl (lv_at hl 2 rfl) ?_
                obtain ⟨_, hc_159⟩ := hO.cell h_a (by decide) (ci := 5) rfl
                refine th_callv (va_runV (As := [.ref b]) (rest := []) ⟨hx, hb, hml, hown, hts⟩ (s_readTest l G y b0 σ_s_143 E hO a h_a b h_b) (cwV 1 hts gX5_readAtom_X5_readTest rfl rfl rfl (by decide +kernel) ⟨(by first | (simp only [headSpec]; omega) | omega | (dsimp only; omega)), (by first | (simp only [headSpec]; omega) | omega | (dsimp only; omega))⟩) (th_PV hK hH rfl hc_159) rfl rfl hl.1 rfl (lv_room (Nat.le_of_ble_eq_true rfl)) dX5_readAtom_86 ⟨(by first | (simp only [headSpec]; omega) | omega | (dsimp only; omega)), (by first | (simp only [headSpec]; omega) | omega | (dsimp only; omega))⟩) hS (fun σ_s_161 H locs hw_160 hH hS => ?_)
                obtain ⟨hO9, hF9, hw_160⟩ := hw_160
                replace hO := hO9
                replace hF := hF.tu hF9 (by decide)
                refine lv_goto (tgt := 132) hx hb dX5_readAtom_89 (by decide) ?_
                exact th_vret hx hb hr hlocks hH hS ⟨hO, hF, trivial⟩ dX5_readAtom_132
            · replace c_140 := mt (I_lt (a := z_138) (b := 12) rz_138 (show rng 12 from ⟨by decide, by decide⟩)).mpr c_140
              refine lv_goto (tgt := 60) hx hb dX5_readAtom_52 (by decide) ?_
              refine lv_aload_n hx hb dX5_readAtom_60 rfl (lv_at hl 1 rfl) ?_
              refine ok.getR hO h_a (by decide) k11_0 (by decide) (fun _ _ he hv kk => th_get (ci := 5) (C := RX5) (T := TX5) (N := 1) hx hb hts inX5 hown hK hH he rfl 0 (by decide) fl0 hv dX5_readAtom_61 kk) ?_
              refine lv_iconst (v := I 2) hx hb dX5_readAtom_64 (by decide) ?_
              obtain ⟨_, hc_162⟩ := hO.cell hp_1 (by decide) (ci := 8) rfl
              refine th_callv (va_runV (As := [.int (I 2)]) (rest := []) ⟨hx, hb, hml, hown, hts⟩ (k_fail l G y b0 σ E hO (ad E a 0) hp_1 2 (show rng 2 from (show rng 2 from ⟨by decide, by decide⟩))) (cwV 1 hts gX5_readAtom_X8_fail rfl rfl rfl (by decide +kernel) ⟨(by first | (simp only [headSpec]; omega) | omega | (dsimp only; omega)), (by first | (simp only [headSpec]; omega) | omega | (dsimp only; omega))⟩) (th_PV hK hH rfl hc_162) rfl rfl hl.1 rfl (lv_room (Nat.le_of_ble_eq_true rfl)) dX5_readAtom_65 ⟨(by first | (simp only [headSpec]; omega) | omega | (dsimp only; omega)), (by first | (simp only [headSpec]; omega) | omega | (dsimp only; omega))⟩) hS (fun σ_s_164 H locs hw_163 hH hS => ?_)
              obtain ⟨hO9, hF9, hw_163⟩ := hw_163
              have e_165 : gI σ_s_164 b 13 = z_138 := (fr.ki hO hF9 h_b (by decide) (by decide) _).trans e_139
              replace hO := hO9
              replace hF := hF.tu hF9 (by decide)
              refine lv_goto (tgt := 132) hx hb dX5_readAtom_68 (by decide) ?_
              exact th_vret hx hb hr hlocks hH hS ⟨hO, hF, trivial⟩ dX5_readAtom_132
        · replace c_112 := mt (I_eq (a := z_2) (b := 64) rz_2 (show rng 64 from ⟨by decide, by decide⟩)).mpr c_112
          refine lv_aload_n hx hb dX5_readAtom_26 rfl (lv_at hl 1 rfl) ?_
          refine ok.getR hO h_a (by decide) k11_0 (by decide) (fun _ _ he hv kk => th_get (ci := 5) (C := RX5) (T := TX5) (N := 1) hx hb hts inX5 hown hK hH he rfl 0 (by decide) fl0 hv dX5_readAtom_27 kk) ?_
          refine lv_iconst (v := I 1) hx hb dX5_readAtom_30 (by decide) ?_
          obtain ⟨_, hc_166⟩ := hO.cell hp_1 (by decide) (ci := 8) rfl
          refine th_callv (va_runV (As := [.int (I 1)]) (rest := []) ⟨hx, hb, hml, hown, hts⟩ (k_fail l G y b0 σ E hO (ad E a 0) hp_1 1 (show rng 1 from (show rng 1 from ⟨by decide, by decide⟩))) (cwV 1 hts gX5_readAtom_X8_fail rfl rfl rfl (by decide +kernel) ⟨(by first | (simp only [headSpec]; omega) | omega | (dsimp only; omega)), (by first | (simp only [headSpec]; omega) | omega | (dsimp only; omega))⟩) (th_PV hK hH rfl hc_166) rfl rfl hl.1 rfl (lv_room (Nat.le_of_ble_eq_true rfl)) dX5_readAtom_31 ⟨(by first | (simp only [headSpec]; omega) | omega | (dsimp only; omega)), (by first | (simp only [headSpec]; omega) | omega | (dsimp only; omega))⟩) hS (fun σ_s_168 H locs hw_167 hH hS => ?_)
          obtain ⟨hO9, hF9, hw_167⟩ := hw_167
          replace hO := hO9
          replace hF := hF.tu hF9 (by decide)
          refine lv_goto (tgt := 132) hx hb dX5_readAtom_34 (by decide) ?_
          exact th_vret hx hb hr hlocks hH hS ⟨hO, hF, trivial⟩ dX5_readAtom_132

set_option maxHeartbeats 1000000 in
set_option maxRecDepth 100000 in
theorem s_readFilter (l : Launch) (G : va_G) (y : Nat → ClassId) (b0 : Nat) (σ : th_M) (E : th_E) (hO : ok y E σ) (a : Nat) (h_a : kd E a = 11) (b : Nat) (h_b : kd E b = 4) : Met l yX5_readFilter wsX5_readFilter ({ frames := 49, cells := 0, slots := 0, locals := 1927 }) (th_P G y b0 σ [.ref a, .ref b]) (th_Qv G b0 (fun σ1 => ok y E σ1 ∧ fr [3, 4] E σ σ1 ∧ (True))) 0 0 (th_A b0) := by
  refine Met.ofW (cc := cX5_readFilter) (maxL := 3) (ret := none) (by decide) rfl ?_
  intro p e s m args below meth c s₁ B hml hv
  obtain ⟨rfl, hH, hK⟩ := hv
  have hx := B.exec
  have hb := B.bytes
  have hr := B.returns
  have hts := atoms_spec (ws := wsX5_readFilter) B.pre
  have hown : s.vm.findClass RX5 = some m.cls := findClass_of_methodNamed B.named
  have hlocks := B.notSynchronized
  have h00 : b0 ≤ s.heap.size := hH.1
  have hS : va_S (th_A b0) s.heap s.heap [] := va_S.rf
  have hF : fr [3, 4] E σ σ := fr.rf
  have inX4 : ∀ w ∈ wsX40, w ∈ wsX5_readFilter := by decide +kernel
  have inX5 : ∀ w ∈ wsX50, w ∈ wsX5_readFilter := by decide +kernel
  have fl0 := hts (.fieldLink RX5 9 "NestQuery$PathReader" "tokens" "LNestQuery$Tokens;") (by decide +kernel)
  have hl := lv_entry ([.ref a, .ref b]) (n := 3) (Nat.le_of_ble_eq_true rfl)
  rw [lg_entry_eq]
  generalize (lg_sl ([.ref a, .ref b]) ++ List.replicate (3 - (lg_sl ([.ref a, .ref b])).length) Slot.unset).toArray = ls at hl ⊢
  have hl : lv_has ls 3 [(0, .ref a), (1, .ref b)] := hl
  refine lv_aload_n hx hb dX5_readFilter_0 rfl (lv_at hl 1 rfl) ?_
  refine ok.getI hO h_b (by decide) k4_5 (fun _ _ he hv kk => th_getN (ci := 4) (C := RX4) (T := TX4) (N := 14) hx hb hts inX4 hown hK hH he rfl 5 (by decide) (nl_2 hK) hv dX5_readFilter_1 kk) (fun z_1 e_2 rz_1 lz_1 uz_1 => ?_)
  refine lv_istore_n (lv' := [(2, .int (I z_1)), (0, .ref a), (1, .ref b)]) hx hb dX5_readFilter_4 rfl hl (by decide) rfl (fun ls hl => ?_)
  refine lv_aload_n hx hb dX5_readFilter_5 rfl (lv_at hl 1 rfl) ?_
  have hp_3 : kd E (ad E a 0) = 3 := ok.pk hO h_a (by decide) k11_0 rfl
  refine ok.getR hO h_a (by decide) k11_0 (by decide) (fun _ _ he hv kk => th_get (ci := 5) (C := RX5) (T := TX5) (N := 1) hx hb hts inX5 hown hK hH he rfl 0 (by decide) fl0 hv dX5_readFilter_6 kk) ?_
  refine lv_bipush (v := I 40) hx hb dX5_readFilter_9 (by decide) ?_
  obtain ⟨_, hc_4⟩ := hO.cell hp_3 (by decide) (ci := 8) rfl
  refine th_callv (va_runV (As := [.int (I 40)]) (rest := []) ⟨hx, hb, hml, hown, hts⟩ (k_expect l G y b0 σ E hO (ad E a 0) hp_3 40 (show rng 40 from (show rng 40 from ⟨by decide, by decide⟩))) (cwV 1 hts gX5_readFilter_X8_expect rfl rfl rfl (by decide +kernel) ⟨Nat.le_of_ble_eq_true rfl, Nat.le_of_ble_eq_true rfl⟩) (th_PV hK hH rfl hc_4) rfl rfl hl.1 rfl (lv_room (Nat.le_of_ble_eq_true rfl)) dX5_readFilter_11 ⟨Nat.le_of_ble_eq_true rfl, Nat.le_of_ble_eq_true rfl⟩) hS (fun σ_s_6 H locs hw_5 hH hS => ?_)
  obtain ⟨hO9, hF9, hw_5⟩ := hw_5
  have e_7 : gI σ_s_6 b 5 = z_1 := (fr.ki hO hF9 h_b (by decide) (by decide) _).trans e_2
  replace hO := hO9
  replace hF := hF.tu hF9 (by decide)
  refine lv_aload_n hx hb dX5_readFilter_14 rfl (lv_at hl 1 rfl) ?_
  refine lv_aload_n hx hb dX5_readFilter_15 rfl (lv_at hl 2 rfl) ?_
  refine lv_iconst (v := I 0) hx hb dX5_readFilter_16 (by decide) ?_
  obtain ⟨_, hc_8⟩ := hO.cell h_a (by decide) (ci := 5) rfl
  refine th_callv (va_runV (As := [.ref b, .int (I 0)]) (rest := []) ⟨hx, hb, hml, hown, hts⟩ (s_readCond 6 (s_readAtom 6) l G y b0 σ_s_6 E hO a h_a b h_b 0 (show rng 0 from (show rng 0 from ⟨by decide, by decide⟩)) (by omega) (by omega) (by omega)) (cwV 2 hts gX5_readFilter_X5_readCond rfl rfl rfl (by decide +kernel) ⟨Nat.le_of_ble_eq_true rfl, Nat.le_of_ble_eq_true rfl⟩) (th_PV hK hH rfl hc_8) rfl rfl hl.1 rfl (lv_room (Nat.le_of_ble_eq_true rfl)) dX5_readFilter_17 ⟨Nat.le_of_ble_eq_true rfl, Nat.le_of_ble_eq_true rfl⟩) hS (fun σ_s_10 H locs hw_9 hH hS => ?_)
  obtain ⟨hO9, hF9, hw_9⟩ := hw_9
  replace hO := hO9
  replace hF := hF.tu hF9 (by decide)
  refine lv_aload_n hx hb dX5_readFilter_20 rfl (lv_at hl 1 rfl) ?_
  refine ok.getR hO h_a (by decide) k11_0 (by decide) (fun _ _ he hv kk => th_get (ci := 5) (C := RX5) (T := TX5) (N := 1) hx hb hts inX5 hown hK hH he rfl 0 (by decide) fl0 hv dX5_readFilter_21 kk) ?_
  refine lv_bipush (v := I 41) hx hb dX5_readFilter_24 (by decide) ?_
  obtain ⟨_, hc_11⟩ := hO.cell hp_3 (by decide) (ci := 8) rfl
  refine th_callv (va_runV (As := [.int (I 41)]) (rest := []) ⟨hx, hb, hml, hown, hts⟩ (k_expect l G y b0 σ_s_10 E hO (ad E a 0) hp_3 41 (show rng 41 from (show rng 41 from ⟨by decide, by decide⟩))) (cwV 1 hts gX5_readFilter_X8_expect rfl rfl rfl (by decide +kernel) ⟨Nat.le_of_ble_eq_true rfl, Nat.le_of_ble_eq_true rfl⟩) (th_PV hK hH rfl hc_11) rfl rfl hl.1 rfl (lv_room (Nat.le_of_ble_eq_true rfl)) dX5_readFilter_26 ⟨Nat.le_of_ble_eq_true rfl, Nat.le_of_ble_eq_true rfl⟩) hS (fun σ_s_13 H locs hw_12 hH hS => ?_)
  obtain ⟨hO9, hF9, hw_12⟩ := hw_12
  replace hO := hO9
  replace hF := hF.tu hF9 (by decide)
  refine lv_aload_n hx hb dX5_readFilter_29 rfl (lv_at hl 2 rfl) ?_
  refine lv_bipush (v := I (-5)) hx hb dX5_readFilter_30 (by decide) ?_
  obtain ⟨_, hc_14⟩ := hO.cell h_b (by decide) (ci := 4) rfl
  refine th_callv (va_runV (As := [.int (I (-5))]) (rest := []) ⟨hx, hb, hml, hown, hts⟩ (p_addCode l G y b0 σ_s_13 E hO b h_b (-5) (show rng (-5) from (show rng (-5) from ⟨by decide, by decide⟩))) (cwV 1 hts gX5_readFilter_X4_addCode rfl rfl rfl (by decide +kernel) ⟨Nat.le_of_ble_eq_true rfl, Nat.le_of_ble_eq_true rfl⟩) (th_PV hK hH rfl hc_14) rfl rfl hl.1 rfl (lv_room (Nat.le_of_ble_eq_true rfl)) dX5_readFilter_32 ⟨Nat.le_of_ble_eq_true rfl, Nat.le_of_ble_eq_true rfl⟩) hS (fun σ_s_16 H locs hw_15 hH hS => ?_)
  obtain ⟨hO9, hF9, hw_15⟩ := hw_15
  replace hO := hO9
  replace hF := hF.tu hF9 (by decide)
  have hw_15 : gI σ_s_16 b 13 = gI σ_s_13 b 13 := hw_15
  refine lv_aload_n hx hb dX5_readFilter_35 rfl (lv_at hl 2 rfl) ?_
  refine lv_iconst (v := I 5) hx hb dX5_readFilter_36 (by decide) ?_
  refine lv_iload_n hx hb dX5_readFilter_37 rfl (lv_at hl 0 rfl) ?_
  refine lv_iconst (v := I 0) hx hb dX5_readFilter_38 (by decide) ?_
  obtain ⟨_, hc_17⟩ := hO.cell h_b (by decide) (ci := 4) rfl
  refine th_callv (va_runV (As := [.int (I 5), .int (I z_1), .int (I 0)]) (rest := []) ⟨hx, hb, hml, hown, hts⟩ (p_addStep l G y b0 σ_s_16 E hO b h_b 5 (show rng 5 from (show rng 5 from ⟨by decide, by decide⟩)) z_1 (show rng z_1 from rz_1) 0 (show rng 0 from (show rng 0 from ⟨by decide, by decide⟩))) (cwV 3 hts gX5_readFilter_X4_addStep rfl rfl rfl (by decide +kernel) ⟨Nat.le_of_ble_eq_true rfl, Nat.le_of_ble_eq_true rfl⟩) (th_PV hK hH rfl hc_17) rfl rfl hl.1 rfl (lv_room (Nat.le_of_ble_eq_true rfl)) dX5_readFilter_39 ⟨Nat.le_of_ble_eq_true rfl, Nat.le_of_ble_eq_true rfl⟩) hS (fun σ_s_19 H locs hw_18 hH hS => ?_)
  obtain ⟨hO9, hF9, hw_18⟩ := hw_18
  replace hO := hO9
  replace hF := hF.tu hF9 (by decide)
  exact th_vret hx hb hr hlocks hH hS ⟨hO, hF, trivial⟩ dX5_readFilter_42

set_option maxHeartbeats 1000000 in
set_option maxRecDepth 100000 in
theorem s_readStep (l : Launch) (G : va_G) (y : Nat → ClassId) (b0 : Nat) (σ : th_M) (E : th_E) (hO : ok y E σ) (a : Nat) (h_a : kd E a = 11) (b : Nat) (h_b : kd E b = 4) : Met l yX5_readStep wsX5_readStep ({ frames := 50, cells := 0, slots := 0, locals := 1953 }) (th_P G y b0 σ [.ref a, .ref b]) (th_Qv G b0 (fun σ1 => ok y E σ1 ∧ fr [3, 4] E σ σ1 ∧ (True))) 0 0 (th_A b0) := by
  refine Met.ofW (cc := cX5_readStep) (maxL := 3) (ret := none) (by decide) rfl ?_
  intro p e s m args below meth c s₁ B hml hv
  obtain ⟨rfl, hH, hK⟩ := hv
  have hx := B.exec
  have hb := B.bytes
  have hr := B.returns
  have hts := atoms_spec (ws := wsX5_readStep) B.pre
  have hown : s.vm.findClass RX5 = some m.cls := findClass_of_methodNamed B.named
  have hlocks := B.notSynchronized
  have h00 : b0 ≤ s.heap.size := hH.1
  have hS : va_S (th_A b0) s.heap s.heap [] := va_S.rf
  have hF : fr [3, 4] E σ σ := fr.rf
  have inX4 : ∀ w ∈ wsX40, w ∈ wsX5_readStep := by decide +kernel
  have inX5 : ∀ w ∈ wsX50, w ∈ wsX5_readStep := by decide +kernel
  have inX8 : ∀ w ∈ wsX80, w ∈ wsX5_readStep := by decide +kernel
  have fl0 := hts (.fieldLink RX5 9 "NestQuery$PathReader" "tokens" "LNestQuery$Tokens;") (by decide +kernel)
  have hl := lv_entry ([.ref a, .ref b]) (n := 3) (Nat.le_of_ble_eq_true rfl)
  rw [lg_entry_eq]
  generalize (lg_sl ([.ref a, .ref b]) ++ List.replicate (3 - (lg_sl ([.ref a, .ref b])).length) Slot.unset).toArray = ls at hl ⊢
  have hl : lv_has ls 3 [(0, .ref a), (1, .ref b)] := hl
  refine lv_aload_n hx hb dX5_readStep_0 rfl (lv_at hl 0 rfl) ?_
  have hp_1 : kd E (ad E a 0) = 3 := ok.pk hO h_a (by decide) k11_0 rfl
  refine ok.getR hO h_a (by decide) k11_0 (by decide) (fun _ _ he hv kk => th_get (ci := 5) (C := RX5) (T := TX5) (N := 1) hx hb hts inX5 hown hK hH he rfl 0 (by decide) fl0 hv dX5_readStep_1 kk) ?_
  refine ok.getI hO hp_1 (by decide) k3_6 (fun _ _ he hv kk => th_getN (ci := 8) (C := RX8) (T := TX8) (N := 9) hx hb hts inX8 hown hK hH he rfl 6 (by decide) (nl_5 hK) hv dX5_readStep_4 kk) (fun z_2 e_3 rz_2 lz_2 uz_2 => ?_)
  refine lv_istore_n (lv' := [(2, .int (I z_2)), (0, .ref a), (1, .ref b)]) hx hb dX5_readStep_7 rfl hl (by decide) rfl (fun ls hl => ?_)
  refine lv_iload_n hx hb dX5_readStep_8 rfl (lv_at hl 0 rfl) ?_
  refine lv_bipush (v := I 46) hx hb dX5_readStep_9 (by decide) ?_
  refine th_join (α := Unit) (J := 44) (stk := fun x9 => []) (fun x9 σ9 H9 l9 ls9 => σ9 = σ ∧ th_H G b0 σ9 H9 ∧ va_S (th_A b0) s.heap H9 l9 ∧ lv_has ls9 3 [(0, .ref a), (1, .ref b), (2, .int (I z_2))]) ?_ (fun jK_12 => ?_)
  · intro x9 σ_K_12 H locs ls hI9
    obtain ⟨eK_12, hH, hS, hl⟩ := hI9
    replace eK_12 := eK_12.symm
    subst eK_12
    have hl : lv_has ls 3 [(0, .ref a), (1, .ref b), (2, .int (I z_2))] := hl
    refine lv_aload_n hx hb dX5_readStep_44 rfl (lv_at hl 1 rfl) ?_
    refine ok.getI hO h_b (by decide) k4_3 (fun _ _ he hv kk => th_getN (ci := 4) (C := RX4) (T := TX4) (N := 14) hx hb hts inX4 hown hK hH he rfl 3 (by decide) (nl_0 hK) hv dX5_readStep_45 kk) (fun z_13 e_14 rz_13 lz_13 uz_13 => ?_)
    refine lv_bipush (v := I 8) hx hb dX5_readStep_48 (by decide) ?_
    refine lv_icmp_lt (tgt := 64) hx hb dX5_readStep_50 (by decide) (fun c_15 => ?_) (fun c_15 => ?_)
    · replace c_15 := (I_lt (a := z_13) (b := 8) rz_13 (show rng 8 from ⟨by decide, by decide⟩)).mp c_15
      refine lv_aload_n hx hb dX5_readStep_64 rfl (lv_at hl 0 rfl) ?_
      refine ok.getR hO h_a (by decide) k11_0 (by decide) (fun _ _ he hv kk => th_get (ci := 5) (C := RX5) (T := TX5) (N := 1) hx hb hts inX5 hown hK hH he rfl 0 (by decide) fl0 hv dX5_readStep_65 kk) ?_
      obtain ⟨_, hc_16⟩ := hO.cell hp_1 (by decide) (ci := 8) rfl
      refine th_callv (va_runV (As := []) (rest := []) ⟨hx, hb, hml, hown, hts⟩ (k_step l G y b0 σ E hO (ad E a 0) hp_1) (cwV 0 hts gX5_readStep_X8_step rfl rfl rfl (by decide +kernel) ⟨Nat.le_of_ble_eq_true rfl, Nat.le_of_ble_eq_true rfl⟩) (th_PV hK hH rfl hc_16) rfl rfl hl.1 rfl (lv_room (Nat.le_of_ble_eq_true rfl)) dX5_readStep_68 ⟨Nat.le_of_ble_eq_true rfl, Nat.le_of_ble_eq_true rfl⟩) hS (fun σ_s_18 H locs hw_17 hH hS => ?_)
      obtain ⟨hO9, hF9, hw_17⟩ := hw_17
      have e_19 : gI σ_s_18 b 3 = z_13 := (fr.ki hO hF9 h_b (by decide) (by decide) _).trans e_14
      replace hO := hO9
      replace hF := hF.tu hF9 (by decide)
      refine lv_iload_n hx hb dX5_readStep_71 rfl (lv_at hl 2 rfl) ?_
      refine lv_bipush (v := I 46) hx hb dX5_readStep_72 (by decide) ?_
      refine lv_icmp_ne (tgt := 85) hx hb dX5_readStep_74 (by decide) (fun c_20 => ?_) (fun c_20 => ?_)
      · replace c_20 := mt (I_eq (a := z_2) (b := 46) rz_2 (show rng 46 from ⟨by decide, by decide⟩)).mpr c_20
        refine lv_iload_n hx hb dX5_readStep_85 rfl (lv_at hl 2 rfl) ?_
        refine lv_sipush (v := I 258) hx hb dX5_readStep_86 (by decide) ?_
        refine lv_icmp_ne (tgt := 102) hx hb dX5_readStep_89 (by decide) (fun c_21 => ?_) (fun c_21 => ?_)
        · replace c_21 := mt (I_eq (a := z_2) (b := 258) rz_2 (show rng 258 from ⟨by decide, by decide⟩)).mpr c_21
          refine lv_iload_n hx hb dX5_readStep_102 rfl (lv_at hl 2 rfl) ?_
          refine lv_bipush (v := I 91) hx hb dX5_readStep_103 (by decide) ?_
          refine lv_icmp_ne (tgt := 116) hx hb dX5_readStep_105 (by decide) (fun c_22 => ?_) (fun c_22 => ?_)
          · replace c_22 := mt (I_eq (a := z_2) (b := 91) rz_2 (show rng 91 from ⟨by decide, by decide⟩)).mpr c_22
            refine lv_aload_n hx hb dX5_readStep_116 rfl (lv_at hl 0 rfl) ?_
            refine lv_aload_n hx hb dX5_readStep_117 rfl (lv_at hl 1 rfl) ?_
            obtain ⟨_, hc_23⟩ := hO.cell h_a (by decide) (ci := 5) rfl
            refine th_callv (va_runV (As := [.ref b]) (rest := []) ⟨hx, hb, hml, hown, hts⟩ (s_readFilter l G y b0 σ_s_18 E hO a h_a b h_b) (cwV 1 hts gX5_readStep_X5_readFilter rfl rfl rfl (by decide +kernel) ⟨Nat.le_of_ble_eq_true rfl, Nat.le_of_ble_eq_true rfl⟩) (th_PV hK hH rfl hc_23) rfl rfl hl.1 rfl (lv_room (Nat.le_of_ble_eq_true rfl)) dX5_readStep_118 ⟨Nat.le_of_ble_eq_true rfl, Nat.le_of_ble_eq_true rfl⟩) hS (fun σ_s_25 H locs hw_24 hH hS => ?_)
            obtain ⟨hO9, hF9, hw_24⟩ := hw_24
            replace hO := hO9
            replace hF := hF.tu hF9 (by decide)
            exact th_vret hx hb hr hlocks hH hS ⟨hO, hF, trivial⟩ dX5_readStep_121
          · replace c_22 := (I_eq (a := z_2) (b := 91) rz_2 (show rng 91 from ⟨by decide, by decide⟩)).mp c_22
            refine lv_aload_n hx hb dX5_readStep_108 rfl (lv_at hl 0 rfl) ?_
            refine lv_aload_n hx hb dX5_readStep_109 rfl (lv_at hl 1 rfl) ?_
            obtain ⟨_, hc_26⟩ := hO.cell h_a (by decide) (ci := 5) rfl
            refine th_callv (va_runV (As := [.ref b]) (rest := []) ⟨hx, hb, hml, hown, hts⟩ (s_readPlaces l G y b0 σ_s_18 E hO a h_a b h_b) (cwV 1 hts gX5_readStep_X5_readPlaces rfl rfl rfl (by decide +kernel) ⟨Nat.le_of_ble_eq_true rfl, Nat.le_of_ble_eq_true rfl⟩) (th_PV hK hH rfl hc_26) rfl rfl hl.1 rfl (lv_room (Nat.le_of_ble_eq_true rfl)) dX5_readStep_110 ⟨Nat.le_of_ble_eq_true rfl, Nat.le_of_ble_eq_true rfl⟩) hS (fun σ_s_28 H locs hw_27 hH hS => ?_)
            obtain ⟨hO9, hF9, hw_27⟩ := hw_27
            replace hO := hO9
            replace hF := hF.tu hF9 (by decide)
            refine lv_goto (tgt := 121) hx hb dX5_readStep_113 (by decide) ?_
            exact th_vret hx hb hr hlocks hH hS ⟨hO, hF, trivial⟩ dX5_readStep_121
        · replace c_21 := (I_eq (a := z_2) (b := 258) rz_2 (show rng 258 from ⟨by decide, by decide⟩)).mp c_21
          refine lv_aload_n hx hb dX5_readStep_92 rfl (lv_at hl 1 rfl) ?_
          refine lv_iconst (v := I 2) hx hb dX5_readStep_93 (by decide) ?_
          refine lv_iconst (v := I 0) hx hb dX5_readStep_94 (by decide) ?_
          refine lv_iconst (v := I 0) hx hb dX5_readStep_95 (by decide) ?_
          obtain ⟨_, hc_29⟩ := hO.cell h_b (by decide) (ci := 4) rfl
          refine th_callv (va_runV (As := [.int (I 2), .int (I 0), .int (I 0)]) (rest := []) ⟨hx, hb, hml, hown, hts⟩ (p_addStep l G y b0 σ_s_18 E hO b h_b 2 (show rng 2 from (show rng 2 from ⟨by decide, by decide⟩)) 0 (show rng 0 from (show rng 0 from ⟨by decide, by decide⟩)) 0 (show rng 0 from (show rng 0 from ⟨by decide, by decide⟩))) (cwV 3 hts gX5_readStep_X4_addStep rfl rfl rfl (by decide +kernel) ⟨Nat.le_of_ble_eq_true rfl, Nat.le_of_ble_eq_true rfl⟩) (th_PV hK hH rfl hc_29) rfl rfl hl.1 rfl (lv_room (Nat.le_of_ble_eq_true rfl)) dX5_readStep_96 ⟨Nat.le_of_ble_eq_true rfl, Nat.le_of_ble_eq_true rfl⟩) hS (fun σ_s_31 H locs hw_30 hH hS => ?_)
          obtain ⟨hO9, hF9, hw_30⟩ := hw_30
          replace hO := hO9
          replace hF := hF.tu hF9 (by decide)
          refine lv_goto (tgt := 121) hx hb dX5_readStep_99 (by decide) ?_
          exact th_vret hx hb hr hlocks hH hS ⟨hO, hF, trivial⟩ dX5_readStep_121
      · replace c_20 := (I_eq (a := z_2) (b := 46) rz_2 (show rng 46 from ⟨by decide, by decide⟩)).mp c_20
        refine lv_aload_n hx hb dX5_readStep_77 rfl (lv_at hl 0 rfl) ?_
        refine lv_aload_n hx hb dX5_readStep_78 rfl (lv_at hl 1 rfl) ?_
        obtain ⟨_, hc_32⟩ := hO.cell h_a (by decide) (ci := 5) rfl
        refine th_callv (va_runV (As := [.ref b]) (rest := []) ⟨hx, hb, hml, hown, hts⟩ (s_readName l G y b0 σ_s_18 E hO a h_a b h_b) (cwV 1 hts gX5_readStep_X5_readName rfl rfl rfl (by decide +kernel) ⟨Nat.le_of_ble_eq_true rfl, Nat.le_of_ble_eq_true rfl⟩) (th_PV hK hH rfl hc_32) rfl rfl hl.1 rfl (lv_room (Nat.le_of_ble_eq_true rfl)) dX5_readStep_79 ⟨Nat.le_of_ble_eq_true rfl, Nat.le_of_ble_eq_true rfl⟩) hS (fun σ_s_34 H locs hw_33 hH hS => ?_)
        obtain ⟨hO9, hF9, hw_33⟩ := hw_33
        replace hO := hO9
        replace hF := hF.tu hF9 (by decide)
        refine lv_goto (tgt := 121) hx hb dX5_readStep_82 (by decide) ?_
        exact th_vret hx hb hr hlocks hH hS ⟨hO, hF, trivial⟩ dX5_readStep_121
    · replace c_15 := mt (I_lt (a := z_13) (b := 8) rz_13 (show rng 8 from ⟨by decide, by decide⟩)).mpr c_15
      refine lv_aload_n hx hb dX5_readStep_53 rfl (lv_at hl 0 rfl) ?_
      refine ok.getR hO h_a (by decide) k11_0 (by decide) (fun _ _ he hv kk => th_get (ci := 5) (C := RX5) (T := TX5) (N := 1) hx hb hts inX5 hown hK hH he rfl 0 (by decide) fl0 hv dX5_readStep_54 kk) ?_
      refine lv_iconst (v := I 2) hx hb dX5_readStep_57 (by decide) ?_
      obtain ⟨_, hc_35⟩ := hO.cell hp_1 (by decide) (ci := 8) rfl
      refine th_callv (va_runV (As := [.int (I 2)]) (rest := []) ⟨hx, hb, hml, hown, hts⟩ (k_fail l G y b0 σ E hO (ad E a 0) hp_1 2 (show rng 2 from (show rng 2 from ⟨by decide, by decide⟩))) (cwV 1 hts gX5_readStep_X8_fail rfl rfl rfl (by decide +kernel) ⟨Nat.le_of_ble_eq_true rfl, Nat.le_of_ble_eq_true rfl⟩) (th_PV hK hH rfl hc_35) rfl rfl hl.1 rfl (lv_room (Nat.le_of_ble_eq_true rfl)) dX5_readStep_58 ⟨Nat.le_of_ble_eq_true rfl, Nat.le_of_ble_eq_true rfl⟩) hS (fun σ_s_37 H locs hw_36 hH hS => ?_)
      obtain ⟨hO9, hF9, hw_36⟩ := hw_36
      have e_38 : gI σ_s_37 b 3 = z_13 := (fr.ki hO hF9 h_b (by decide) (by decide) _).trans e_14
      replace hO := hO9
      replace hF := hF.tu hF9 (by decide)
      refine lv_goto (tgt := 121) hx hb dX5_readStep_61 (by decide) ?_
      exact th_vret hx hb hr hlocks hH hS ⟨hO, hF, trivial⟩ dX5_readStep_121
  · refine lv_icmp_eq (tgt := 44) hx hb dX5_readStep_11 (by decide) (fun c_39 => ?_) (fun c_39 => ?_)
    · replace c_39 := (I_eq (a := z_2) (b := 46) rz_2 (show rng 46 from ⟨by decide, by decide⟩)).mp c_39
      exact jK_12 () σ _ _ _ ⟨rfl, hH, hS, lv_sub hl [1, 2, 0] rfl⟩
    · replace c_39 := mt (I_eq (a := z_2) (b := 46) rz_2 (show rng 46 from ⟨by decide, by decide⟩)).mpr c_39
      refine lv_iload_n hx hb dX5_readStep_14 rfl (lv_at hl 0 rfl) ?_
      refine lv_sipush (v := I 258) hx hb dX5_readStep_15 (by decide) ?_
      refine lv_icmp_eq (tgt := 44) hx hb dX5_readStep_18 (by decide) (fun c_40 => ?_) (fun c_40 => ?_)
      · replace c_40 := (I_eq (a := z_2) (b := 258) rz_2 (show rng 258 from ⟨by decide, by decide⟩)).mp c_40
        exact jK_12 () σ _ _ _ ⟨rfl, hH, hS, lv_sub hl [1, 2, 0] rfl⟩
      · replace c_40 := mt (I_eq (a := z_2) (b := 258) rz_2 (show rng 258 from ⟨by decide, by decide⟩)).mpr c_40
        refine lv_iload_n hx hb dX5_readStep_21 rfl (lv_at hl 0 rfl) ?_
        refine lv_bipush (v := I 91) hx hb dX5_readStep_22 (by decide) ?_
        refine lv_icmp_eq (tgt := 44) hx hb dX5_readStep_24 (by decide) (fun c_41 => ?_) (fun c_41 => ?_)
        · replace c_41 := (I_eq (a := z_2) (b := 91) rz_2 (show rng 91 from ⟨by decide, by decide⟩)).mp c_41
          exact jK_12 () σ _ _ _ ⟨rfl, hH, hS, lv_sub hl [1, 2, 0] rfl⟩
        · replace c_41 := mt (I_eq (a := z_2) (b := 91) rz_2 (show rng 91 from ⟨by decide, by decide⟩)).mpr c_41
          refine lv_iload_n hx hb dX5_readStep_27 rfl (lv_at hl 0 rfl) ?_
          refine lv_bipush (v := I 63) hx hb dX5_readStep_28 (by decide) ?_
          refine lv_icmp_eq (tgt := 44) hx hb dX5_readStep_30 (by decide) (fun c_42 => ?_) (fun c_42 => ?_)
          · replace c_42 := (I_eq (a := z_2) (b := 63) rz_2 (show rng 63 from ⟨by decide, by decide⟩)).mp c_42
            exact jK_12 () σ _ _ _ ⟨rfl, hH, hS, lv_sub hl [1, 2, 0] rfl⟩
          · replace c_42 := mt (I_eq (a := z_2) (b := 63) rz_2 (show rng 63 from ⟨by decide, by decide⟩)).mpr c_42
            refine lv_aload_n hx hb dX5_readStep_33 rfl (lv_at hl 1 rfl) ?_
            refine ok.getR hO h_a (by decide) k11_0 (by decide) (fun _ _ he hv kk => th_get (ci := 5) (C := RX5) (T := TX5) (N := 1) hx hb hts inX5 hown hK hH he rfl 0 (by decide) fl0 hv dX5_readStep_34 kk) ?_
            refine lv_iconst (v := I 1) hx hb dX5_readStep_37 (by decide) ?_
            obtain ⟨_, hc_43⟩ := hO.cell hp_1 (by decide) (ci := 8) rfl
            refine th_callv (va_runV (As := [.int (I 1)]) (rest := []) ⟨hx, hb, hml, hown, hts⟩ (k_fail l G y b0 σ E hO (ad E a 0) hp_1 1 (show rng 1 from (show rng 1 from ⟨by decide, by decide⟩))) (cwV 1 hts gX5_readStep_X8_fail rfl rfl rfl (by decide +kernel) ⟨Nat.le_of_ble_eq_true rfl, Nat.le_of_ble_eq_true rfl⟩) (th_PV hK hH rfl hc_43) rfl rfl hl.1 rfl (lv_room (Nat.le_of_ble_eq_true rfl)) dX5_readStep_38 ⟨Nat.le_of_ble_eq_true rfl, Nat.le_of_ble_eq_true rfl⟩) hS (fun σ_s_45 H locs hw_44 hH hS => ?_)
            obtain ⟨hO9, hF9, hw_44⟩ := hw_44
            replace hO := hO9
            replace hF := hF.tu hF9 (by decide)
            refine lv_goto (tgt := 121) hx hb dX5_readStep_41 (by decide) ?_
            exact th_vret hx hb hr hlocks hH hS ⟨hO, hF, trivial⟩ dX5_readStep_121

set_option maxHeartbeats 1000000 in
set_option maxRecDepth 100000 in
theorem s_read (l : Launch) (G : va_G) (y : Nat → ClassId) (b0 : Nat) (σ : th_M) (E : th_E) (hO : ok y E σ) (a : Nat) (h_a : kd E a = 11) (q : Nat) (h_q : kd E q = 12) (n : Int) (rn : rng n) (b : Nat) (h_b : kd E b = 4) : Met l yX5_read wsX5_read ({ frames := 51, cells := 0, slots := 0, locals := 1979 }) (th_P G y b0 σ [.ref a, .ref (ad E q 0), .int (I n), .ref b]) (th_Qi G b0 (fun r σ1 => ok y E σ1 ∧ fr [3, 4] E σ σ1 ∧ (True))) 0 0 (th_A b0) := by
  refine Met.ofW (cc := cX5_read) (maxL := 5) (ret := (some .int)) (by decide) rfl ?_
  intro p e s m args below meth c s₁ B hml hv
  obtain ⟨rfl, hH, hK⟩ := hv
  have hx := B.exec
  have hb := B.bytes
  have hr := B.returns
  have hts := atoms_spec (ws := wsX5_read) B.pre
  have hown : s.vm.findClass RX5 = some m.cls := findClass_of_methodNamed B.named
  have hlocks := B.notSynchronized
  have h00 : b0 ≤ s.heap.size := hH.1
  have hS : va_S (th_A b0) s.heap s.heap [] := va_S.rf
  have hF : fr [3, 4] E σ σ := fr.rf
  have inX5 : ∀ w ∈ wsX50, w ∈ wsX5_read := by decide +kernel
  have inX8 : ∀ w ∈ wsX80, w ∈ wsX5_read := by decide +kernel
  have fl0 := hts (.fieldLink RX5 9 "NestQuery$PathReader" "tokens" "LNestQuery$Tokens;") (by decide +kernel)
  have hl := lv_entry ([.ref a, .ref (ad E q 0), .int (I n), .ref b]) (n := 5) (Nat.le_of_ble_eq_true rfl)
  rw [lg_entry_eq]
  generalize (lg_sl ([.ref a, .ref (ad E q 0), .int (I n), .ref b]) ++ List.replicate (5 - (lg_sl ([.ref a, .ref (ad E q 0), .int (I n), .ref b])).length) Slot.unset).toArray = ls at hl ⊢
  have hl : lv_has ls 5 [(0, .ref a), (1, .ref (ad E q 0)), (2, .int (I n)), (3, .ref b)] := hl
  refine lv_aload_n hx hb dX5_read_0 rfl (lv_at hl 0 rfl) ?_
  have hp_1 : kd E (ad E a 0) = 3 := ok.pk hO h_a (by decide) k11_0 rfl
  refine ok.getR hO h_a (by decide) k11_0 (by decide) (fun _ _ he hv kk => th_get (ci := 5) (C := RX5) (T := TX5) (N := 1) hx hb hts inX5 hown hK hH he rfl 0 (by decide) fl0 hv dX5_read_1 kk) ?_
  refine lv_aload_n hx hb dX5_read_4 rfl (lv_at hl 1 rfl) ?_
  refine lv_iload_n hx hb dX5_read_5 rfl (lv_at hl 2 rfl) ?_
  obtain ⟨_, hc_2⟩ := hO.cell hp_1 (by decide) (ci := 8) rfl
  refine th_callv (va_runV (As := [.ref (ad E q 0), .int (I n)]) (rest := []) ⟨hx, hb, hml, hown, hts⟩ (k_begin l G y b0 σ E hO (ad E a 0) hp_1 q h_q n (show rng n from rn)) (cwV 2 hts gX5_read_X8_begin rfl rfl rfl (by decide +kernel) ⟨Nat.le_of_ble_eq_true rfl, Nat.le_of_ble_eq_true rfl⟩) (th_PV hK hH rfl hc_2) rfl rfl hl.1 rfl (lv_room (Nat.le_of_ble_eq_true rfl)) dX5_read_6 ⟨Nat.le_of_ble_eq_true rfl, Nat.le_of_ble_eq_true rfl⟩) hS (fun σ_s_4 H locs hw_3 hH hS => ?_)
  obtain ⟨hO9, hF9, hw_3⟩ := hw_3
  replace hO := hO9
  replace hF := hF.tu hF9 (by decide)
  refine lv_aload_n hx hb dX5_read_9 rfl (lv_at hl 3 rfl) ?_
  obtain ⟨_, hc_5⟩ := hO.cell h_b (by decide) (ci := 4) rfl
  refine th_callv (va_runV (As := []) (rest := []) ⟨hx, hb, hml, hown, hts⟩ (p_clear l G y b0 σ_s_4 E hO b h_b) (cwV 0 hts gX5_read_X4_clear rfl rfl rfl (by decide +kernel) ⟨Nat.le_of_ble_eq_true rfl, Nat.le_of_ble_eq_true rfl⟩) (th_PV hK hH rfl hc_5) rfl rfl hl.1 rfl (lv_room (Nat.le_of_ble_eq_true rfl)) dX5_read_10 ⟨Nat.le_of_ble_eq_true rfl, Nat.le_of_ble_eq_true rfl⟩) hS (fun σ_s_7 H locs hw_6 hH hS => ?_)
  obtain ⟨hO9, hF9, hw_6⟩ := hw_6
  replace hO := hO9
  replace hF := hF.tu hF9 (by decide)
  refine lv_iconst (v := I 0) hx hb dX5_read_13 (by decide) ?_
  refine lv_istore (lv' := [(4, .int (I 0)), (0, .ref a), (1, .ref (ad E q 0)), (2, .int (I n)), (3, .ref b)]) hx hb dX5_read_14 hl (by decide) rfl (fun ls hl => ?_)
  replace hl : lv_has ls 5 [(4, .int (I 0)), (0, .ref a), (3, .ref b)] := lv_sub hl [0, 1, 4] rfl
  refine th_loop (α := Int) (pc := 16) (fun x9 => (400 - x9).toNat) (fun x9 σ9 H9 l9 ls9 => ok y E σ9 ∧ fr [3, 4] E σ σ9 ∧ th_H G b0 σ9 H9 ∧ va_S (th_A b0) s.heap H9 l9 ∧ lv_has ls9 5 [(0, .ref a), (3, .ref b), (4, .int (I x9))] ∧ rng x9 ∧ (0 ≤ x9) ∧ (x9 ≤ 400)) ?_ (0) σ_s_7 _ _ _ ⟨hO, hF, hH, hS, lv_sub hl [1, 2, 0] rfl, (show rng 0 from ⟨by decide, by decide⟩), by first | omega | (dsimp only; omega), by first | omega | (dsimp only; omega)⟩
  intro x9 σ_J_20 H locs ls hI9 ihJ_20
  obtain ⟨v4q19, ex9⟩ : ∃ z, z = x9 := ⟨_, rfl⟩
  subst ex9
  obtain ⟨hO, hF, hH, hS, hl, rv4q19, J_20_0, J_20_1⟩ := hI9
  have hl : lv_has ls 5 [(0, .ref a), (3, .ref b), (4, .int (I v4q19))] := hl
  have rv4q19 : rng v4q19 := rv4q19
  have J_20_0 : 0 ≤ v4q19 := J_20_0
  have J_20_1 : v4q19 ≤ 400 := J_20_1
  refine lv_aload_n hx hb dX5_read_16 rfl (lv_at hl 0 rfl) ?_
  refine ok.getR hO h_a (by decide) k11_0 (by decide) (fun _ _ he hv kk => th_get (ci := 5) (C := RX5) (T := TX5) (N := 1) hx hb hts inX5 hown hK hH he rfl 0 (by decide) fl0 hv dX5_read_17 kk) ?_
  refine ok.getI hO hp_1 (by decide) k3_7 (fun _ _ he hv kk => th_getN (ci := 8) (C := RX8) (T := TX8) (N := 9) hx hb hts inX8 hown hK hH he rfl 7 (by decide) (nl_6 hK) hv dX5_read_20 kk) (fun z_21 e_22 rz_21 lz_21 uz_21 => ?_)
  refine lv_if_ne (tgt := 58) hx hb dX5_read_23 (by decide) (fun c_23 => ?_) (fun c_23 => ?_)
  · replace c_23 := mt (I_eq (a := z_21) (b := 0) rz_21 (show rng 0 from ⟨by decide, by decide⟩)).mpr c_23
    refine lv_aload_n hx hb dX5_read_58 rfl (lv_at hl 0 rfl) ?_
    refine ok.getR hO h_a (by decide) k11_0 (by decide) (fun _ _ he hv kk => th_get (ci := 5) (C := RX5) (T := TX5) (N := 1) hx hb hts inX5 hown hK hH he rfl 0 (by decide) fl0 hv dX5_read_59 kk) ?_
    refine ok.getIc hO hp_1 (by decide) k3_7 e_22 (fun _ _ he hv kk => th_getN (ci := 8) (C := RX8) (T := TX8) (N := 9) hx hb hts inX8 hown hK hH he rfl 7 (by decide) (nl_6 hK) hv dX5_read_62 kk) ?_
    exact th_iret hx hb hr hlocks hH hS (z := z_21) rz_21 ⟨hO, hF, trivial⟩ dX5_read_65
  · replace c_23 := (I_eq (a := z_21) (b := 0) rz_21 (show rng 0 from ⟨by decide, by decide⟩)).mp c_23
    refine lv_aload_n hx hb dX5_read_26 rfl (lv_at hl 0 rfl) ?_
    refine ok.getR hO h_a (by decide) k11_0 (by decide) (fun _ _ he hv kk => th_get (ci := 5) (C := RX5) (T := TX5) (N := 1) hx hb hts inX5 hown hK hH he rfl 0 (by decide) fl0 hv dX5_read_27 kk) ?_
    refine ok.getI hO hp_1 (by decide) k3_6 (fun _ _ he hv kk => th_getN (ci := 8) (C := RX8) (T := TX8) (N := 9) hx hb hts inX8 hown hK hH he rfl 6 (by decide) (nl_5 hK) hv dX5_read_30 kk) (fun z_24 e_25 rz_24 lz_24 uz_24 => ?_)
    refine lv_sipush (v := I 259) hx hb dX5_read_33 (by decide) ?_
    refine lv_icmp_eq (tgt := 58) hx hb dX5_read_36 (by decide) (fun c_26 => ?_) (fun c_26 => ?_)
    · replace c_26 := (I_eq (a := z_24) (b := 259) rz_24 (show rng 259 from ⟨by decide, by decide⟩)).mp c_26
      refine lv_aload_n hx hb dX5_read_58 rfl (lv_at hl 0 rfl) ?_
      refine ok.getR hO h_a (by decide) k11_0 (by decide) (fun _ _ he hv kk => th_get (ci := 5) (C := RX5) (T := TX5) (N := 1) hx hb hts inX5 hown hK hH he rfl 0 (by decide) fl0 hv dX5_read_59 kk) ?_
      refine ok.getIc hO hp_1 (by decide) k3_7 e_22 (fun _ _ he hv kk => th_getN (ci := 8) (C := RX8) (T := TX8) (N := 9) hx hb hts inX8 hown hK hH he rfl 7 (by decide) (nl_6 hK) hv dX5_read_62 kk) ?_
      exact th_iret hx hb hr hlocks hH hS (z := z_21) rz_21 ⟨hO, hF, trivial⟩ dX5_read_65
    · replace c_26 := mt (I_eq (a := z_24) (b := 259) rz_24 (show rng 259 from ⟨by decide, by decide⟩)).mpr c_26
      refine lv_iload hx hb dX5_read_39 (lv_at hl 2 rfl) ?_
      refine lv_sipush (v := I 400) hx hb dX5_read_41 (by decide) ?_
      refine lv_icmp_ge (tgt := 58) hx hb dX5_read_44 (by decide) (fun c_27 => ?_) (fun c_27 => ?_)
      · replace c_27 := (I_le (a := 400) (b := v4q19) (show rng 400 from ⟨by decide, by decide⟩) rv4q19).mp c_27
        refine lv_aload_n hx hb dX5_read_58 rfl (lv_at hl 0 rfl) ?_
        refine ok.getR hO h_a (by decide) k11_0 (by decide) (fun _ _ he hv kk => th_get (ci := 5) (C := RX5) (T := TX5) (N := 1) hx hb hts inX5 hown hK hH he rfl 0 (by decide) fl0 hv dX5_read_59 kk) ?_
        refine ok.getIc hO hp_1 (by decide) k3_7 e_22 (fun _ _ he hv kk => th_getN (ci := 8) (C := RX8) (T := TX8) (N := 9) hx hb hts inX8 hown hK hH he rfl 7 (by decide) (nl_6 hK) hv dX5_read_62 kk) ?_
        exact th_iret hx hb hr hlocks hH hS (z := z_21) rz_21 ⟨hO, hF, trivial⟩ dX5_read_65
      · replace c_27 := mt (I_le (a := 400) (b := v4q19) (show rng 400 from ⟨by decide, by decide⟩) rv4q19).mpr c_27
        refine lv_aload_n hx hb dX5_read_47 rfl (lv_at hl 0 rfl) ?_
        refine lv_aload_n hx hb dX5_read_48 rfl (lv_at hl 1 rfl) ?_
        obtain ⟨_, hc_28⟩ := hO.cell h_a (by decide) (ci := 5) rfl
        refine th_callv (va_runV (As := [.ref b]) (rest := []) ⟨hx, hb, hml, hown, hts⟩ (s_readStep l G y b0 σ_J_20 E hO a h_a b h_b) (cwV 1 hts gX5_read_X5_readStep rfl rfl rfl (by decide +kernel) ⟨Nat.le_of_ble_eq_true rfl, Nat.le_of_ble_eq_true rfl⟩) (th_PV hK hH rfl hc_28) rfl rfl hl.1 rfl (lv_room (Nat.le_of_ble_eq_true rfl)) dX5_read_49 ⟨Nat.le_of_ble_eq_true rfl, Nat.le_of_ble_eq_true rfl⟩) hS (fun σ_s_30 H locs hw_29 hH hS => ?_)
        obtain ⟨hO9, hF9, hw_29⟩ := hw_29
        replace hO := hO9
        replace hF := hF.tu hF9 (by decide)
        refine lv_iinc (v := I (v4q19 + 1)) (lv' := [(4, .int (I (v4q19 + 1))), (0, .ref a), (3, .ref b)]) hx hb dX5_read_52 hl (k := 2) rfl (I_add _ _) (by decide) rfl (fun ls hl => ?_)
        refine lv_goto (tgt := 16) hx hb dX5_read_55 (by decide) ?_
        exact ihJ_20 (v4q19 + 1) σ_s_30 _ _ _ (by first | omega | (dsimp only; omega)) ⟨hO, hF, hH, hS, lv_sub hl [1, 2, 0] rfl, ⟨by first | omega | (dsimp only; omega), by first | omega | (dsimp only; omega)⟩, by first | omega | (dsimp only; omega), by first | omega | (dsimp only; omega)⟩
