set_option maxHeartbeats 20000000 in
set_option maxRecDepth 100000 in
theorem p6_clear (l : Launch) (G : va_G) (y : Nat → ClassId) (b0 : Nat) (σ : th_M) (E : th_E) (hO : ok y E σ) (a : Nat) (h_a : kd E a = 4) : Met l yX4_clear wsX4_clear ({ frames := 0, cells := 0, slots := 0, locals := 0 }) (th_P G y b0 σ [.ref a]) (th_Qv G b0 (fun σ1 => ok y E σ1 ∧ fr [4] E σ σ1 ∧ (gI σ1 a 3 = 0 ∧ gI σ1 a 13 = 0))) 0 0 (th_A b0) := by
  refine Met.ofW (cc := cX4_clear) (maxL := 1) (ret := none) (by decide) rfl ?_
  intro p e s m args below meth c s₁ B hml hv
  obtain ⟨rfl, hH, hK⟩ := hv
  have hx := B.exec
  have hb := B.bytes
  have hr := B.returns
  have hts := atoms_spec (ws := wsX4_clear) B.pre
  have hown : s.vm.findClass RX4 = some m.cls := findClass_of_methodNamed B.named
  have hlocks := B.notSynchronized
  have h00 : b0 ≤ s.heap.size := hH.1
  have hS : va_S (th_A b0) s.heap s.heap [] := va_S.rf
  have hF : fr [4] E σ σ := fr.rf
  have inX4 : ∀ w ∈ wsX40, w ∈ wsX4_clear := by decide +kernel
  have fl0 := hts (.fieldLink RX4 43 "NestQuery$Path" "stepCount" "I") (by decide +kernel)
  have fl1 := hts (.fieldLink RX4 47 "NestQuery$Path" "codeCount" "I") (by decide +kernel)
  have fl2 := hts (.fieldLink RX4 50 "NestQuery$Path" "littleCount" "I") (by decide +kernel)
  have fl3 := hts (.fieldLink RX4 53 "NestQuery$Path" "testCount" "I") (by decide +kernel)
  have hl := lv_entry ([.ref a]) (n := 1) (Nat.le_of_ble_eq_true rfl)
  rw [lg_entry_eq]
  generalize (lg_sl ([.ref a]) ++ List.replicate (1 - (lg_sl ([.ref a])).length) Slot.unset).toArray = ls at hl ⊢
  have hl : lv_has ls 1 [(0, .ref a)] := hl
  refine lv_aload_n hx hb dX4_clear_0 rfl (lv_at hl 0 rfl) ?_
  refine lv_iconst (v := I 0) hx hb dX4_clear_1 (by decide) ?_
  refine ok.putI hO h_a (by decide) k4_3 (show rng 0 from ⟨by decide, by decide⟩) (by omega) (by omega) (fun _ he hl9 kk => th_put (ci := 4) (v := .int (I 0)) (ty := .int) (C := RX4) (T := TX4) (N := 14) hx hb hts inX4 tyX4 tyX4_ok nmX4 hown hK hH hS h00 he rfl 3 (by decide) fl0 rfl (by decide +kernel) rfl rfl hl9 dX4_clear_2 kk) (fun σ_s_1 H locs hO hF9 hg9 hi9 ha9 hH hS => ?_)
  replace hF := hF.tu hF9 (by decide)
  have e_2 := hg9
  refine lv_aload_n hx hb dX4_clear_5 rfl (lv_at hl 0 rfl) ?_
  refine lv_iconst (v := I 0) hx hb dX4_clear_6 (by decide) ?_
  refine ok.putI hO h_a (by decide) k4_5 (show rng 0 from ⟨by decide, by decide⟩) (by omega) (by omega) (fun _ he hl9 kk => th_put (ci := 4) (v := .int (I 0)) (ty := .int) (C := RX4) (T := TX4) (N := 14) hx hb hts inX4 tyX4 tyX4_ok nmX4 hown hK hH hS h00 he rfl 5 (by decide) fl1 rfl (by decide +kernel) rfl rfl hl9 dX4_clear_7 kk) (fun σ_s_3 H locs hO hF9 hg9 hi9 ha9 hH hS => ?_)
  replace hF := hF.tu hF9 (by decide)
  have e_4 : gI σ_s_3 a 3 = 0 := (hi9 _ _ (Or.inr (by decide))).trans e_2
  have e_5 := hg9
  refine lv_aload_n hx hb dX4_clear_10 rfl (lv_at hl 0 rfl) ?_
  refine lv_iconst (v := I 0) hx hb dX4_clear_11 (by decide) ?_
  refine ok.putI hO h_a (by decide) k4_8 (show rng 0 from ⟨by decide, by decide⟩) (by omega) (by omega) (fun _ he hl9 kk => th_put (ci := 4) (v := .int (I 0)) (ty := .int) (C := RX4) (T := TX4) (N := 14) hx hb hts inX4 tyX4 tyX4_ok nmX4 hown hK hH hS h00 he rfl 8 (by decide) fl2 rfl (by decide +kernel) rfl rfl hl9 dX4_clear_12 kk) (fun σ_s_6 H locs hO hF9 hg9 hi9 ha9 hH hS => ?_)
  replace hF := hF.tu hF9 (by decide)
  have e_7 : gI σ_s_6 a 3 = 0 := (hi9 _ _ (Or.inr (by decide))).trans e_4
  have e_8 : gI σ_s_6 a 5 = 0 := (hi9 _ _ (Or.inr (by decide))).trans e_5
  have e_9 := hg9
  refine lv_aload_n hx hb dX4_clear_15 rfl (lv_at hl 0 rfl) ?_
  refine lv_iconst (v := I 0) hx hb dX4_clear_16 (by decide) ?_
  refine ok.putI hO h_a (by decide) k4_13 (show rng 0 from ⟨by decide, by decide⟩) (by omega) (by omega) (fun _ he hl9 kk => th_put (ci := 4) (v := .int (I 0)) (ty := .int) (C := RX4) (T := TX4) (N := 14) hx hb hts inX4 tyX4 tyX4_ok nmX4 hown hK hH hS h00 he rfl 13 (by decide) fl3 rfl (by decide +kernel) rfl rfl hl9 dX4_clear_17 kk) (fun σ_s_10 H locs hO hF9 hg9 hi9 ha9 hH hS => ?_)
  replace hF := hF.tu hF9 (by decide)
  have e_11 : gI σ_s_10 a 3 = 0 := (hi9 _ _ (Or.inr (by decide))).trans e_7
  have e_12 : gI σ_s_10 a 5 = 0 := (hi9 _ _ (Or.inr (by decide))).trans e_8
  have e_13 : gI σ_s_10 a 8 = 0 := (hi9 _ _ (Or.inr (by decide))).trans e_9
  have e_14 := hg9
  exact th_vret hx hb hr hlocks hH hS ⟨hO, hF, ⟨by omega, by omega⟩⟩ dX4_clear_20

set_option maxHeartbeats 20000000 in
set_option maxRecDepth 100000 in
theorem p6_addStep (l : Launch) (G : va_G) (y : Nat → ClassId) (b0 : Nat) (σ : th_M) (E : th_E) (hO : ok y E σ) (a : Nat) (h_a : kd E a = 4) (w1 : Int) (rw1 : rng w1) (w2 : Int) (rw2 : rng w2) (w3 : Int) (rw3 : rng w3) : Met l yX4_addStep wsX4_addStep ({ frames := 0, cells := 0, slots := 0, locals := 0 }) (th_P G y b0 σ [.ref a, .int (I w1), .int (I w2), .int (I w3)]) (th_Qv G b0 (fun σ1 => ok y E σ1 ∧ fr [4] E σ σ1 ∧ (gI σ1 a 13 = gI σ a 13 ∧ (0 ≤ gI σ a 3 ∧ gI σ a 3 < 8 → gI σ1 a 3 = gI σ a 3 + 1) ∧ (¬ (0 ≤ gI σ a 3 ∧ gI σ a 3 < 8) → gI σ1 a 3 = gI σ a 3)))) 0 0 (th_A b0) := by
  refine Met.ofW (cc := cX4_addStep) (maxL := 4) (ret := none) (by decide) rfl ?_
  intro p e s m args below meth c s₁ B hml hv
  obtain ⟨rfl, hH, hK⟩ := hv
  have hx := B.exec
  have hb := B.bytes
  have hr := B.returns
  have hts := atoms_spec (ws := wsX4_addStep) B.pre
  have hown : s.vm.findClass RX4 = some m.cls := findClass_of_methodNamed B.named
  have hlocks := B.notSynchronized
  have h00 : b0 ≤ s.heap.size := hH.1
  have hS : va_S (th_A b0) s.heap s.heap [] := va_S.rf
  have hF : fr [4] E σ σ := fr.rf
  have inX4 : ∀ w ∈ wsX40, w ∈ wsX4_addStep := by decide +kernel
  have fl0 := hts (.fieldLink RX4 43 "NestQuery$Path" "stepCount" "I") (by decide +kernel)
  have fl1 := hts (.fieldLink RX4 9 "NestQuery$Path" "stepKinds" "[I") (by decide +kernel)
  have fl2 := hts (.fieldLink RX4 15 "NestQuery$Path" "stepFirsts" "[I") (by decide +kernel)
  have fl3 := hts (.fieldLink RX4 18 "NestQuery$Path" "stepSeconds" "[I") (by decide +kernel)
  have hl := lv_entry ([.ref a, .int (I w1), .int (I w2), .int (I w3)]) (n := 4) (Nat.le_of_ble_eq_true rfl)
  rw [lg_entry_eq]
  generalize (lg_sl ([.ref a, .int (I w1), .int (I w2), .int (I w3)]) ++ List.replicate (4 - (lg_sl ([.ref a, .int (I w1), .int (I w2), .int (I w3)])).length) Slot.unset).toArray = ls at hl ⊢
  have hl : lv_has ls 4 [(0, .ref a), (1, .int (I w1)), (2, .int (I w2)), (3, .int (I w3))] := hl
  obtain ⟨a30, ea30, ra30, la30, ua30⟩ := hO.gi h_a (by decide) k4_3
  obtain ⟨a130, ea130, ra130, la130, ua130⟩ := hO.gi h_a (by decide) k4_13
  refine lv_aload_n hx hb dX4_addStep_0 rfl (lv_at hl 0 rfl) ?_
  refine ok.getIc hO h_a (by decide) k4_3 ea30 (fun _ _ he hv kk => th_get (ci := 4) (C := RX4) (T := TX4) (N := 14) hx hb hts inX4 hown hK hH he rfl 3 (by decide) fl0 hv dX4_addStep_1 kk) ?_
  refine lv_if_lt (tgt := 56) hx hb dX4_addStep_4 (by decide) (fun c_1 => ?_) (fun c_1 => ?_)
  · replace c_1 := (I_lt (a := a30) (b := 0) ra30 (show rng 0 from ⟨by decide, by decide⟩)).mp c_1
    exact th_vret hx hb hr hlocks hH hS ⟨hO, hF, ⟨by omega, by omega, by omega⟩⟩ dX4_addStep_56
  · replace c_1 := mt (I_lt (a := a30) (b := 0) ra30 (show rng 0 from ⟨by decide, by decide⟩)).mpr c_1
    refine lv_aload_n hx hb dX4_addStep_7 rfl (lv_at hl 0 rfl) ?_
    refine ok.getIc hO h_a (by decide) k4_3 ea30 (fun _ _ he hv kk => th_get (ci := 4) (C := RX4) (T := TX4) (N := 14) hx hb hts inX4 hown hK hH he rfl 3 (by decide) fl0 hv dX4_addStep_8 kk) ?_
    refine lv_bipush (v := I 8) hx hb dX4_addStep_11 (by decide) ?_
    refine lv_icmp_ge (tgt := 56) hx hb dX4_addStep_13 (by decide) (fun c_2 => ?_) (fun c_2 => ?_)
    · replace c_2 := (I_le (a := 8) (b := a30) (show rng 8 from ⟨by decide, by decide⟩) ra30).mp c_2
      exact th_vret hx hb hr hlocks hH hS ⟨hO, hF, ⟨by omega, by omega, by omega⟩⟩ dX4_addStep_56
    · replace c_2 := mt (I_le (a := 8) (b := a30) (show rng 8 from ⟨by decide, by decide⟩) ra30).mpr c_2
      refine lv_aload_n hx hb dX4_addStep_16 rfl (lv_at hl 0 rfl) ?_
      refine ok.getR hO h_a (by decide) k4_0 (by decide) (fun _ _ he hv kk => th_get (ci := 4) (C := RX4) (T := TX4) (N := 14) hx hb hts inX4 hown hK hH he rfl 0 (by decide) fl1 hv dX4_addStep_17 kk) ?_
      refine lv_aload_n hx hb dX4_addStep_20 rfl (lv_at hl 0 rfl) ?_
      refine ok.getIc hO h_a (by decide) k4_3 ea30 (fun _ _ he hv kk => th_get (ci := 4) (C := RX4) (T := TX4) (N := 14) hx hb hts inX4 hown hK hH he rfl 3 (by decide) fl0 hv dX4_addStep_21 kk) ?_
      refine lv_iload_n hx hb dX4_addStep_24 rfl (lv_at hl 1 rfl) ?_
      refine ok_iast hx hb hK hH hS h00 hO h_a (by decide) k4_0 isA1 ra30 (by omega) (by omega) rw1 el1 dX4_addStep_25 (fun σ_s_3 H locs hO hF9 hi9 ha9 hH hS => ?_)
      replace hF := hF.tu hF9 (by decide)
      have e_4 : gI σ_s_3 a 3 = a30 := (hi9 _ _).trans ea30
      have e_5 : gI σ_s_3 a 13 = a130 := (hi9 _ _).trans ea130
      refine lv_aload_n hx hb dX4_addStep_26 rfl (lv_at hl 0 rfl) ?_
      refine ok.getR hO h_a (by decide) k4_1 (by decide) (fun _ _ he hv kk => th_get (ci := 4) (C := RX4) (T := TX4) (N := 14) hx hb hts inX4 hown hK hH he rfl 1 (by decide) fl2 hv dX4_addStep_27 kk) ?_
      refine lv_aload_n hx hb dX4_addStep_30 rfl (lv_at hl 0 rfl) ?_
      refine ok.getIc hO h_a (by decide) k4_3 e_4 (fun _ _ he hv kk => th_get (ci := 4) (C := RX4) (T := TX4) (N := 14) hx hb hts inX4 hown hK hH he rfl 3 (by decide) fl0 hv dX4_addStep_31 kk) ?_
      refine lv_iload_n hx hb dX4_addStep_34 rfl (lv_at hl 2 rfl) ?_
      refine ok_iast hx hb hK hH hS h00 hO h_a (by decide) k4_1 isA1 ra30 (by omega) (by omega) rw2 el1 dX4_addStep_35 (fun σ_s_6 H locs hO hF9 hi9 ha9 hH hS => ?_)
      replace hF := hF.tu hF9 (by decide)
      have e_7 : gI σ_s_6 a 3 = a30 := (hi9 _ _).trans e_4
      have e_8 : gI σ_s_6 a 13 = a130 := (hi9 _ _).trans e_5
      refine lv_aload_n hx hb dX4_addStep_36 rfl (lv_at hl 0 rfl) ?_
      refine ok.getR hO h_a (by decide) k4_2 (by decide) (fun _ _ he hv kk => th_get (ci := 4) (C := RX4) (T := TX4) (N := 14) hx hb hts inX4 hown hK hH he rfl 2 (by decide) fl3 hv dX4_addStep_37 kk) ?_
      refine lv_aload_n hx hb dX4_addStep_40 rfl (lv_at hl 0 rfl) ?_
      refine ok.getIc hO h_a (by decide) k4_3 e_7 (fun _ _ he hv kk => th_get (ci := 4) (C := RX4) (T := TX4) (N := 14) hx hb hts inX4 hown hK hH he rfl 3 (by decide) fl0 hv dX4_addStep_41 kk) ?_
      refine lv_iload_n hx hb dX4_addStep_44 rfl (lv_at hl 3 rfl) ?_
      refine ok_iast hx hb hK hH hS h00 hO h_a (by decide) k4_2 isA1 ra30 (by omega) (by omega) rw3 el1 dX4_addStep_45 (fun σ_s_9 H locs hO hF9 hi9 ha9 hH hS => ?_)
      replace hF := hF.tu hF9 (by decide)
      have e_10 : gI σ_s_9 a 3 = a30 := (hi9 _ _).trans e_7
      have e_11 : gI σ_s_9 a 13 = a130 := (hi9 _ _).trans e_8
      refine lv_aload_n hx hb dX4_addStep_46 rfl (lv_at hl 0 rfl) ?_
      refine lv_dup hx hb dX4_addStep_47 rfl ?_
      refine ok.getIc hO h_a (by decide) k4_3 e_10 (fun _ _ he hv kk => th_get (ci := 4) (C := RX4) (T := TX4) (N := 14) hx hb hts inX4 hown hK hH he rfl 3 (by decide) fl0 hv dX4_addStep_48 kk) ?_
      refine lv_iconst (v := I 1) hx hb dX4_addStep_51 (by decide) ?_
      refine lv_iadd hx hb dX4_addStep_52 ?_
      refine nq_top (I_add _ _) ?_
      refine ok.putI hO h_a (by decide) k4_3 ⟨by omega, by omega⟩ (by omega) (by omega) (fun _ he hl9 kk => th_put (ci := 4) (v := .int (I (a30 + 1))) (ty := .int) (C := RX4) (T := TX4) (N := 14) hx hb hts inX4 tyX4 tyX4_ok nmX4 hown hK hH hS h00 he rfl 3 (by decide) fl0 rfl (by decide +kernel) rfl rfl hl9 dX4_addStep_53 kk) (fun σ_s_12 H locs hO hF9 hg9 hi9 ha9 hH hS => ?_)
      replace hF := hF.tu hF9 (by decide)
      have e_13 : gI σ_s_12 a 13 = a130 := (hi9 _ _ (Or.inr (by decide))).trans e_11
      have e_14 := hg9
      exact th_vret hx hb hr hlocks hH hS ⟨hO, hF, ⟨by omega, by omega, by omega⟩⟩ dX4_addStep_56

set_option maxHeartbeats 20000000 in
set_option maxRecDepth 100000 in
theorem p6_addCode (l : Launch) (G : va_G) (y : Nat → ClassId) (b0 : Nat) (σ : th_M) (E : th_E) (hO : ok y E σ) (a : Nat) (h_a : kd E a = 4) (w1 : Int) (rw1 : rng w1) : Met l yX4_addCode wsX4_addCode ({ frames := 0, cells := 0, slots := 0, locals := 0 }) (th_P G y b0 σ [.ref a, .int (I w1)]) (th_Qv G b0 (fun σ1 => ok y E σ1 ∧ fr [4] E σ σ1 ∧ (gI σ1 a 13 = gI σ a 13 ∧ gI σ1 a 3 = gI σ a 3))) 0 0 (th_A b0) := by
  refine Met.ofW (cc := cX4_addCode) (maxL := 2) (ret := none) (by decide) rfl ?_
  intro p e s m args below meth c s₁ B hml hv
  obtain ⟨rfl, hH, hK⟩ := hv
  have hx := B.exec
  have hb := B.bytes
  have hr := B.returns
  have hts := atoms_spec (ws := wsX4_addCode) B.pre
  have hown : s.vm.findClass RX4 = some m.cls := findClass_of_methodNamed B.named
  have hlocks := B.notSynchronized
  have h00 : b0 ≤ s.heap.size := hH.1
  have hS : va_S (th_A b0) s.heap s.heap [] := va_S.rf
  have hF : fr [4] E σ σ := fr.rf
  have inX4 : ∀ w ∈ wsX40, w ∈ wsX4_addCode := by decide +kernel
  have fl0 := hts (.fieldLink RX4 47 "NestQuery$Path" "codeCount" "I") (by decide +kernel)
  have fl1 := hts (.fieldLink RX4 21 "NestQuery$Path" "code" "[I") (by decide +kernel)
  have hl := lv_entry ([.ref a, .int (I w1)]) (n := 2) (Nat.le_of_ble_eq_true rfl)
  rw [lg_entry_eq]
  generalize (lg_sl ([.ref a, .int (I w1)]) ++ List.replicate (2 - (lg_sl ([.ref a, .int (I w1)])).length) Slot.unset).toArray = ls at hl ⊢
  have hl : lv_has ls 2 [(0, .ref a), (1, .int (I w1))] := hl
  obtain ⟨a30, ea30, ra30, la30, ua30⟩ := hO.gi h_a (by decide) k4_3
  obtain ⟨a130, ea130, ra130, la130, ua130⟩ := hO.gi h_a (by decide) k4_13
  refine lv_aload_n hx hb dX4_addCode_0 rfl (lv_at hl 0 rfl) ?_
  refine ok.getI hO h_a (by decide) k4_5 (fun _ _ he hv kk => th_get (ci := 4) (C := RX4) (T := TX4) (N := 14) hx hb hts inX4 hown hK hH he rfl 5 (by decide) fl0 hv dX4_addCode_1 kk) (fun z_1 e_2 rz_1 lz_1 uz_1 => ?_)
  refine lv_if_lt (tgt := 37) hx hb dX4_addCode_4 (by decide) (fun c_3 => ?_) (fun c_3 => ?_)
  · replace c_3 := (I_lt (a := z_1) (b := 0) rz_1 (show rng 0 from ⟨by decide, by decide⟩)).mp c_3
    exact th_vret hx hb hr hlocks hH hS ⟨hO, hF, ⟨by omega, by omega⟩⟩ dX4_addCode_37
  · replace c_3 := mt (I_lt (a := z_1) (b := 0) rz_1 (show rng 0 from ⟨by decide, by decide⟩)).mpr c_3
    refine lv_aload_n hx hb dX4_addCode_7 rfl (lv_at hl 0 rfl) ?_
    refine ok.getIc hO h_a (by decide) k4_5 e_2 (fun _ _ he hv kk => th_get (ci := 4) (C := RX4) (T := TX4) (N := 14) hx hb hts inX4 hown hK hH he rfl 5 (by decide) fl0 hv dX4_addCode_8 kk) ?_
    refine lv_sipush (v := I 128) hx hb dX4_addCode_11 (by decide) ?_
    refine lv_icmp_ge (tgt := 37) hx hb dX4_addCode_14 (by decide) (fun c_4 => ?_) (fun c_4 => ?_)
    · replace c_4 := (I_le (a := 128) (b := z_1) (show rng 128 from ⟨by decide, by decide⟩) rz_1).mp c_4
      exact th_vret hx hb hr hlocks hH hS ⟨hO, hF, ⟨by omega, by omega⟩⟩ dX4_addCode_37
    · replace c_4 := mt (I_le (a := 128) (b := z_1) (show rng 128 from ⟨by decide, by decide⟩) rz_1).mpr c_4
      refine lv_aload_n hx hb dX4_addCode_17 rfl (lv_at hl 0 rfl) ?_
      refine ok.getR hO h_a (by decide) k4_4 (by decide) (fun _ _ he hv kk => th_get (ci := 4) (C := RX4) (T := TX4) (N := 14) hx hb hts inX4 hown hK hH he rfl 4 (by decide) fl1 hv dX4_addCode_18 kk) ?_
      refine lv_aload_n hx hb dX4_addCode_21 rfl (lv_at hl 0 rfl) ?_
      refine ok.getIc hO h_a (by decide) k4_5 e_2 (fun _ _ he hv kk => th_get (ci := 4) (C := RX4) (T := TX4) (N := 14) hx hb hts inX4 hown hK hH he rfl 5 (by decide) fl0 hv dX4_addCode_22 kk) ?_
      refine lv_iload_n hx hb dX4_addCode_25 rfl (lv_at hl 1 rfl) ?_
      refine ok_iast hx hb hK hH hS h00 hO h_a (by decide) k4_4 isA1 rz_1 (by omega) (by omega) rw1 el1 dX4_addCode_26 (fun σ_s_5 H locs hO hF9 hi9 ha9 hH hS => ?_)
      replace hF := hF.tu hF9 (by decide)
      have e_6 : gI σ_s_5 a 3 = a30 := (hi9 _ _).trans ea30
      have e_7 : gI σ_s_5 a 13 = a130 := (hi9 _ _).trans ea130
      have e_8 : gI σ_s_5 a 5 = z_1 := (hi9 _ _).trans e_2
      refine lv_aload_n hx hb dX4_addCode_27 rfl (lv_at hl 0 rfl) ?_
      refine lv_dup hx hb dX4_addCode_28 rfl ?_
      refine ok.getIc hO h_a (by decide) k4_5 e_8 (fun _ _ he hv kk => th_get (ci := 4) (C := RX4) (T := TX4) (N := 14) hx hb hts inX4 hown hK hH he rfl 5 (by decide) fl0 hv dX4_addCode_29 kk) ?_
      refine lv_iconst (v := I 1) hx hb dX4_addCode_32 (by decide) ?_
      refine lv_iadd hx hb dX4_addCode_33 ?_
      refine nq_top (I_add _ _) ?_
      refine ok.putI hO h_a (by decide) k4_5 ⟨by omega, by omega⟩ (by omega) (by omega) (fun _ he hl9 kk => th_put (ci := 4) (v := .int (I (z_1 + 1))) (ty := .int) (C := RX4) (T := TX4) (N := 14) hx hb hts inX4 tyX4 tyX4_ok nmX4 hown hK hH hS h00 he rfl 5 (by decide) fl0 rfl (by decide +kernel) rfl rfl hl9 dX4_addCode_34 kk) (fun σ_s_9 H locs hO hF9 hg9 hi9 ha9 hH hS => ?_)
      replace hF := hF.tu hF9 (by decide)
      have e_10 : gI σ_s_9 a 3 = a30 := (hi9 _ _ (Or.inr (by decide))).trans e_6
      have e_11 : gI σ_s_9 a 13 = a130 := (hi9 _ _ (Or.inr (by decide))).trans e_7
      have e_12 := hg9
      exact th_vret hx hb hr hlocks hH hS ⟨hO, hF, ⟨by omega, by omega⟩⟩ dX4_addCode_37

set_option maxHeartbeats 20000000 in
set_option maxRecDepth 100000 in
theorem p6_addLittle (l : Launch) (G : va_G) (y : Nat → ClassId) (b0 : Nat) (σ : th_M) (E : th_E) (hO : ok y E σ) (a : Nat) (h_a : kd E a = 4) (w1 : Int) (rw1 : rng w1) (l_w1 : 0 ≤ w1) (u_w1 : w1 ≤ 1) (w2 : Int) (rw2 : rng w2) : Met l yX4_addLittle wsX4_addLittle ({ frames := 0, cells := 0, slots := 0, locals := 0 }) (th_P G y b0 σ [.ref a, .int (I w1), .int (I w2)]) (th_Qv G b0 (fun σ1 => ok y E σ1 ∧ fr [4] E σ σ1 ∧ (gI σ1 a 13 = gI σ a 13 ∧ gI σ1 a 3 = gI σ a 3))) 0 0 (th_A b0) := by
  refine Met.ofW (cc := cX4_addLittle) (maxL := 3) (ret := none) (by decide) rfl ?_
  intro p e s m args below meth c s₁ B hml hv
  obtain ⟨rfl, hH, hK⟩ := hv
  have hx := B.exec
  have hb := B.bytes
  have hr := B.returns
  have hts := atoms_spec (ws := wsX4_addLittle) B.pre
  have hown : s.vm.findClass RX4 = some m.cls := findClass_of_methodNamed B.named
  have hlocks := B.notSynchronized
  have h00 : b0 ≤ s.heap.size := hH.1
  have hS : va_S (th_A b0) s.heap s.heap [] := va_S.rf
  have hF : fr [4] E σ σ := fr.rf
  have inX4 : ∀ w ∈ wsX40, w ∈ wsX4_addLittle := by decide +kernel
  have fl0 := hts (.fieldLink RX4 50 "NestQuery$Path" "littleCount" "I") (by decide +kernel)
  have fl1 := hts (.fieldLink RX4 24 "NestQuery$Path" "littleByKey" "[Z") (by decide +kernel)
  have fl2 := hts (.fieldLink RX4 28 "NestQuery$Path" "littleValues" "[I") (by decide +kernel)
  have hl := lv_entry ([.ref a, .int (I w1), .int (I w2)]) (n := 3) (Nat.le_of_ble_eq_true rfl)
  rw [lg_entry_eq]
  generalize (lg_sl ([.ref a, .int (I w1), .int (I w2)]) ++ List.replicate (3 - (lg_sl ([.ref a, .int (I w1), .int (I w2)])).length) Slot.unset).toArray = ls at hl ⊢
  have hl : lv_has ls 3 [(0, .ref a), (1, .int (I w1)), (2, .int (I w2))] := hl
  obtain ⟨a30, ea30, ra30, la30, ua30⟩ := hO.gi h_a (by decide) k4_3
  obtain ⟨a130, ea130, ra130, la130, ua130⟩ := hO.gi h_a (by decide) k4_13
  refine lv_aload_n hx hb dX4_addLittle_0 rfl (lv_at hl 0 rfl) ?_
  refine ok.getI hO h_a (by decide) k4_8 (fun _ _ he hv kk => th_get (ci := 4) (C := RX4) (T := TX4) (N := 14) hx hb hts inX4 hown hK hH he rfl 8 (by decide) fl0 hv dX4_addLittle_1 kk) (fun z_1 e_2 rz_1 lz_1 uz_1 => ?_)
  refine lv_if_lt (tgt := 47) hx hb dX4_addLittle_4 (by decide) (fun c_3 => ?_) (fun c_3 => ?_)
  · replace c_3 := (I_lt (a := z_1) (b := 0) rz_1 (show rng 0 from ⟨by decide, by decide⟩)).mp c_3
    exact th_vret hx hb hr hlocks hH hS ⟨hO, hF, ⟨by omega, by omega⟩⟩ dX4_addLittle_47
  · replace c_3 := mt (I_lt (a := z_1) (b := 0) rz_1 (show rng 0 from ⟨by decide, by decide⟩)).mpr c_3
    refine lv_aload_n hx hb dX4_addLittle_7 rfl (lv_at hl 0 rfl) ?_
    refine ok.getIc hO h_a (by decide) k4_8 e_2 (fun _ _ he hv kk => th_get (ci := 4) (C := RX4) (T := TX4) (N := 14) hx hb hts inX4 hown hK hH he rfl 8 (by decide) fl0 hv dX4_addLittle_8 kk) ?_
    refine lv_sipush (v := I 200) hx hb dX4_addLittle_11 (by decide) ?_
    refine lv_icmp_ge (tgt := 47) hx hb dX4_addLittle_14 (by decide) (fun c_4 => ?_) (fun c_4 => ?_)
    · replace c_4 := (I_le (a := 200) (b := z_1) (show rng 200 from ⟨by decide, by decide⟩) rz_1).mp c_4
      exact th_vret hx hb hr hlocks hH hS ⟨hO, hF, ⟨by omega, by omega⟩⟩ dX4_addLittle_47
    · replace c_4 := mt (I_le (a := 200) (b := z_1) (show rng 200 from ⟨by decide, by decide⟩) rz_1).mpr c_4
      refine lv_aload_n hx hb dX4_addLittle_17 rfl (lv_at hl 0 rfl) ?_
      refine ok.getR hO h_a (by decide) k4_6 (by decide) (fun _ _ he hv kk => th_get (ci := 4) (C := RX4) (T := TX4) (N := 14) hx hb hts inX4 hown hK hH he rfl 6 (by decide) fl1 hv dX4_addLittle_18 kk) ?_
      refine lv_aload_n hx hb dX4_addLittle_21 rfl (lv_at hl 0 rfl) ?_
      refine ok.getIc hO h_a (by decide) k4_8 e_2 (fun _ _ he hv kk => th_get (ci := 4) (C := RX4) (T := TX4) (N := 14) hx hb hts inX4 hown hK hH he rfl 8 (by decide) fl0 hv dX4_addLittle_22 kk) ?_
      refine lv_iload_n hx hb dX4_addLittle_25 rfl (lv_at hl 1 rfl) ?_
      refine ok_zast hx hb hK hH hS h00 hO h_a (by decide) k4_6 rz_1 (by omega) (by omega) (by omega) dX4_addLittle_26 (fun σ_s_5 H locs hO hF9 hi9 ha9 hH hS => ?_)
      replace hF := hF.tu hF9 (by decide)
      have e_6 : gI σ_s_5 a 3 = a30 := (hi9 _ _).trans ea30
      have e_7 : gI σ_s_5 a 13 = a130 := (hi9 _ _).trans ea130
      have e_8 : gI σ_s_5 a 8 = z_1 := (hi9 _ _).trans e_2
      refine lv_aload_n hx hb dX4_addLittle_27 rfl (lv_at hl 0 rfl) ?_
      refine ok.getR hO h_a (by decide) k4_7 (by decide) (fun _ _ he hv kk => th_get (ci := 4) (C := RX4) (T := TX4) (N := 14) hx hb hts inX4 hown hK hH he rfl 7 (by decide) fl2 hv dX4_addLittle_28 kk) ?_
      refine lv_aload_n hx hb dX4_addLittle_31 rfl (lv_at hl 0 rfl) ?_
      refine ok.getIc hO h_a (by decide) k4_8 e_8 (fun _ _ he hv kk => th_get (ci := 4) (C := RX4) (T := TX4) (N := 14) hx hb hts inX4 hown hK hH he rfl 8 (by decide) fl0 hv dX4_addLittle_32 kk) ?_
      refine lv_iload_n hx hb dX4_addLittle_35 rfl (lv_at hl 2 rfl) ?_
      refine ok_iast hx hb hK hH hS h00 hO h_a (by decide) k4_7 isA1 rz_1 (by omega) (by omega) rw2 el1 dX4_addLittle_36 (fun σ_s_9 H locs hO hF9 hi9 ha9 hH hS => ?_)
      replace hF := hF.tu hF9 (by decide)
      have e_10 : gI σ_s_9 a 3 = a30 := (hi9 _ _).trans e_6
      have e_11 : gI σ_s_9 a 13 = a130 := (hi9 _ _).trans e_7
      have e_12 : gI σ_s_9 a 8 = z_1 := (hi9 _ _).trans e_8
      refine lv_aload_n hx hb dX4_addLittle_37 rfl (lv_at hl 0 rfl) ?_
      refine lv_dup hx hb dX4_addLittle_38 rfl ?_
      refine ok.getIc hO h_a (by decide) k4_8 e_12 (fun _ _ he hv kk => th_get (ci := 4) (C := RX4) (T := TX4) (N := 14) hx hb hts inX4 hown hK hH he rfl 8 (by decide) fl0 hv dX4_addLittle_39 kk) ?_
      refine lv_iconst (v := I 1) hx hb dX4_addLittle_42 (by decide) ?_
      refine lv_iadd hx hb dX4_addLittle_43 ?_
      refine nq_top (I_add _ _) ?_
      refine ok.putI hO h_a (by decide) k4_8 ⟨by omega, by omega⟩ (by omega) (by omega) (fun _ he hl9 kk => th_put (ci := 4) (v := .int (I (z_1 + 1))) (ty := .int) (C := RX4) (T := TX4) (N := 14) hx hb hts inX4 tyX4 tyX4_ok nmX4 hown hK hH hS h00 he rfl 8 (by decide) fl0 rfl (by decide +kernel) rfl rfl hl9 dX4_addLittle_44 kk) (fun σ_s_13 H locs hO hF9 hg9 hi9 ha9 hH hS => ?_)
      replace hF := hF.tu hF9 (by decide)
      have e_14 : gI σ_s_13 a 3 = a30 := (hi9 _ _ (Or.inr (by decide))).trans e_10
      have e_15 : gI σ_s_13 a 13 = a130 := (hi9 _ _ (Or.inr (by decide))).trans e_11
      have e_16 := hg9
      exact th_vret hx hb hr hlocks hH hS ⟨hO, hF, ⟨by omega, by omega⟩⟩ dX4_addLittle_47

set_option maxHeartbeats 20000000 in
set_option maxRecDepth 100000 in
theorem p6_addTest (l : Launch) (G : va_G) (y : Nat → ClassId) (b0 : Nat) (σ : th_M) (E : th_E) (hO : ok y E σ) (a : Nat) (h_a : kd E a = 4) (w1 : Int) (rw1 : rng w1) (w2 : Int) (rw2 : rng w2) (w3 : Int) (rw3 : rng w3) : Met l yX4_addTest wsX4_addTest ({ frames := 1, cells := 0, slots := 0, locals := 25 }) (th_P G y b0 σ [.ref a, .int (I w1), .int (I w2), .int (I w3)]) (th_Qv G b0 (fun σ1 => ok y E σ1 ∧ fr [4] E σ σ1 ∧ ((gI σ a 13 < 12 → gI σ1 a 13 = gI σ a 13 + 1) ∧ (¬ gI σ a 13 < 12 → gI σ1 a 13 = gI σ a 13) ∧ gI σ1 a 3 = gI σ a 3))) 0 0 (th_A b0) := by
  refine Met.ofW (cc := cX4_addTest) (maxL := 4) (ret := none) (by decide) rfl ?_
  intro p e s m args below meth c s₁ B hml hv
  obtain ⟨rfl, hH, hK⟩ := hv
  have hx := B.exec
  have hb := B.bytes
  have hr := B.returns
  have hts := atoms_spec (ws := wsX4_addTest) B.pre
  have hown : s.vm.findClass RX4 = some m.cls := findClass_of_methodNamed B.named
  have hlocks := B.notSynchronized
  have h00 : b0 ≤ s.heap.size := hH.1
  have hS : va_S (th_A b0) s.heap s.heap [] := va_S.rf
  have hF : fr [4] E σ σ := fr.rf
  have inX4 : ∀ w ∈ wsX40, w ∈ wsX4_addTest := by decide +kernel
  have fl0 := hts (.fieldLink RX4 53 "NestQuery$Path" "testCount" "I") (by decide +kernel)
  have fl1 := hts (.fieldLink RX4 31 "NestQuery$Path" "testEnds" "[I") (by decide +kernel)
  have fl2 := hts (.fieldLink RX4 50 "NestQuery$Path" "littleCount" "I") (by decide +kernel)
  have fl3 := hts (.fieldLink RX4 34 "NestQuery$Path" "testSigns" "[I") (by decide +kernel)
  have fl4 := hts (.fieldLink RX4 37 "NestQuery$Path" "testKinds" "[I") (by decide +kernel)
  have fl5 := hts (.fieldLink RX4 40 "NestQuery$Path" "testValues" "[I") (by decide +kernel)
  have hl := lv_entry ([.ref a, .int (I w1), .int (I w2), .int (I w3)]) (n := 4) (Nat.le_of_ble_eq_true rfl)
  rw [lg_entry_eq]
  generalize (lg_sl ([.ref a, .int (I w1), .int (I w2), .int (I w3)]) ++ List.replicate (4 - (lg_sl ([.ref a, .int (I w1), .int (I w2), .int (I w3)])).length) Slot.unset).toArray = ls at hl ⊢
  have hl : lv_has ls 4 [(0, .ref a), (1, .int (I w1)), (2, .int (I w2)), (3, .int (I w3))] := hl
  obtain ⟨a30, ea30, ra30, la30, ua30⟩ := hO.gi h_a (by decide) k4_3
  obtain ⟨a130, ea130, ra130, la130, ua130⟩ := hO.gi h_a (by decide) k4_13
  refine lv_aload_n hx hb dX4_addTest_0 rfl (lv_at hl 0 rfl) ?_
  refine ok.getIc hO h_a (by decide) k4_13 ea130 (fun _ _ he hv kk => th_get (ci := 4) (C := RX4) (T := TX4) (N := 14) hx hb hts inX4 hown hK hH he rfl 13 (by decide) fl0 hv dX4_addTest_1 kk) ?_
  refine lv_if_lt (tgt := 77) hx hb dX4_addTest_4 (by decide) (fun c_1 => ?_) (fun c_1 => ?_)
  · replace c_1 := (I_lt (a := a130) (b := 0) ra130 (show rng 0 from ⟨by decide, by decide⟩)).mp c_1
    exact th_vret hx hb hr hlocks hH hS ⟨hO, hF, ⟨by omega, by omega, by omega⟩⟩ dX4_addTest_77
  · replace c_1 := mt (I_lt (a := a130) (b := 0) ra130 (show rng 0 from ⟨by decide, by decide⟩)).mpr c_1
    refine lv_aload_n hx hb dX4_addTest_7 rfl (lv_at hl 0 rfl) ?_
    refine ok.getIc hO h_a (by decide) k4_13 ea130 (fun _ _ he hv kk => th_get (ci := 4) (C := RX4) (T := TX4) (N := 14) hx hb hts inX4 hown hK hH he rfl 13 (by decide) fl0 hv dX4_addTest_8 kk) ?_
    refine lv_bipush (v := I 12) hx hb dX4_addTest_11 (by decide) ?_
    refine lv_icmp_ge (tgt := 77) hx hb dX4_addTest_13 (by decide) (fun c_2 => ?_) (fun c_2 => ?_)
    · replace c_2 := (I_le (a := 12) (b := a130) (show rng 12 from ⟨by decide, by decide⟩) ra130).mp c_2
      exact th_vret hx hb hr hlocks hH hS ⟨hO, hF, ⟨by omega, by omega, by omega⟩⟩ dX4_addTest_77
    · replace c_2 := mt (I_le (a := 12) (b := a130) (show rng 12 from ⟨by decide, by decide⟩) ra130).mpr c_2
      refine lv_aload_n hx hb dX4_addTest_16 rfl (lv_at hl 0 rfl) ?_
      refine ok.getR hO h_a (by decide) k4_9 (by decide) (fun _ _ he hv kk => th_get (ci := 4) (C := RX4) (T := TX4) (N := 14) hx hb hts inX4 hown hK hH he rfl 9 (by decide) fl1 hv dX4_addTest_17 kk) ?_
      refine lv_aload_n hx hb dX4_addTest_20 rfl (lv_at hl 0 rfl) ?_
      refine ok.getIc hO h_a (by decide) k4_13 ea130 (fun _ _ he hv kk => th_get (ci := 4) (C := RX4) (T := TX4) (N := 14) hx hb hts inX4 hown hK hH he rfl 13 (by decide) fl0 hv dX4_addTest_21 kk) ?_
      refine lv_aload_n hx hb dX4_addTest_24 rfl (lv_at hl 0 rfl) ?_
      refine ok.getI hO h_a (by decide) k4_8 (fun _ _ he hv kk => th_get (ci := 4) (C := RX4) (T := TX4) (N := 14) hx hb hts inX4 hown hK hH he rfl 8 (by decide) fl2 hv dX4_addTest_25 kk) (fun z_3 e_4 rz_3 lz_3 uz_3 => ?_)
      refine ok_iast hx hb hK hH hS h00 hO h_a (by decide) k4_9 isA1 ra130 (by omega) (by omega) rz_3 el1 dX4_addTest_28 (fun σ_s_5 H locs hO hF9 hi9 ha9 hH hS => ?_)
      replace hF := hF.tu hF9 (by decide)
      have e_6 : gI σ_s_5 a 3 = a30 := (hi9 _ _).trans ea30
      have e_7 : gI σ_s_5 a 13 = a130 := (hi9 _ _).trans ea130
      have e_8 : gI σ_s_5 a 8 = z_3 := (hi9 _ _).trans e_4
      refine lv_aload_n hx hb dX4_addTest_29 rfl (lv_at hl 0 rfl) ?_
      refine ok.getR hO h_a (by decide) k4_10 (by decide) (fun _ _ he hv kk => th_get (ci := 4) (C := RX4) (T := TX4) (N := 14) hx hb hts inX4 hown hK hH he rfl 10 (by decide) fl3 hv dX4_addTest_30 kk) ?_
      refine lv_aload_n hx hb dX4_addTest_33 rfl (lv_at hl 0 rfl) ?_
      refine ok.getIc hO h_a (by decide) k4_13 e_7 (fun _ _ he hv kk => th_get (ci := 4) (C := RX4) (T := TX4) (N := 14) hx hb hts inX4 hown hK hH he rfl 13 (by decide) fl0 hv dX4_addTest_34 kk) ?_
      refine lv_iload_n hx hb dX4_addTest_37 rfl (lv_at hl 1 rfl) ?_
      refine ok_iast hx hb hK hH hS h00 hO h_a (by decide) k4_10 isA1 ra130 (by omega) (by omega) rw1 el1 dX4_addTest_38 (fun σ_s_9 H locs hO hF9 hi9 ha9 hH hS => ?_)
      replace hF := hF.tu hF9 (by decide)
      have e_10 : gI σ_s_9 a 3 = a30 := (hi9 _ _).trans e_6
      have e_11 : gI σ_s_9 a 13 = a130 := (hi9 _ _).trans e_7
      have e_12 : gI σ_s_9 a 8 = z_3 := (hi9 _ _).trans e_8
      refine lv_aload_n hx hb dX4_addTest_39 rfl (lv_at hl 0 rfl) ?_
      refine ok.getR hO h_a (by decide) k4_11 (by decide) (fun _ _ he hv kk => th_get (ci := 4) (C := RX4) (T := TX4) (N := 14) hx hb hts inX4 hown hK hH he rfl 11 (by decide) fl4 hv dX4_addTest_40 kk) ?_
      refine lv_aload_n hx hb dX4_addTest_43 rfl (lv_at hl 0 rfl) ?_
      refine ok.getIc hO h_a (by decide) k4_13 e_11 (fun _ _ he hv kk => th_get (ci := 4) (C := RX4) (T := TX4) (N := 14) hx hb hts inX4 hown hK hH he rfl 13 (by decide) fl0 hv dX4_addTest_44 kk) ?_
      refine lv_iload_n hx hb dX4_addTest_47 rfl (lv_at hl 2 rfl) ?_
      refine ok_iast hx hb hK hH hS h00 hO h_a (by decide) k4_11 isA1 ra130 (by omega) (by omega) rw2 el1 dX4_addTest_48 (fun σ_s_13 H locs hO hF9 hi9 ha9 hH hS => ?_)
      replace hF := hF.tu hF9 (by decide)
      have e_14 : gI σ_s_13 a 3 = a30 := (hi9 _ _).trans e_10
      have e_15 : gI σ_s_13 a 13 = a130 := (hi9 _ _).trans e_11
      have e_16 : gI σ_s_13 a 8 = z_3 := (hi9 _ _).trans e_12
      refine lv_aload_n hx hb dX4_addTest_49 rfl (lv_at hl 0 rfl) ?_
      refine ok.getR hO h_a (by decide) k4_12 (by decide) (fun _ _ he hv kk => th_get (ci := 4) (C := RX4) (T := TX4) (N := 14) hx hb hts inX4 hown hK hH he rfl 12 (by decide) fl5 hv dX4_addTest_50 kk) ?_
      refine lv_aload_n hx hb dX4_addTest_53 rfl (lv_at hl 0 rfl) ?_
      refine ok.getIc hO h_a (by decide) k4_13 e_15 (fun _ _ he hv kk => th_get (ci := 4) (C := RX4) (T := TX4) (N := 14) hx hb hts inX4 hown hK hH he rfl 13 (by decide) fl0 hv dX4_addTest_54 kk) ?_
      refine lv_iload_n hx hb dX4_addTest_57 rfl (lv_at hl 3 rfl) ?_
      refine ok_iast hx hb hK hH hS h00 hO h_a (by decide) k4_12 isA1 ra130 (by omega) (by omega) rw3 el1 dX4_addTest_58 (fun σ_s_17 H locs hO hF9 hi9 ha9 hH hS => ?_)
      replace hF := hF.tu hF9 (by decide)
      have e_18 : gI σ_s_17 a 3 = a30 := (hi9 _ _).trans e_14
      have e_19 : gI σ_s_17 a 13 = a130 := (hi9 _ _).trans e_15
      have e_20 : gI σ_s_17 a 8 = z_3 := (hi9 _ _).trans e_16
      refine lv_aload_n hx hb dX4_addTest_59 rfl (lv_at hl 0 rfl) ?_
      refine lv_aload_n hx hb dX4_addTest_60 rfl (lv_at hl 0 rfl) ?_
      refine ok.getIc hO h_a (by decide) k4_13 e_19 (fun _ _ he hv kk => th_get (ci := 4) (C := RX4) (T := TX4) (N := 14) hx hb hts inX4 hown hK hH he rfl 13 (by decide) fl0 hv dX4_addTest_61 kk) ?_
      obtain ⟨_, hc_21⟩ := hO.cell h_a (by decide) (ci := 4) rfl
      refine th_callv (va_runV (As := [.int (I a130)]) (rest := []) ⟨hx, hb, hml, hown, hts⟩ (p6_addCode l G y b0 σ_s_17 E hO a h_a a130 (show rng a130 from ra130)) (cwV 1 hts gX4_addTest_X4_addCode rfl rfl rfl (by decide +kernel) ⟨Nat.le_of_ble_eq_true rfl, Nat.le_of_ble_eq_true rfl⟩) (th_PV hK hH rfl hc_21) rfl rfl hl.1 rfl (lv_room (Nat.le_of_ble_eq_true rfl)) dX4_addTest_64 ⟨Nat.le_of_ble_eq_true rfl, Nat.le_of_ble_eq_true rfl⟩) hS (fun σ_s_23 H locs hw_22 hH hS => ?_)
      obtain ⟨hO9, hF9, hw_22⟩ := hw_22
      replace hO := hO9
      replace hF := hF.tu hF9 (by decide)
      replace hw_22 : gI σ_s_23 a 13 = gI σ_s_17 a 13 ∧ gI σ_s_23 a 3 = gI σ_s_17 a 3 := hw_22
      obtain ⟨z_24, e_25, rz_24, lz_24, uz_24⟩ := hO.gi h_a (by decide) k4_3
      obtain ⟨z_26, e_27, rz_26, lz_26, uz_26⟩ := hO.gi h_a (by decide) k4_13
      refine lv_aload_n hx hb dX4_addTest_67 rfl (lv_at hl 0 rfl) ?_
      refine lv_dup hx hb dX4_addTest_68 rfl ?_
      refine ok.getIc hO h_a (by decide) k4_13 e_27 (fun _ _ he hv kk => th_get (ci := 4) (C := RX4) (T := TX4) (N := 14) hx hb hts inX4 hown hK hH he rfl 13 (by decide) fl0 hv dX4_addTest_69 kk) ?_
      refine lv_iconst (v := I 1) hx hb dX4_addTest_72 (by decide) ?_
      refine lv_iadd hx hb dX4_addTest_73 ?_
      refine nq_top (I_add _ _) ?_
      refine ok.putI hO h_a (by decide) k4_13 ⟨by omega, by omega⟩ (by omega) (by omega) (fun _ he hl9 kk => th_put (ci := 4) (v := .int (I (z_26 + 1))) (ty := .int) (C := RX4) (T := TX4) (N := 14) hx hb hts inX4 tyX4 tyX4_ok nmX4 hown hK hH hS h00 he rfl 13 (by decide) fl0 rfl (by decide +kernel) rfl rfl hl9 dX4_addTest_74 kk) (fun σ_s_28 H locs hO hF9 hg9 hi9 ha9 hH hS => ?_)
      replace hF := hF.tu hF9 (by decide)
      have e_29 : gI σ_s_28 a 3 = z_24 := (hi9 _ _ (Or.inr (by decide))).trans e_25
      have e_30 := hg9
      exact th_vret hx hb hr hlocks hH hS ⟨hO, hF, ⟨by omega, by omega, by omega⟩⟩ dX4_addTest_77
