set_option maxHeartbeats 4000000 in
set_option maxRecDepth 100000 in
theorem f_fail (l : Launch) (G : va_G) (y : Nat → ClassId) (b0 : Nat) (σ : th_M) (E : th_E) (hO : ok y E σ) (a : Nat) (h_a : kd E a = 3) (x : Int) (rx : rng x) (T : tkT) (fc jt : Int) (hT0 : TSt E σ a T fc jt) (hy0 : x ≠ 0) : Met l yX8_fail wsX8_fail ({ frames := 0, cells := 0, slots := 0, locals := 0 }) (th_P G y b0 σ [.ref a, .int (I x)]) (th_Qv G b0 (fun σ1 => ok y E σ1 ∧ fr [3] E σ σ1 ∧ (∃ c1 j1, TSt E σ1 a T c1 j1 ∧ j1 = jt ∧ (fc = 0 → c1 = x) ∧ (fc ≠ 0 → c1 = fc)))) 0 0 (th_A b0) := by
  refine Met.ofW (cc := cX8_fail) (maxL := 2) (ret := none) (by decide) rfl ?_
  intro p e s m args below meth c s₁ B hml hv
  obtain ⟨rfl, hH, hK⟩ := hv
  have hx := B.exec
  have hb := B.bytes
  have hr := B.returns
  have hts := atoms_spec (ws := wsX8_fail) B.pre
  have hown : s.vm.findClass RX8 = some m.cls := findClass_of_methodNamed B.named
  have hlocks := B.notSynchronized
  have h00 : b0 ≤ s.heap.size := hH.1
  have hS : va_S (th_A b0) s.heap s.heap [] := va_S.rf
  have hF : fr [3] E σ σ := fr.rf
  have hm9 : gI σ a 4 = tm T := hT0.1.2.2.2.2
  have hn9 := hT0.2.1 jt (by have := hT0.2.2; omega) (by have := hT0.2.2; omega)
  have inX8 : ∀ w ∈ wsX80, w ∈ wsX8_fail := by decide +kernel
  have fl0 := hts (.fieldLink RX8 58 "NestQuery$Tokens" "fault" "I") (by decide +kernel)
  have fl1 := hts (.fieldLink RX8 64 "NestQuery$Tokens" "kind" "I") (by decide +kernel)
  have fl2 := hts (.fieldLink RX8 61 "NestQuery$Tokens" "at" "I") (by decide +kernel)
  have fl3 := hts (.fieldLink RX8 15 "NestQuery$Tokens" "starts" "[I") (by decide +kernel)
  have fl4 := hts (.fieldLink RX8 24 "NestQuery$Tokens" "faultPlace" "I") (by decide +kernel)
  have hl := lv_entry ([.ref a, .int (I x)]) (n := 2) (Nat.le_of_ble_eq_true rfl)
  rw [lg_entry_eq]
  generalize (lg_sl ([.ref a, .int (I x)]) ++ List.replicate (2 - (lg_sl ([.ref a, .int (I x)])).length) Slot.unset).toArray = ls at hl ⊢
  have hl : lv_has ls 2 [(0, .ref a), (1, .int (I x))] := hl
  obtain ⟨a40, ea40, ra40, la40, ua40⟩ := hO.gi h_a (by decide) k3_4
  obtain ⟨a50, ea50, ra50, la50, ua50⟩ := hO.gi h_a (by decide) k3_5
  obtain ⟨a60, ea60, ra60, la60, ua60⟩ := hO.gi h_a (by decide) k3_6
  obtain ⟨a70, ea70, ra70, la70, ua70⟩ := hO.gi h_a (by decide) k3_7
  obtain ⟨a80, ea80, ra80, la80, ua80⟩ := hO.gi h_a (by decide) k3_8
  have hU0 := hT0.2.2
  have htk0 := hT0.1
  refine lv_aload_n hx hb dX8_fail_0 rfl (lv_at hl 0 rfl) ?_
  refine ok.getIc hO h_a (by decide) k3_7 ea70 (fun _ _ he hv kk => th_get (ci := 8) (C := RX8) (T := TX8) (N := 9) hx hb hts inX8 hown hK hH he rfl 7 (by decide) fl0 hv dX8_fail_1 kk) ?_
  refine lv_if_ne (tgt := 42) hx hb dX8_fail_4 (by decide) (fun c_1 => ?_) (fun c_1 => ?_)
  · replace c_1 := mt (I_eq (a := a70) (b := 0) ra70 (show rng 0 from ⟨by decide, by decide⟩)).mpr c_1
    refine lv_aload_n hx hb dX8_fail_42 rfl (lv_at hl 0 rfl) ?_
    refine lv_sipush (v := I 260) hx hb dX8_fail_43 (by decide) ?_
    refine ok.putI hO h_a (by decide) k3_6 (show rng 260 from ⟨by decide, by decide⟩) (by omega) (by omega) (fun _ he hl9 kk => th_put (ci := 8) (v := .int (I 260)) (ty := .int) (C := RX8) (T := TX8) (N := 9) hx hb hts inX8 tyX8 tyX8_ok nmX8 hown hK hH hS h00 he rfl 6 (by decide) fl1 rfl (by decide +kernel) rfl rfl hl9 dX8_fail_46 kk) (fun σ_s_2 H locs hO hF9 hg9 hi9 ha9 hH hS => ?_)
    replace hF := hF.tu hF9 (by decide)
    have e_3 : gI σ_s_2 a 4 = a40 := (hi9 _ _ (Or.inr (by decide))).trans ea40
    have e_4 : gI σ_s_2 a 5 = a50 := (hi9 _ _ (Or.inr (by decide))).trans ea50
    have e_5 : gI σ_s_2 a 7 = a70 := (hi9 _ _ (Or.inr (by decide))).trans ea70
    have e_6 : gI σ_s_2 a 8 = a80 := (hi9 _ _ (Or.inr (by decide))).trans ea80
    have htk_7 : tks E σ_s_2 a T := tks.put htk0 ha9 (hi9 _ _ (Or.inr (by decide)))
    have e_8 := hg9
    exact th_vret hx hb hr hlocks hH hS ⟨hO, hF, ⟨a70, jt, ⟨htk_7, hT0.2.1, by omega⟩, rfl, by omega, by omega⟩⟩ dX8_fail_49
  · replace c_1 := (I_eq (a := a70) (b := 0) ra70 (show rng 0 from ⟨by decide, by decide⟩)).mp c_1
    refine lv_aload_n hx hb dX8_fail_7 rfl (lv_at hl 0 rfl) ?_
    refine ok.getIc hO h_a (by decide) k3_5 ea50 (fun _ _ he hv kk => th_get (ci := 8) (C := RX8) (T := TX8) (N := 9) hx hb hts inX8 hown hK hH he rfl 5 (by decide) fl2 hv dX8_fail_8 kk) ?_
    refine lv_if_lt (tgt := 42) hx hb dX8_fail_11 (by decide) (fun c_9 => ?_) (fun c_9 => ?_)
    · replace c_9 := (I_lt (a := a50) (b := 0) ra50 (show rng 0 from ⟨by decide, by decide⟩)).mp c_9
      refine lv_aload_n hx hb dX8_fail_42 rfl (lv_at hl 0 rfl) ?_
      refine lv_sipush (v := I 260) hx hb dX8_fail_43 (by decide) ?_
      refine ok.putI hO h_a (by decide) k3_6 (show rng 260 from ⟨by decide, by decide⟩) (by omega) (by omega) (fun _ he hl9 kk => th_put (ci := 8) (v := .int (I 260)) (ty := .int) (C := RX8) (T := TX8) (N := 9) hx hb hts inX8 tyX8 tyX8_ok nmX8 hown hK hH hS h00 he rfl 6 (by decide) fl1 rfl (by decide +kernel) rfl rfl hl9 dX8_fail_46 kk) (fun σ_s_10 H locs hO hF9 hg9 hi9 ha9 hH hS => ?_)
      replace hF := hF.tu hF9 (by decide)
      have e_11 : gI σ_s_10 a 4 = a40 := (hi9 _ _ (Or.inr (by decide))).trans ea40
      have e_12 : gI σ_s_10 a 5 = a50 := (hi9 _ _ (Or.inr (by decide))).trans ea50
      have e_13 : gI σ_s_10 a 7 = a70 := (hi9 _ _ (Or.inr (by decide))).trans ea70
      have e_14 : gI σ_s_10 a 8 = a80 := (hi9 _ _ (Or.inr (by decide))).trans ea80
      have htk_15 : tks E σ_s_10 a T := tks.put htk0 ha9 (hi9 _ _ (Or.inr (by decide)))
      have e_16 := hg9
      exact th_vret hx hb hr hlocks hH hS ⟨hO, hF, ⟨a70, jt, ⟨htk_15, hT0.2.1, by omega⟩, rfl, by omega, by omega⟩⟩ dX8_fail_49
    · replace c_9 := mt (I_lt (a := a50) (b := 0) ra50 (show rng 0 from ⟨by decide, by decide⟩)).mpr c_9
      refine lv_aload_n hx hb dX8_fail_14 rfl (lv_at hl 0 rfl) ?_
      refine ok.getIc hO h_a (by decide) k3_5 ea50 (fun _ _ he hv kk => th_get (ci := 8) (C := RX8) (T := TX8) (N := 9) hx hb hts inX8 hown hK hH he rfl 5 (by decide) fl2 hv dX8_fail_15 kk) ?_
      refine lv_sipush (v := I 401) hx hb dX8_fail_18 (by decide) ?_
      refine lv_icmp_ge (tgt := 42) hx hb dX8_fail_21 (by decide) (fun c_17 => ?_) (fun c_17 => ?_)
      · replace c_17 := (I_le (a := 401) (b := a50) (show rng 401 from ⟨by decide, by decide⟩) ra50).mp c_17
        refine lv_aload_n hx hb dX8_fail_42 rfl (lv_at hl 0 rfl) ?_
        refine lv_sipush (v := I 260) hx hb dX8_fail_43 (by decide) ?_
        refine ok.putI hO h_a (by decide) k3_6 (show rng 260 from ⟨by decide, by decide⟩) (by omega) (by omega) (fun _ he hl9 kk => th_put (ci := 8) (v := .int (I 260)) (ty := .int) (C := RX8) (T := TX8) (N := 9) hx hb hts inX8 tyX8 tyX8_ok nmX8 hown hK hH hS h00 he rfl 6 (by decide) fl1 rfl (by decide +kernel) rfl rfl hl9 dX8_fail_46 kk) (fun σ_s_18 H locs hO hF9 hg9 hi9 ha9 hH hS => ?_)
        replace hF := hF.tu hF9 (by decide)
        have e_19 : gI σ_s_18 a 4 = a40 := (hi9 _ _ (Or.inr (by decide))).trans ea40
        have e_20 : gI σ_s_18 a 5 = a50 := (hi9 _ _ (Or.inr (by decide))).trans ea50
        have e_21 : gI σ_s_18 a 7 = a70 := (hi9 _ _ (Or.inr (by decide))).trans ea70
        have e_22 : gI σ_s_18 a 8 = a80 := (hi9 _ _ (Or.inr (by decide))).trans ea80
        have htk_23 : tks E σ_s_18 a T := tks.put htk0 ha9 (hi9 _ _ (Or.inr (by decide)))
        have e_24 := hg9
        exact th_vret hx hb hr hlocks hH hS ⟨hO, hF, ⟨a70, jt, ⟨htk_23, hT0.2.1, by omega⟩, rfl, by omega, by omega⟩⟩ dX8_fail_49
      · replace c_17 := mt (I_le (a := 401) (b := a50) (show rng 401 from ⟨by decide, by decide⟩) ra50).mpr c_17
        refine lv_aload_n hx hb dX8_fail_24 rfl (lv_at hl 0 rfl) ?_
        refine lv_iload_n hx hb dX8_fail_25 rfl (lv_at hl 1 rfl) ?_
        refine ok.putI hO h_a (by decide) k3_7 rx (by omega) (by omega) (fun _ he hl9 kk => th_put (ci := 8) (v := .int (I x)) (ty := .int) (C := RX8) (T := TX8) (N := 9) hx hb hts inX8 tyX8 tyX8_ok nmX8 hown hK hH hS h00 he rfl 7 (by decide) fl0 rfl (by decide +kernel) rfl rfl hl9 dX8_fail_26 kk) (fun σ_s_25 H locs hO hF9 hg9 hi9 ha9 hH hS => ?_)
        replace hF := hF.tu hF9 (by decide)
        have e_26 : gI σ_s_25 a 4 = a40 := (hi9 _ _ (Or.inr (by decide))).trans ea40
        have e_27 : gI σ_s_25 a 5 = a50 := (hi9 _ _ (Or.inr (by decide))).trans ea50
        have e_28 : gI σ_s_25 a 6 = a60 := (hi9 _ _ (Or.inr (by decide))).trans ea60
        have e_29 : gI σ_s_25 a 8 = a80 := (hi9 _ _ (Or.inr (by decide))).trans ea80
        have htk_30 : tks E σ_s_25 a T := tks.put htk0 ha9 (hi9 _ _ (Or.inr (by decide)))
        have e_31 := hg9
        refine lv_aload_n hx hb dX8_fail_29 rfl (lv_at hl 0 rfl) ?_
        refine lv_aload_n hx hb dX8_fail_30 rfl (lv_at hl 0 rfl) ?_
        refine ok.getR hO h_a (by decide) k3_1 (by decide) (fun _ _ he hv kk => th_get (ci := 8) (C := RX8) (T := TX8) (N := 9) hx hb hts inX8 hown hK hH he rfl 1 (by decide) fl3 hv dX8_fail_31 kk) ?_
        refine lv_aload_n hx hb dX8_fail_34 rfl (lv_at hl 0 rfl) ?_
        refine ok.getIc hO h_a (by decide) k3_5 e_27 (fun _ _ he hv kk => th_get (ci := 8) (C := RX8) (T := TX8) (N := 9) hx hb hts inX8 hown hK hH he rfl 5 (by decide) fl2 hv dX8_fail_35 kk) ?_
        refine ok_iald hx hb hK hH hO h_a (by decide) k3_1 isA1 ra50 (by omega) (by omega) dX8_fail_38 (fun z_32 ez_32 rz_32 el9 => ?_)
        have ht_33 : tS T a50 = z_32 := by unfold tS; rw [← htk_30.2.1]; exact ez_32
        have hqht_33 : fc = 0 → tS T jt = z_32 := fun h9 => by rw [show jt = a50 by omega]; exact ht_33
        refine ok.putI hO h_a (by decide) k3_8 rz_32 (by omega) (by omega) (fun _ he hl9 kk => th_put (ci := 8) (v := .int (I z_32)) (ty := .int) (C := RX8) (T := TX8) (N := 9) hx hb hts inX8 tyX8 tyX8_ok nmX8 hown hK hH hS h00 he rfl 8 (by decide) fl4 rfl (by decide +kernel) rfl rfl hl9 dX8_fail_39 kk) (fun σ_s_34 H locs hO hF9 hg9 hi9 ha9 hH hS => ?_)
        replace hF := hF.tu hF9 (by decide)
        have e_35 : gI σ_s_34 a 4 = a40 := (hi9 _ _ (Or.inr (by decide))).trans e_26
        have e_36 : gI σ_s_34 a 5 = a50 := (hi9 _ _ (Or.inr (by decide))).trans e_27
        have e_37 : gI σ_s_34 a 6 = a60 := (hi9 _ _ (Or.inr (by decide))).trans e_28
        have e_38 : gI σ_s_34 a 7 = x := (hi9 _ _ (Or.inr (by decide))).trans e_31
        have htk_39 : tks E σ_s_34 a T := tks.put htk_30 ha9 (hi9 _ _ (Or.inr (by decide)))
        have e_40 := hg9
        refine lv_aload_n hx hb dX8_fail_42 rfl (lv_at hl 0 rfl) ?_
        refine lv_sipush (v := I 260) hx hb dX8_fail_43 (by decide) ?_
        refine ok.putI hO h_a (by decide) k3_6 (show rng 260 from ⟨by decide, by decide⟩) (by omega) (by omega) (fun _ he hl9 kk => th_put (ci := 8) (v := .int (I 260)) (ty := .int) (C := RX8) (T := TX8) (N := 9) hx hb hts inX8 tyX8 tyX8_ok nmX8 hown hK hH hS h00 he rfl 6 (by decide) fl1 rfl (by decide +kernel) rfl rfl hl9 dX8_fail_46 kk) (fun σ_s_41 H locs hO hF9 hg9 hi9 ha9 hH hS => ?_)
        replace hF := hF.tu hF9 (by decide)
        have e_42 : gI σ_s_41 a 4 = a40 := (hi9 _ _ (Or.inr (by decide))).trans e_35
        have e_43 : gI σ_s_41 a 5 = a50 := (hi9 _ _ (Or.inr (by decide))).trans e_36
        have e_44 : gI σ_s_41 a 7 = x := (hi9 _ _ (Or.inr (by decide))).trans e_38
        have e_45 : gI σ_s_41 a 8 = z_32 := (hi9 _ _ (Or.inr (by decide))).trans e_40
        have htk_46 : tks E σ_s_41 a T := tks.put htk_39 ha9 (hi9 _ _ (Or.inr (by decide)))
        have e_47 := hg9
        exact th_vret hx hb hr hlocks hH hS ⟨hO, hF, ⟨x, jt, ⟨htk_46, hT0.2.1, by omega⟩, rfl, by omega, by omega⟩⟩ dX8_fail_49

set_option maxHeartbeats 4000000 in
set_option maxRecDepth 100000 in
theorem f_step (l : Launch) (G : va_G) (y : Nat → ClassId) (b0 : Nat) (σ : th_M) (E : th_E) (hO : ok y E σ) (a : Nat) (h_a : kd E a = 3) (T : tkT) (fc jt : Int) (hT0 : TSt E σ a T fc jt) : Met l yX8_step wsX8_step ({ frames := 0, cells := 0, slots := 0, locals := 0 }) (th_P G y b0 σ [.ref a]) (th_Qv G b0 (fun σ1 => ok y E σ1 ∧ fr [3] E σ σ1 ∧ (∃ c1 j1, TSt E σ1 a T c1 j1 ∧ c1 = fc ∧ (fc ≠ 0 → j1 = jt) ∧ (fc = 0 → tK T jt ≠ 259 → j1 = jt + 1)))) 0 0 (th_A b0) := by
  refine Met.ofW (cc := cX8_step) (maxL := 1) (ret := none) (by decide) rfl ?_
  intro p e s m args below meth c s₁ B hml hv
  obtain ⟨rfl, hH, hK⟩ := hv
  have hx := B.exec
  have hb := B.bytes
  have hr := B.returns
  have hts := atoms_spec (ws := wsX8_step) B.pre
  have hown : s.vm.findClass RX8 = some m.cls := findClass_of_methodNamed B.named
  have hlocks := B.notSynchronized
  have h00 : b0 ≤ s.heap.size := hH.1
  have hS : va_S (th_A b0) s.heap s.heap [] := va_S.rf
  have hF : fr [3] E σ σ := fr.rf
  have hm9 : gI σ a 4 = tm T := hT0.1.2.2.2.2
  have hn9 := hT0.2.1 jt (by have := hT0.2.2; omega) (by have := hT0.2.2; omega)
  have inX8 : ∀ w ∈ wsX80, w ∈ wsX8_step := by decide +kernel
  have fl0 := hts (.fieldLink RX8 58 "NestQuery$Tokens" "fault" "I") (by decide +kernel)
  have fl1 := hts (.fieldLink RX8 61 "NestQuery$Tokens" "at" "I") (by decide +kernel)
  have fl2 := hts (.fieldLink RX8 37 "NestQuery$Tokens" "found" "I") (by decide +kernel)
  have fl3 := hts (.fieldLink RX8 11 "NestQuery$Tokens" "kinds" "[I") (by decide +kernel)
  have fl4 := hts (.fieldLink RX8 64 "NestQuery$Tokens" "kind" "I") (by decide +kernel)
  have hl := lv_entry ([.ref a]) (n := 1) (Nat.le_of_ble_eq_true rfl)
  rw [lg_entry_eq]
  generalize (lg_sl ([.ref a]) ++ List.replicate (1 - (lg_sl ([.ref a])).length) Slot.unset).toArray = ls at hl ⊢
  have hl : lv_has ls 1 [(0, .ref a)] := hl
  obtain ⟨a40, ea40, ra40, la40, ua40⟩ := hO.gi h_a (by decide) k3_4
  obtain ⟨a50, ea50, ra50, la50, ua50⟩ := hO.gi h_a (by decide) k3_5
  obtain ⟨a60, ea60, ra60, la60, ua60⟩ := hO.gi h_a (by decide) k3_6
  obtain ⟨a70, ea70, ra70, la70, ua70⟩ := hO.gi h_a (by decide) k3_7
  obtain ⟨a80, ea80, ra80, la80, ua80⟩ := hO.gi h_a (by decide) k3_8
  have hU0 := hT0.2.2
  have htk0 := hT0.1
  refine lv_aload_n hx hb dX8_step_0 rfl (lv_at hl 0 rfl) ?_
  refine ok.getIc hO h_a (by decide) k3_7 ea70 (fun _ _ he hv kk => th_get (ci := 8) (C := RX8) (T := TX8) (N := 9) hx hb hts inX8 hown hK hH he rfl 7 (by decide) fl0 hv dX8_step_1 kk) ?_
  refine lv_if_ne (tgt := 62) hx hb dX8_step_4 (by decide) (fun c_1 => ?_) (fun c_1 => ?_)
  · replace c_1 := mt (I_eq (a := a70) (b := 0) ra70 (show rng 0 from ⟨by decide, by decide⟩)).mpr c_1
    exact th_vret hx hb hr hlocks hH hS ⟨hO, hF, ⟨fc, jt, ⟨htk0, hT0.2.1, by omega⟩, rfl, by omega, by omega⟩⟩ dX8_step_62
  · replace c_1 := (I_eq (a := a70) (b := 0) ra70 (show rng 0 from ⟨by decide, by decide⟩)).mp c_1
    refine lv_aload_n hx hb dX8_step_7 rfl (lv_at hl 0 rfl) ?_
    refine ok.getIc hO h_a (by decide) k3_5 ea50 (fun _ _ he hv kk => th_get (ci := 8) (C := RX8) (T := TX8) (N := 9) hx hb hts inX8 hown hK hH he rfl 5 (by decide) fl1 hv dX8_step_8 kk) ?_
    refine lv_if_lt (tgt := 62) hx hb dX8_step_11 (by decide) (fun c_2 => ?_) (fun c_2 => ?_)
    · replace c_2 := (I_lt (a := a50) (b := 0) ra50 (show rng 0 from ⟨by decide, by decide⟩)).mp c_2
      exact th_vret hx hb hr hlocks hH hS ⟨hO, hF, ⟨fc, jt, ⟨htk0, hT0.2.1, by omega⟩, rfl, by omega, by omega⟩⟩ dX8_step_62
    · replace c_2 := mt (I_lt (a := a50) (b := 0) ra50 (show rng 0 from ⟨by decide, by decide⟩)).mpr c_2
      refine lv_aload_n hx hb dX8_step_14 rfl (lv_at hl 0 rfl) ?_
      refine ok.getIc hO h_a (by decide) k3_5 ea50 (fun _ _ he hv kk => th_get (ci := 8) (C := RX8) (T := TX8) (N := 9) hx hb hts inX8 hown hK hH he rfl 5 (by decide) fl1 hv dX8_step_15 kk) ?_
      refine lv_iconst (v := I 1) hx hb dX8_step_18 (by decide) ?_
      refine lv_iadd hx hb dX8_step_19 ?_
      refine nq_top (I_add _ _) ?_
      refine lv_aload_n hx hb dX8_step_20 rfl (lv_at hl 0 rfl) ?_
      refine ok.getIc hO h_a (by decide) k3_4 ea40 (fun _ _ he hv kk => th_get (ci := 8) (C := RX8) (T := TX8) (N := 9) hx hb hts inX8 hown hK hH he rfl 4 (by decide) fl2 hv dX8_step_21 kk) ?_
      refine lv_icmp_ge (tgt := 62) hx hb dX8_step_24 (by decide) (fun c_3 => ?_) (fun c_3 => ?_)
      · replace c_3 := (I_le (a := a40) (b := a50 + 1) ra40 ⟨by omega, by omega⟩).mp c_3
        exact th_vret hx hb hr hlocks hH hS ⟨hO, hF, ⟨fc, jt, ⟨htk0, hT0.2.1, by omega⟩, rfl, by omega, by omega⟩⟩ dX8_step_62
      · replace c_3 := mt (I_le (a := a40) (b := a50 + 1) ra40 ⟨by omega, by omega⟩).mpr c_3
        refine lv_aload_n hx hb dX8_step_27 rfl (lv_at hl 0 rfl) ?_
        refine ok.getIc hO h_a (by decide) k3_5 ea50 (fun _ _ he hv kk => th_get (ci := 8) (C := RX8) (T := TX8) (N := 9) hx hb hts inX8 hown hK hH he rfl 5 (by decide) fl1 hv dX8_step_28 kk) ?_
        refine lv_iconst (v := I 1) hx hb dX8_step_31 (by decide) ?_
        refine lv_iadd hx hb dX8_step_32 ?_
        refine nq_top (I_add _ _) ?_
        refine lv_sipush (v := I 401) hx hb dX8_step_33 (by decide) ?_
        refine lv_icmp_ge (tgt := 62) hx hb dX8_step_36 (by decide) (fun c_4 => ?_) (fun c_4 => ?_)
        · replace c_4 := (I_le (a := 401) (b := a50 + 1) (show rng 401 from ⟨by decide, by decide⟩) ⟨by omega, by omega⟩).mp c_4
          exact th_vret hx hb hr hlocks hH hS ⟨hO, hF, ⟨fc, jt, ⟨htk0, hT0.2.1, by omega⟩, rfl, by omega, by omega⟩⟩ dX8_step_62
        · replace c_4 := mt (I_le (a := 401) (b := a50 + 1) (show rng 401 from ⟨by decide, by decide⟩) ⟨by omega, by omega⟩).mpr c_4
          refine lv_aload_n hx hb dX8_step_39 rfl (lv_at hl 0 rfl) ?_
          refine lv_dup hx hb dX8_step_40 rfl ?_
          refine ok.getIc hO h_a (by decide) k3_5 ea50 (fun _ _ he hv kk => th_get (ci := 8) (C := RX8) (T := TX8) (N := 9) hx hb hts inX8 hown hK hH he rfl 5 (by decide) fl1 hv dX8_step_41 kk) ?_
          refine lv_iconst (v := I 1) hx hb dX8_step_44 (by decide) ?_
          refine lv_iadd hx hb dX8_step_45 ?_
          refine nq_top (I_add _ _) ?_
          refine ok.putI hO h_a (by decide) k3_5 ⟨by omega, by omega⟩ (by omega) (by omega) (fun _ he hl9 kk => th_put (ci := 8) (v := .int (I (a50 + 1))) (ty := .int) (C := RX8) (T := TX8) (N := 9) hx hb hts inX8 tyX8 tyX8_ok nmX8 hown hK hH hS h00 he rfl 5 (by decide) fl1 rfl (by decide +kernel) rfl rfl hl9 dX8_step_46 kk) (fun σ_s_5 H locs hO hF9 hg9 hi9 ha9 hH hS => ?_)
          replace hF := hF.tu hF9 (by decide)
          have e_6 : gI σ_s_5 a 4 = a40 := (hi9 _ _ (Or.inr (by decide))).trans ea40
          have e_7 : gI σ_s_5 a 6 = a60 := (hi9 _ _ (Or.inr (by decide))).trans ea60
          have e_8 : gI σ_s_5 a 7 = a70 := (hi9 _ _ (Or.inr (by decide))).trans ea70
          have e_9 : gI σ_s_5 a 8 = a80 := (hi9 _ _ (Or.inr (by decide))).trans ea80
          have htk_10 : tks E σ_s_5 a T := tks.put htk0 ha9 (hi9 _ _ (Or.inr (by decide)))
          have e_11 := hg9
          refine lv_aload_n hx hb dX8_step_49 rfl (lv_at hl 0 rfl) ?_
          refine lv_aload_n hx hb dX8_step_50 rfl (lv_at hl 0 rfl) ?_
          refine ok.getR hO h_a (by decide) k3_0 (by decide) (fun _ _ he hv kk => th_get (ci := 8) (C := RX8) (T := TX8) (N := 9) hx hb hts inX8 hown hK hH he rfl 0 (by decide) fl3 hv dX8_step_51 kk) ?_
          refine lv_aload_n hx hb dX8_step_54 rfl (lv_at hl 0 rfl) ?_
          refine ok.getIc hO h_a (by decide) k3_5 e_11 (fun _ _ he hv kk => th_get (ci := 8) (C := RX8) (T := TX8) (N := 9) hx hb hts inX8 hown hK hH he rfl 5 (by decide) fl1 hv dX8_step_55 kk) ?_
          refine ok_iald hx hb hK hH hO h_a (by decide) k3_0 isA1 ⟨by omega, by omega⟩ (by omega) (by omega) dX8_step_58 (fun z_12 ez_12 rz_12 el9 => ?_)
          have ht_13 : tK T (a50 + 1) = z_12 := by unfold tK; rw [← htk_10.1]; exact ez_12
          refine ok.putI hO h_a (by decide) k3_6 rz_12 (by omega) (by omega) (fun _ he hl9 kk => th_put (ci := 8) (v := .int (I z_12)) (ty := .int) (C := RX8) (T := TX8) (N := 9) hx hb hts inX8 tyX8 tyX8_ok nmX8 hown hK hH hS h00 he rfl 6 (by decide) fl4 rfl (by decide +kernel) rfl rfl hl9 dX8_step_59 kk) (fun σ_s_14 H locs hO hF9 hg9 hi9 ha9 hH hS => ?_)
          replace hF := hF.tu hF9 (by decide)
          have e_15 : gI σ_s_14 a 4 = a40 := (hi9 _ _ (Or.inr (by decide))).trans e_6
          have e_16 : gI σ_s_14 a 7 = a70 := (hi9 _ _ (Or.inr (by decide))).trans e_8
          have e_17 : gI σ_s_14 a 8 = a80 := (hi9 _ _ (Or.inr (by decide))).trans e_9
          have e_18 : gI σ_s_14 a 5 = a50 + 1 := (hi9 _ _ (Or.inr (by decide))).trans e_11
          have htk_19 : tks E σ_s_14 a T := tks.put htk_10 ha9 (hi9 _ _ (Or.inr (by decide)))
          have e_20 := hg9
          exact th_vret hx hb hr hlocks hH hS ⟨hO, hF, ⟨fc, a50 + 1, ⟨htk_19, hT0.2.1, by omega⟩, rfl, by omega, by omega⟩⟩ dX8_step_62

set_option maxHeartbeats 4000000 in
set_option maxRecDepth 100000 in
theorem f_value (l : Launch) (G : va_G) (y : Nat → ClassId) (b0 : Nat) (σ : th_M) (E : th_E) (hO : ok y E σ) (a : Nat) (h_a : kd E a = 3) (T : tkT) (fc jt : Int) (hT0 : TSt E σ a T fc jt) : Met l yX8_value wsX8_value ({ frames := 0, cells := 0, slots := 0, locals := 0 }) (th_P G y b0 σ [.ref a]) (th_Qi G b0 (fun r σ1 => σ1 = σ ∧ (fc = 0 → r = tV T jt))) 0 0 (th_A b0) := by
  refine Met.ofW (cc := cX8_value) (maxL := 1) (ret := (some .int)) (by decide) rfl ?_
  intro p e s m args below meth c s₁ B hml hv
  obtain ⟨rfl, hH, hK⟩ := hv
  have hx := B.exec
  have hb := B.bytes
  have hr := B.returns
  have hts := atoms_spec (ws := wsX8_value) B.pre
  have hown : s.vm.findClass RX8 = some m.cls := findClass_of_methodNamed B.named
  have hlocks := B.notSynchronized
  have h00 : b0 ≤ s.heap.size := hH.1
  have hS : va_S (th_A b0) s.heap s.heap [] := va_S.rf
  have hm9 : gI σ a 4 = tm T := hT0.1.2.2.2.2
  have hn9 := hT0.2.1 jt (by have := hT0.2.2; omega) (by have := hT0.2.2; omega)
  have inX8 : ∀ w ∈ wsX80, w ∈ wsX8_value := by decide +kernel
  have fl0 := hts (.fieldLink RX8 61 "NestQuery$Tokens" "at" "I") (by decide +kernel)
  have fl1 := hts (.fieldLink RX8 18 "NestQuery$Tokens" "values" "[I") (by decide +kernel)
  have hl := lv_entry ([.ref a]) (n := 1) (Nat.le_of_ble_eq_true rfl)
  rw [lg_entry_eq]
  generalize (lg_sl ([.ref a]) ++ List.replicate (1 - (lg_sl ([.ref a])).length) Slot.unset).toArray = ls at hl ⊢
  have hl : lv_has ls 1 [(0, .ref a)] := hl
  obtain ⟨a40, ea40, ra40, la40, ua40⟩ := hO.gi h_a (by decide) k3_4
  obtain ⟨a50, ea50, ra50, la50, ua50⟩ := hO.gi h_a (by decide) k3_5
  obtain ⟨a60, ea60, ra60, la60, ua60⟩ := hO.gi h_a (by decide) k3_6
  obtain ⟨a70, ea70, ra70, la70, ua70⟩ := hO.gi h_a (by decide) k3_7
  obtain ⟨a80, ea80, ra80, la80, ua80⟩ := hO.gi h_a (by decide) k3_8
  have hU0 := hT0.2.2
  have htk0 := hT0.1
  refine lv_aload_n hx hb dX8_value_0 rfl (lv_at hl 0 rfl) ?_
  refine ok.getIc hO h_a (by decide) k3_5 ea50 (fun _ _ he hv kk => th_get (ci := 8) (C := RX8) (T := TX8) (N := 9) hx hb hts inX8 hown hK hH he rfl 5 (by decide) fl0 hv dX8_value_1 kk) ?_
  refine lv_if_lt (tgt := 17) hx hb dX8_value_4 (by decide) (fun c_1 => ?_) (fun c_1 => ?_)
  · replace c_1 := (I_lt (a := a50) (b := 0) ra50 (show rng 0 from ⟨by decide, by decide⟩)).mp c_1
    refine lv_iconst (v := I 0) hx hb dX8_value_17 (by decide) ?_
    refine lv_goto (tgt := 30) hx hb dX8_value_18 (by decide) ?_
    exact th_iret hx hb hr hlocks hH hS (z := 0) (show rng 0 from ⟨by decide, by decide⟩) ⟨rfl, by omega⟩ dX8_value_30
  · replace c_1 := mt (I_lt (a := a50) (b := 0) ra50 (show rng 0 from ⟨by decide, by decide⟩)).mpr c_1
    refine lv_aload_n hx hb dX8_value_7 rfl (lv_at hl 0 rfl) ?_
    refine ok.getIc hO h_a (by decide) k3_5 ea50 (fun _ _ he hv kk => th_get (ci := 8) (C := RX8) (T := TX8) (N := 9) hx hb hts inX8 hown hK hH he rfl 5 (by decide) fl0 hv dX8_value_8 kk) ?_
    refine lv_sipush (v := I 401) hx hb dX8_value_11 (by decide) ?_
    refine lv_icmp_lt (tgt := 21) hx hb dX8_value_14 (by decide) (fun c_2 => ?_) (fun c_2 => ?_)
    · replace c_2 := (I_lt (a := a50) (b := 401) ra50 (show rng 401 from ⟨by decide, by decide⟩)).mp c_2
      refine lv_aload_n hx hb dX8_value_21 rfl (lv_at hl 0 rfl) ?_
      refine ok.getR hO h_a (by decide) k3_2 (by decide) (fun _ _ he hv kk => th_get (ci := 8) (C := RX8) (T := TX8) (N := 9) hx hb hts inX8 hown hK hH he rfl 2 (by decide) fl1 hv dX8_value_22 kk) ?_
      refine lv_aload_n hx hb dX8_value_25 rfl (lv_at hl 0 rfl) ?_
      refine ok.getIc hO h_a (by decide) k3_5 ea50 (fun _ _ he hv kk => th_get (ci := 8) (C := RX8) (T := TX8) (N := 9) hx hb hts inX8 hown hK hH he rfl 5 (by decide) fl0 hv dX8_value_26 kk) ?_
      refine ok_iald hx hb hK hH hO h_a (by decide) k3_2 isA1 ra50 (by omega) (by omega) dX8_value_29 (fun z_3 ez_3 rz_3 el9 => ?_)
      have ht_4 : tV T a50 = z_3 := by unfold tV; rw [← htk0.2.2.1]; exact ez_3
      have hqht_4 : fc = 0 → tV T jt = z_3 := fun h9 => by rw [show jt = a50 by omega]; exact ht_4
      exact th_iret hx hb hr hlocks hH hS (z := z_3) rz_3 ⟨rfl, by omega⟩ dX8_value_30
    · replace c_2 := mt (I_lt (a := a50) (b := 401) ra50 (show rng 401 from ⟨by decide, by decide⟩)).mpr c_2
      refine lv_iconst (v := I 0) hx hb dX8_value_17 (by decide) ?_
      refine lv_goto (tgt := 30) hx hb dX8_value_18 (by decide) ?_
      exact th_iret hx hb hr hlocks hH hS (z := 0) (show rng 0 from ⟨by decide, by decide⟩) ⟨rfl, by omega⟩ dX8_value_30

set_option maxHeartbeats 4000000 in
set_option maxRecDepth 100000 in
theorem f_longer (l : Launch) (G : va_G) (y : Nat → ClassId) (b0 : Nat) (σ : th_M) (E : th_E) (hO : ok y E σ) (a : Nat) (h_a : kd E a = 3) (x : Int) (rx : rng x) (T : tkT) (fc jt : Int) (hT0 : TSt E σ a T fc jt) : Met l yX8_isLongerThan wsX8_isLongerThan ({ frames := 0, cells := 0, slots := 0, locals := 0 }) (th_P G y b0 σ [.ref a, .int (I x)]) (th_Qi G b0 (fun r σ1 => σ1 = σ ∧ (0 ≤ r ∧ r ≤ 1) ∧ (fc = 0 → (r = 1 ∧ x < tL T jt) ∨ (r = 0 ∧ tL T jt ≤ x)))) 0 0 (th_A b0) := by
  refine Met.ofW (cc := cX8_isLongerThan) (maxL := 2) (ret := (some .boolean)) (by decide) rfl ?_
  intro p e s m args below meth c s₁ B hml hv
  obtain ⟨rfl, hH, hK⟩ := hv
  have hx := B.exec
  have hb := B.bytes
  have hr := B.returns
  have hts := atoms_spec (ws := wsX8_isLongerThan) B.pre
  have hown : s.vm.findClass RX8 = some m.cls := findClass_of_methodNamed B.named
  have hlocks := B.notSynchronized
  have h00 : b0 ≤ s.heap.size := hH.1
  have hS : va_S (th_A b0) s.heap s.heap [] := va_S.rf
  have hm9 : gI σ a 4 = tm T := hT0.1.2.2.2.2
  have hn9 := hT0.2.1 jt (by have := hT0.2.2; omega) (by have := hT0.2.2; omega)
  have inX8 : ∀ w ∈ wsX80, w ∈ wsX8_isLongerThan := by decide +kernel
  have fl0 := hts (.fieldLink RX8 61 "NestQuery$Tokens" "at" "I") (by decide +kernel)
  have fl1 := hts (.fieldLink RX8 21 "NestQuery$Tokens" "lengths" "[I") (by decide +kernel)
  have hl := lv_entry ([.ref a, .int (I x)]) (n := 2) (Nat.le_of_ble_eq_true rfl)
  rw [lg_entry_eq]
  generalize (lg_sl ([.ref a, .int (I x)]) ++ List.replicate (2 - (lg_sl ([.ref a, .int (I x)])).length) Slot.unset).toArray = ls at hl ⊢
  have hl : lv_has ls 2 [(0, .ref a), (1, .int (I x))] := hl
  obtain ⟨a40, ea40, ra40, la40, ua40⟩ := hO.gi h_a (by decide) k3_4
  obtain ⟨a50, ea50, ra50, la50, ua50⟩ := hO.gi h_a (by decide) k3_5
  obtain ⟨a60, ea60, ra60, la60, ua60⟩ := hO.gi h_a (by decide) k3_6
  obtain ⟨a70, ea70, ra70, la70, ua70⟩ := hO.gi h_a (by decide) k3_7
  obtain ⟨a80, ea80, ra80, la80, ua80⟩ := hO.gi h_a (by decide) k3_8
  have hU0 := hT0.2.2
  have htk0 := hT0.1
  refine lv_aload_n hx hb dX8_isLongerThan_0 rfl (lv_at hl 0 rfl) ?_
  refine ok.getIc hO h_a (by decide) k3_5 ea50 (fun _ _ he hv kk => th_get (ci := 8) (C := RX8) (T := TX8) (N := 9) hx hb hts inX8 hown hK hH he rfl 5 (by decide) fl0 hv dX8_isLongerThan_1 kk) ?_
  refine lv_if_lt (tgt := 34) hx hb dX8_isLongerThan_4 (by decide) (fun c_1 => ?_) (fun c_1 => ?_)
  · replace c_1 := (I_lt (a := a50) (b := 0) ra50 (show rng 0 from ⟨by decide, by decide⟩)).mp c_1
    refine lv_iconst (v := I 0) hx hb dX8_isLongerThan_34 (by decide) ?_
    exact th_zret hx hb hr hlocks hH hS (z := 0) (by omega) ⟨rfl, ⟨by omega, by omega⟩, by omega⟩ dX8_isLongerThan_35
  · replace c_1 := mt (I_lt (a := a50) (b := 0) ra50 (show rng 0 from ⟨by decide, by decide⟩)).mpr c_1
    refine lv_aload_n hx hb dX8_isLongerThan_7 rfl (lv_at hl 0 rfl) ?_
    refine ok.getIc hO h_a (by decide) k3_5 ea50 (fun _ _ he hv kk => th_get (ci := 8) (C := RX8) (T := TX8) (N := 9) hx hb hts inX8 hown hK hH he rfl 5 (by decide) fl0 hv dX8_isLongerThan_8 kk) ?_
    refine lv_sipush (v := I 401) hx hb dX8_isLongerThan_11 (by decide) ?_
    refine lv_icmp_ge (tgt := 34) hx hb dX8_isLongerThan_14 (by decide) (fun c_2 => ?_) (fun c_2 => ?_)
    · replace c_2 := (I_le (a := 401) (b := a50) (show rng 401 from ⟨by decide, by decide⟩) ra50).mp c_2
      refine lv_iconst (v := I 0) hx hb dX8_isLongerThan_34 (by decide) ?_
      exact th_zret hx hb hr hlocks hH hS (z := 0) (by omega) ⟨rfl, ⟨by omega, by omega⟩, by omega⟩ dX8_isLongerThan_35
    · replace c_2 := mt (I_le (a := 401) (b := a50) (show rng 401 from ⟨by decide, by decide⟩) ra50).mpr c_2
      refine lv_aload_n hx hb dX8_isLongerThan_17 rfl (lv_at hl 0 rfl) ?_
      refine ok.getR hO h_a (by decide) k3_3 (by decide) (fun _ _ he hv kk => th_get (ci := 8) (C := RX8) (T := TX8) (N := 9) hx hb hts inX8 hown hK hH he rfl 3 (by decide) fl1 hv dX8_isLongerThan_18 kk) ?_
      refine lv_aload_n hx hb dX8_isLongerThan_21 rfl (lv_at hl 0 rfl) ?_
      refine ok.getIc hO h_a (by decide) k3_5 ea50 (fun _ _ he hv kk => th_get (ci := 8) (C := RX8) (T := TX8) (N := 9) hx hb hts inX8 hown hK hH he rfl 5 (by decide) fl0 hv dX8_isLongerThan_22 kk) ?_
      refine ok_iald hx hb hK hH hO h_a (by decide) k3_3 isA1 ra50 (by omega) (by omega) dX8_isLongerThan_25 (fun z_3 ez_3 rz_3 el9 => ?_)
      have ht_4 : tL T a50 = z_3 := by unfold tL; rw [← htk0.2.2.2.1]; exact ez_3
      have hqht_4 : fc = 0 → tL T jt = z_3 := fun h9 => by rw [show jt = a50 by omega]; exact ht_4
      refine lv_iload_n hx hb dX8_isLongerThan_26 rfl (lv_at hl 1 rfl) ?_
      refine lv_icmp_le (tgt := 34) hx hb dX8_isLongerThan_27 (by decide) (fun c_5 => ?_) (fun c_5 => ?_)
      · replace c_5 := (I_le (a := z_3) (b := x) rz_3 rx).mp c_5
        refine lv_iconst (v := I 0) hx hb dX8_isLongerThan_34 (by decide) ?_
        exact th_zret hx hb hr hlocks hH hS (z := 0) (by omega) ⟨rfl, ⟨by omega, by omega⟩, by omega⟩ dX8_isLongerThan_35
      · replace c_5 := mt (I_le (a := z_3) (b := x) rz_3 rx).mpr c_5
        refine lv_iconst (v := I 1) hx hb dX8_isLongerThan_30 (by decide) ?_
        refine lv_goto (tgt := 35) hx hb dX8_isLongerThan_31 (by decide) ?_
        exact th_zret hx hb hr hlocks hH hS (z := 1) (by omega) ⟨rfl, ⟨by omega, by omega⟩, by omega⟩ dX8_isLongerThan_35

set_option maxHeartbeats 4000000 in
set_option maxRecDepth 100000 in
theorem f_expect (l : Launch) (G : va_G) (y : Nat → ClassId) (b0 : Nat) (σ : th_M) (E : th_E) (hO : ok y E σ) (a : Nat) (h_a : kd E a = 3) (x : Int) (rx : rng x) (l_x : 0 ≤ x) (u_x : x ≤ 255) (T : tkT) (fc jt : Int) (hT0 : TSt E σ a T fc jt) : Met l yX8_expect wsX8_expect ({ frames := 1, cells := 0, slots := 0, locals := 25 }) (th_P G y b0 σ [.ref a, .int (I x)]) (th_Qv G b0 (fun σ1 => ok y E σ1 ∧ fr [3] E σ σ1 ∧ (∃ c1 j1, TSt E σ1 a T c1 j1 ∧ (fc ≠ 0 → c1 = fc ∧ j1 = jt) ∧ (fc = 0 → (tK T jt = x ∧ c1 = 0 ∧ j1 = jt + 1) ∨ (tK T jt ≠ x ∧ c1 = 1 ∧ j1 = jt))))) 0 0 (th_A b0) := by
  refine Met.ofW (cc := cX8_expect) (maxL := 2) (ret := none) (by decide) rfl ?_
  intro p e s m args below meth c s₁ B hml hv
  obtain ⟨rfl, hH, hK⟩ := hv
  have hx := B.exec
  have hb := B.bytes
  have hr := B.returns
  have hts := atoms_spec (ws := wsX8_expect) B.pre
  have hown : s.vm.findClass RX8 = some m.cls := findClass_of_methodNamed B.named
  have hlocks := B.notSynchronized
  have h00 : b0 ≤ s.heap.size := hH.1
  have hS : va_S (th_A b0) s.heap s.heap [] := va_S.rf
  have hF : fr [3] E σ σ := fr.rf
  have inX8 : ∀ w ∈ wsX80, w ∈ wsX8_expect := by decide +kernel
  have fl0 := hts (.fieldLink RX8 64 "NestQuery$Tokens" "kind" "I") (by decide +kernel)
  have hl := lv_entry ([.ref a, .int (I x)]) (n := 2) (Nat.le_of_ble_eq_true rfl)
  rw [lg_entry_eq]
  generalize (lg_sl ([.ref a, .int (I x)]) ++ List.replicate (2 - (lg_sl ([.ref a, .int (I x)])).length) Slot.unset).toArray = ls at hl ⊢
  have hl : lv_has ls 2 [(0, .ref a), (1, .int (I x))] := hl
  have hU0 := hT0.2.2
  have htk0 := hT0.1
  refine lv_aload_n hx hb dX8_expect_0 rfl (lv_at hl 0 rfl) ?_
  refine ok.getI hO h_a (by decide) k3_6 (fun _ _ he hv kk => th_get (ci := 8) (C := RX8) (T := TX8) (N := 9) hx hb hts inX8 hown hK hH he rfl 6 (by decide) fl0 hv dX8_expect_1 kk) (fun z_1 e_2 rz_1 lz_1 uz_1 => ?_)
  refine lv_iload_n hx hb dX8_expect_4 rfl (lv_at hl 1 rfl) ?_
  refine lv_icmp_ne (tgt := 15) hx hb dX8_expect_5 (by decide) (fun c_3 => ?_) (fun c_3 => ?_)
  · replace c_3 := mt (I_eq (a := z_1) (b := x) rz_1 rx).mpr c_3
    refine lv_aload_n hx hb dX8_expect_15 rfl (lv_at hl 0 rfl) ?_
    refine lv_iconst (v := I 1) hx hb dX8_expect_16 (by decide) ?_
    obtain ⟨_, hc_4⟩ := hO.cell h_a (by decide) (ci := 8) rfl
    refine th_callv (va_runV (As := [.int (I 1)]) (rest := []) ⟨hx, hb, hml, hown, hts⟩ (f_fail l G y b0 σ E hO a h_a 1 (show rng 1 from (show rng 1 from ⟨by decide, by decide⟩)) T fc jt hT0 (by omega)) (cwV 1 hts gX8_expect_X8_fail rfl rfl rfl (by decide +kernel) ⟨Nat.le_of_ble_eq_true rfl, Nat.le_of_ble_eq_true rfl⟩) (th_PV hK hH rfl hc_4) rfl rfl hl.1 rfl (lv_room (Nat.le_of_ble_eq_true rfl)) dX8_expect_17 ⟨Nat.le_of_ble_eq_true rfl, Nat.le_of_ble_eq_true rfl⟩) hS (fun σ_s_6 H locs hw_5 hH hS => ?_)
    obtain ⟨hO9, hF9, hw_5⟩ := hw_5
    replace hO := hO9
    replace hF := hF.tu hF9 (by decide)
    replace hw_5 : ∃ c1 j1, TSt E σ_s_6 a T c1 j1 ∧ j1 = jt ∧ (fc = 0 → c1 = 1) ∧ (fc ≠ 0 → c1 = fc) := hw_5
    obtain ⟨cc_7, jj_8, hT_9, hw_5⟩ := hw_5
    have hUhT_9 := hT_9.2.2
    exact th_vret hx hb hr hlocks hH hS ⟨hO, hF, ⟨cc_7, jj_8, hT_9, by omega, by omega⟩⟩ dX8_expect_20
  · replace c_3 := (I_eq (a := z_1) (b := x) rz_1 rx).mp c_3
    refine lv_aload_n hx hb dX8_expect_8 rfl (lv_at hl 0 rfl) ?_
    obtain ⟨_, hc_10⟩ := hO.cell h_a (by decide) (ci := 8) rfl
    refine th_callv (va_runV (As := []) (rest := []) ⟨hx, hb, hml, hown, hts⟩ (f_step l G y b0 σ E hO a h_a T fc jt hT0) (cwV 0 hts gX8_expect_X8_step rfl rfl rfl (by decide +kernel) ⟨Nat.le_of_ble_eq_true rfl, Nat.le_of_ble_eq_true rfl⟩) (th_PV hK hH rfl hc_10) rfl rfl hl.1 rfl (lv_room (Nat.le_of_ble_eq_true rfl)) dX8_expect_9 ⟨Nat.le_of_ble_eq_true rfl, Nat.le_of_ble_eq_true rfl⟩) hS (fun σ_s_12 H locs hw_11 hH hS => ?_)
    obtain ⟨hO9, hF9, hw_11⟩ := hw_11
    replace hO := hO9
    replace hF := hF.tu hF9 (by decide)
    replace hw_11 : ∃ c1 j1, TSt E σ_s_12 a T c1 j1 ∧ c1 = fc ∧ (fc ≠ 0 → j1 = jt) ∧ (fc = 0 → tK T jt ≠ 259 → j1 = jt + 1) := hw_11
    obtain ⟨cc_13, jj_14, hT_15, hw_11⟩ := hw_11
    have hUhT_15 := hT_15.2.2
    refine lv_goto (tgt := 20) hx hb dX8_expect_12 (by decide) ?_
    exact th_vret hx hb hr hlocks hH hS ⟨hO, hF, ⟨cc_13, jj_14, hT_15, by omega, by omega⟩⟩ dX8_expect_20

set_option maxHeartbeats 4000000 in
set_option maxRecDepth 100000 in
theorem f_letters (l : Launch) (G : va_G) (y : Nat → ClassId) (b0 : Nat) (σ : th_M) (E : th_E) (hO : ok y E σ) (a : Nat) (h_a : kd E a = 3) (T : tkT) (fc jt : Int) (hT0 : TSt E σ a T fc jt) : Met l yX8_takeLetters wsX8_takeLetters ({ frames := 1, cells := 0, slots := 0, locals := 25 }) (th_P G y b0 σ [.ref a]) (th_Qi G b0 (fun r σ1 => ok y E σ1 ∧ fr [3] E σ σ1 ∧ (∃ c1 j1, TSt E σ1 a T c1 j1 ∧ (fc ≠ 0 → c1 = fc ∧ j1 = jt) ∧ (fc = 0 → (tK T jt ≠ 256 ∧ c1 = 1 ∧ j1 = jt) ∨ (tK T jt = 256 ∧ 6 < tL T jt ∧ c1 = 2 ∧ j1 = jt) ∨ (tK T jt = 256 ∧ tL T jt ≤ 6 ∧ c1 = 0 ∧ j1 = jt + 1 ∧ r = tV T jt))))) 0 0 (th_A b0) := by
  refine Met.ofW (cc := cX8_takeLetters) (maxL := 2) (ret := (some .int)) (by decide) rfl ?_
  intro p e s m args below meth c s₁ B hml hv
  obtain ⟨rfl, hH, hK⟩ := hv
  have hx := B.exec
  have hb := B.bytes
  have hr := B.returns
  have hts := atoms_spec (ws := wsX8_takeLetters) B.pre
  have hown : s.vm.findClass RX8 = some m.cls := findClass_of_methodNamed B.named
  have hlocks := B.notSynchronized
  have h00 : b0 ≤ s.heap.size := hH.1
  have hS : va_S (th_A b0) s.heap s.heap [] := va_S.rf
  have hF : fr [3] E σ σ := fr.rf
  have inX8 : ∀ w ∈ wsX80, w ∈ wsX8_takeLetters := by decide +kernel
  have fl0 := hts (.fieldLink RX8 64 "NestQuery$Tokens" "kind" "I") (by decide +kernel)
  have hl := lv_entry ([.ref a]) (n := 2) (Nat.le_of_ble_eq_true rfl)
  rw [lg_entry_eq]
  generalize (lg_sl ([.ref a]) ++ List.replicate (2 - (lg_sl ([.ref a])).length) Slot.unset).toArray = ls at hl ⊢
  have hl : lv_has ls 2 [(0, .ref a)] := hl
  have hU0 := hT0.2.2
  have htk0 := hT0.1
  refine lv_aload_n hx hb dX8_takeLetters_0 rfl (lv_at hl 0 rfl) ?_
  refine ok.getI hO h_a (by decide) k3_6 (fun _ _ he hv kk => th_get (ci := 8) (C := RX8) (T := TX8) (N := 9) hx hb hts inX8 hown hK hH he rfl 6 (by decide) fl0 hv dX8_takeLetters_1 kk) (fun z_1 e_2 rz_1 lz_1 uz_1 => ?_)
  refine lv_sipush (v := I 256) hx hb dX8_takeLetters_4 (by decide) ?_
  refine lv_icmp_eq (tgt := 17) hx hb dX8_takeLetters_7 (by decide) (fun c_3 => ?_) (fun c_3 => ?_)
  · replace c_3 := (I_eq (a := z_1) (b := 256) rz_1 (show rng 256 from ⟨by decide, by decide⟩)).mp c_3
    have h0_4 : fc = 0 := by omega
    have hp_5 := hT0.2.2.2.2.2.2.1 h0_4
    have hp_5j := And.intro hT0.2.2.1 (And.intro hT0.2.2.2.1 (And.intro hT0.2.2.2.2.1 hT0.2.2.2.2.2.1))
    clear hU0
    refine lv_aload_n hx hb dX8_takeLetters_17 rfl (lv_at hl 0 rfl) ?_
    refine lv_bipush (v := I 6) hx hb dX8_takeLetters_18 (by decide) ?_
    obtain ⟨_, hc_6⟩ := hO.cell h_a (by decide) (ci := 8) rfl
    refine th_calli (va_runV (As := [.int (I 6)]) (rest := []) ⟨hx, hb, hml, hown, hts⟩ (f_longer l G y b0 σ E hO a h_a 6 (show rng 6 from (show rng 6 from ⟨by decide, by decide⟩)) T fc jt hT0) (cwV 1 hts gX8_takeLetters_X8_isLongerThan rfl rfl rfl (by decide +kernel) ⟨Nat.le_of_ble_eq_true rfl, Nat.le_of_ble_eq_true rfl⟩) (th_PV hK hH rfl hc_6) rfl rfl hl.1 rfl (lv_room (Nat.le_of_ble_eq_true rfl)) dX8_takeLetters_20 ⟨Nat.le_of_ble_eq_true rfl, Nat.le_of_ble_eq_true rfl⟩) hS (fun z_9 σ_s_8 H locs rz_9 hw_7 hH hS => ?_)
    obtain ⟨e9, bhw_7, hw_7⟩ := hw_7
    replace e9 := e9.symm
    subst e9
    replace hw_7 : fc = 0 → (z_9 = 1 ∧ 6 < tL T jt) ∨ (z_9 = 0 ∧ tL T jt ≤ 6) := hw_7
    replace hw_7 := hw_7 h0_4
    refine lv_if_eq (tgt := 33) hx hb dX8_takeLetters_23 (by decide) (fun c_10 => ?_) (fun c_10 => ?_)
    · replace c_10 := (I_eq (a := z_9) (b := 0) rz_9 (show rng 0 from ⟨by decide, by decide⟩)).mp c_10
      refine lv_aload_n hx hb dX8_takeLetters_33 rfl (lv_at hl 0 rfl) ?_
      obtain ⟨_, hc_11⟩ := hO.cell h_a (by decide) (ci := 8) rfl
      refine th_calli (va_runV (As := []) (rest := []) ⟨hx, hb, hml, hown, hts⟩ (f_value l G y b0 σ E hO a h_a T fc jt hT0) (cwV 0 hts gX8_takeLetters_X8_value rfl rfl rfl (by decide +kernel) ⟨Nat.le_of_ble_eq_true rfl, Nat.le_of_ble_eq_true rfl⟩) (th_PV hK hH rfl hc_11) rfl rfl hl.1 rfl (lv_room (Nat.le_of_ble_eq_true rfl)) dX8_takeLetters_34 ⟨Nat.le_of_ble_eq_true rfl, Nat.le_of_ble_eq_true rfl⟩) hS (fun z_14 σ_s_13 H locs rz_14 hw_12 hH hS => ?_)
      obtain ⟨e9, hw_12⟩ := hw_12
      replace e9 := e9.symm
      subst e9
      replace hw_12 : fc = 0 → z_14 = tV T jt := hw_12
      replace hw_12 := hw_12 h0_4
      refine lv_istore_n (lv' := [(1, .int (I z_14)), (0, .ref a)]) hx hb dX8_takeLetters_37 rfl hl (by decide) rfl (fun ls hl => ?_)
      refine lv_aload_n hx hb dX8_takeLetters_38 rfl (lv_at hl 1 rfl) ?_
      obtain ⟨_, hc_15⟩ := hO.cell h_a (by decide) (ci := 8) rfl
      refine th_callv (va_runV (As := []) (rest := []) ⟨hx, hb, hml, hown, hts⟩ (f_step l G y b0 σ E hO a h_a T fc jt hT0) (cwV 0 hts gX8_takeLetters_X8_step rfl rfl rfl (by decide +kernel) ⟨Nat.le_of_ble_eq_true rfl, Nat.le_of_ble_eq_true rfl⟩) (th_PV hK hH rfl hc_15) rfl rfl hl.1 rfl (lv_room (Nat.le_of_ble_eq_true rfl)) dX8_takeLetters_39 ⟨Nat.le_of_ble_eq_true rfl, Nat.le_of_ble_eq_true rfl⟩) hS (fun σ_s_17 H locs hw_16 hH hS => ?_)
      obtain ⟨hO9, hF9, hw_16⟩ := hw_16
      replace hO := hO9
      replace hF := hF.tu hF9 (by decide)
      replace hw_16 : ∃ c1 j1, TSt E σ_s_17 a T c1 j1 ∧ c1 = fc ∧ (fc ≠ 0 → j1 = jt) ∧ (fc = 0 → tK T jt ≠ 259 → j1 = jt + 1) := hw_16
      obtain ⟨cc_18, jj_19, hT_20, hw_16⟩ := hw_16
      have hUhT_20 := hT_20.2.2
      have hw_16j : jj_19 = jt + 1 := by omega
      have h0_21 : cc_18 = 0 := by omega
      have hp_22 := hT_20.2.2.2.2.2.2.1 h0_21
      have hp_22j := And.intro hT_20.2.2.1 (And.intro hT_20.2.2.2.1 (And.intro hT_20.2.2.2.2.1 hT_20.2.2.2.2.2.1))
      clear hUhT_20
      clear hw_16
      refine lv_iload_n hx hb dX8_takeLetters_42 rfl (lv_at hl 0 rfl) ?_
      exact th_iret hx hb hr hlocks hH hS (z := z_14) rz_14 ⟨hO, hF, ⟨cc_18, jj_19, hT_20, by omega, by omega⟩⟩ dX8_takeLetters_43
    · replace c_10 := mt (I_eq (a := z_9) (b := 0) rz_9 (show rng 0 from ⟨by decide, by decide⟩)).mpr c_10
      refine lv_aload_n hx hb dX8_takeLetters_26 rfl (lv_at hl 0 rfl) ?_
      refine lv_iconst (v := I 2) hx hb dX8_takeLetters_27 (by decide) ?_
      obtain ⟨_, hc_23⟩ := hO.cell h_a (by decide) (ci := 8) rfl
      refine th_callv (va_runV (As := [.int (I 2)]) (rest := []) ⟨hx, hb, hml, hown, hts⟩ (f_fail l G y b0 σ E hO a h_a 2 (show rng 2 from (show rng 2 from ⟨by decide, by decide⟩)) T fc jt hT0 (by omega)) (cwV 1 hts gX8_takeLetters_X8_fail rfl rfl rfl (by decide +kernel) ⟨Nat.le_of_ble_eq_true rfl, Nat.le_of_ble_eq_true rfl⟩) (th_PV hK hH rfl hc_23) rfl rfl hl.1 rfl (lv_room (Nat.le_of_ble_eq_true rfl)) dX8_takeLetters_28 ⟨Nat.le_of_ble_eq_true rfl, Nat.le_of_ble_eq_true rfl⟩) hS (fun σ_s_25 H locs hw_24 hH hS => ?_)
      obtain ⟨hO9, hF9, hw_24⟩ := hw_24
      replace hO := hO9
      replace hF := hF.tu hF9 (by decide)
      replace hw_24 : ∃ c1 j1, TSt E σ_s_25 a T c1 j1 ∧ j1 = jt ∧ (fc = 0 → c1 = 2) ∧ (fc ≠ 0 → c1 = fc) := hw_24
      obtain ⟨cc_26, jj_27, hT_28, hw_24⟩ := hw_24
      have hUhT_28 := hT_28.2.2
      refine lv_iconst (v := I 0) hx hb dX8_takeLetters_31 (by decide) ?_
      exact th_iret hx hb hr hlocks hH hS (z := 0) (show rng 0 from ⟨by decide, by decide⟩) ⟨hO, hF, ⟨cc_26, jj_27, hT_28, by omega, by omega⟩⟩ dX8_takeLetters_32
  · replace c_3 := mt (I_eq (a := z_1) (b := 256) rz_1 (show rng 256 from ⟨by decide, by decide⟩)).mpr c_3
    refine lv_aload_n hx hb dX8_takeLetters_10 rfl (lv_at hl 0 rfl) ?_
    refine lv_iconst (v := I 1) hx hb dX8_takeLetters_11 (by decide) ?_
    obtain ⟨_, hc_29⟩ := hO.cell h_a (by decide) (ci := 8) rfl
    refine th_callv (va_runV (As := [.int (I 1)]) (rest := []) ⟨hx, hb, hml, hown, hts⟩ (f_fail l G y b0 σ E hO a h_a 1 (show rng 1 from (show rng 1 from ⟨by decide, by decide⟩)) T fc jt hT0 (by omega)) (cwV 1 hts gX8_takeLetters_X8_fail rfl rfl rfl (by decide +kernel) ⟨Nat.le_of_ble_eq_true rfl, Nat.le_of_ble_eq_true rfl⟩) (th_PV hK hH rfl hc_29) rfl rfl hl.1 rfl (lv_room (Nat.le_of_ble_eq_true rfl)) dX8_takeLetters_12 ⟨Nat.le_of_ble_eq_true rfl, Nat.le_of_ble_eq_true rfl⟩) hS (fun σ_s_31 H locs hw_30 hH hS => ?_)
    obtain ⟨hO9, hF9, hw_30⟩ := hw_30
    replace hO := hO9
    replace hF := hF.tu hF9 (by decide)
    replace hw_30 : ∃ c1 j1, TSt E σ_s_31 a T c1 j1 ∧ j1 = jt ∧ (fc = 0 → c1 = 1) ∧ (fc ≠ 0 → c1 = fc) := hw_30
    obtain ⟨cc_32, jj_33, hT_34, hw_30⟩ := hw_30
    have hUhT_34 := hT_34.2.2
    refine lv_iconst (v := I 0) hx hb dX8_takeLetters_15 (by decide) ?_
    exact th_iret hx hb hr hlocks hH hS (z := 0) (show rng 0 from ⟨by decide, by decide⟩) ⟨hO, hF, ⟨cc_32, jj_33, hT_34, by omega, by omega⟩⟩ dX8_takeLetters_16

set_option maxHeartbeats 4000000 in
set_option maxRecDepth 100000 in
theorem f_number (l : Launch) (G : va_G) (y : Nat → ClassId) (b0 : Nat) (σ : th_M) (E : th_E) (hO : ok y E σ) (a : Nat) (h_a : kd E a = 3) (T : tkT) (fc jt : Int) (hT0 : TSt E σ a T fc jt) : Met l yX8_takeNumber wsX8_takeNumber ({ frames := 1, cells := 0, slots := 0, locals := 25 }) (th_P G y b0 σ [.ref a]) (th_Qi G b0 (fun r σ1 => ok y E σ1 ∧ fr [3] E σ σ1 ∧ (∃ c1 j1, TSt E σ1 a T c1 j1 ∧ (fc ≠ 0 → c1 = fc ∧ j1 = jt) ∧ (fc = 0 → nuR T jt c1 j1)))) 0 0 (th_A b0) := by
  refine Met.ofW (cc := cX8_takeNumber) (maxL := 3) (ret := (some .int)) (by decide) rfl ?_
  intro p e s m args below meth c s₁ B hml hv
  obtain ⟨rfl, hH, hK⟩ := hv
  have hx := B.exec
  have hb := B.bytes
  have hr := B.returns
  have hts := atoms_spec (ws := wsX8_takeNumber) B.pre
  have hown : s.vm.findClass RX8 = some m.cls := findClass_of_methodNamed B.named
  have hlocks := B.notSynchronized
  have h00 : b0 ≤ s.heap.size := hH.1
  have hS : va_S (th_A b0) s.heap s.heap [] := va_S.rf
  have hF : fr [3] E σ σ := fr.rf
  have inX8 : ∀ w ∈ wsX80, w ∈ wsX8_takeNumber := by decide +kernel
  have fl0 := hts (.fieldLink RX8 64 "NestQuery$Tokens" "kind" "I") (by decide +kernel)
  have hl := lv_entry ([.ref a]) (n := 3) (Nat.le_of_ble_eq_true rfl)
  rw [lg_entry_eq]
  generalize (lg_sl ([.ref a]) ++ List.replicate (3 - (lg_sl ([.ref a])).length) Slot.unset).toArray = ls at hl ⊢
  have hl : lv_has ls 3 [(0, .ref a)] := hl
  have hU0 := hT0.2.2
  have htk0 := hT0.1
  refine lv_aload_n hx hb dX8_takeNumber_0 rfl (lv_at hl 0 rfl) ?_
  refine ok.getI hO h_a (by decide) k3_6 (fun _ _ he hv kk => th_get (ci := 8) (C := RX8) (T := TX8) (N := 9) hx hb hts inX8 hown hK hH he rfl 6 (by decide) fl0 hv dX8_takeNumber_1 kk) (fun z_1 e_2 rz_1 lz_1 uz_1 => ?_)
  refine lv_bipush (v := I 45) hx hb dX8_takeNumber_4 (by decide) ?_
  refine lv_icmp_ne (tgt := 13) hx hb dX8_takeNumber_6 (by decide) (fun c_3 => ?_) (fun c_3 => ?_)
  · replace c_3 := mt (I_eq (a := z_1) (b := 45) rz_1 (show rng 45 from ⟨by decide, by decide⟩)).mpr c_3
    refine lv_iconst (v := I 0) hx hb dX8_takeNumber_13 (by decide) ?_
    refine lv_istore_n (lv' := [(1, .int (I 0)), (0, .ref a)]) hx hb dX8_takeNumber_14 rfl hl (by decide) rfl (fun ls hl => ?_)
    refine lv_iload_n hx hb dX8_takeNumber_15 rfl (lv_at hl 0 rfl) ?_
    refine lv_if_eq (tgt := 23) hx hb dX8_takeNumber_16 (by decide) (fun _ => ?_) (fun c_4 => absurd (by decide) c_4)
    refine lv_aload_n hx hb dX8_takeNumber_23 rfl (lv_at hl 1 rfl) ?_
    refine ok.getIc hO h_a (by decide) k3_6 e_2 (fun _ _ he hv kk => th_get (ci := 8) (C := RX8) (T := TX8) (N := 9) hx hb hts inX8 hown hK hH he rfl 6 (by decide) fl0 hv dX8_takeNumber_24 kk) ?_
    refine lv_sipush (v := I 257) hx hb dX8_takeNumber_27 (by decide) ?_
    refine lv_icmp_eq (tgt := 40) hx hb dX8_takeNumber_30 (by decide) (fun c_5 => ?_) (fun c_5 => ?_)
    · replace c_5 := (I_eq (a := z_1) (b := 257) rz_1 (show rng 257 from ⟨by decide, by decide⟩)).mp c_5
      have h0_6 : fc = 0 := by omega
      have hp_7 := hT0.2.2.2.2.2.2.1 h0_6
      have hp_7j := And.intro hT0.2.2.1 (And.intro hT0.2.2.2.1 (And.intro hT0.2.2.2.2.1 hT0.2.2.2.2.2.1))
      clear hU0
      refine lv_aload_n hx hb dX8_takeNumber_40 rfl (lv_at hl 1 rfl) ?_
      refine lv_iconst (v := I 3) hx hb dX8_takeNumber_41 (by decide) ?_
      obtain ⟨_, hc_8⟩ := hO.cell h_a (by decide) (ci := 8) rfl
      refine th_calli (va_runV (As := [.int (I 3)]) (rest := []) ⟨hx, hb, hml, hown, hts⟩ (f_longer l G y b0 σ E hO a h_a 3 (show rng 3 from (show rng 3 from ⟨by decide, by decide⟩)) T fc jt hT0) (cwV 1 hts gX8_takeNumber_X8_isLongerThan rfl rfl rfl (by decide +kernel) ⟨Nat.le_of_ble_eq_true rfl, Nat.le_of_ble_eq_true rfl⟩) (th_PV hK hH rfl hc_8) rfl rfl hl.1 rfl (lv_room (Nat.le_of_ble_eq_true rfl)) dX8_takeNumber_42 ⟨Nat.le_of_ble_eq_true rfl, Nat.le_of_ble_eq_true rfl⟩) hS (fun z_11 σ_s_10 H locs rz_11 hw_9 hH hS => ?_)
      obtain ⟨e9, bhw_9, hw_9⟩ := hw_9
      replace e9 := e9.symm
      subst e9
      replace hw_9 : fc = 0 → (z_11 = 1 ∧ 3 < tL T jt) ∨ (z_11 = 0 ∧ tL T jt ≤ 3) := hw_9
      replace hw_9 := hw_9 h0_6
      refine lv_if_eq (tgt := 55) hx hb dX8_takeNumber_45 (by decide) (fun c_12 => ?_) (fun c_12 => ?_)
      · replace c_12 := (I_eq (a := z_11) (b := 0) rz_11 (show rng 0 from ⟨by decide, by decide⟩)).mp c_12
        refine lv_iload_n hx hb dX8_takeNumber_55 rfl (lv_at hl 0 rfl) ?_
        refine lv_if_eq (tgt := 67) hx hb dX8_takeNumber_56 (by decide) (fun _ => ?_) (fun c_13 => absurd (by decide) c_13)
        refine lv_aload_n hx hb dX8_takeNumber_67 rfl (lv_at hl 1 rfl) ?_
        obtain ⟨_, hc_14⟩ := hO.cell h_a (by decide) (ci := 8) rfl
        refine th_calli (va_runV (As := []) (rest := []) ⟨hx, hb, hml, hown, hts⟩ (f_value l G y b0 σ E hO a h_a T fc jt hT0) (cwV 0 hts gX8_takeNumber_X8_value rfl rfl rfl (by decide +kernel) ⟨Nat.le_of_ble_eq_true rfl, Nat.le_of_ble_eq_true rfl⟩) (th_PV hK hH rfl hc_14) rfl rfl hl.1 rfl (lv_room (Nat.le_of_ble_eq_true rfl)) dX8_takeNumber_68 ⟨Nat.le_of_ble_eq_true rfl, Nat.le_of_ble_eq_true rfl⟩) hS (fun z_17 σ_s_16 H locs rz_17 hw_15 hH hS => ?_)
        obtain ⟨e9, hw_15⟩ := hw_15
        replace e9 := e9.symm
        subst e9
        replace hw_15 : fc = 0 → z_17 = tV T jt := hw_15
        replace hw_15 := hw_15 h0_6
        refine lv_istore_n (lv' := [(2, .int (I z_17)), (1, .int (I 0)), (0, .ref a)]) hx hb dX8_takeNumber_71 rfl hl (by decide) rfl (fun ls hl => ?_)
        refine lv_aload_n hx hb dX8_takeNumber_72 rfl (lv_at hl 2 rfl) ?_
        obtain ⟨_, hc_18⟩ := hO.cell h_a (by decide) (ci := 8) rfl
        refine th_callv (va_runV (As := []) (rest := []) ⟨hx, hb, hml, hown, hts⟩ (f_step l G y b0 σ E hO a h_a T fc jt hT0) (cwV 0 hts gX8_takeNumber_X8_step rfl rfl rfl (by decide +kernel) ⟨Nat.le_of_ble_eq_true rfl, Nat.le_of_ble_eq_true rfl⟩) (th_PV hK hH rfl hc_18) rfl rfl hl.1 rfl (lv_room (Nat.le_of_ble_eq_true rfl)) dX8_takeNumber_73 ⟨Nat.le_of_ble_eq_true rfl, Nat.le_of_ble_eq_true rfl⟩) hS (fun σ_s_20 H locs hw_19 hH hS => ?_)
        obtain ⟨hO9, hF9, hw_19⟩ := hw_19
        replace hO := hO9
        replace hF := hF.tu hF9 (by decide)
        replace hw_19 : ∃ c1 j1, TSt E σ_s_20 a T c1 j1 ∧ c1 = fc ∧ (fc ≠ 0 → j1 = jt) ∧ (fc = 0 → tK T jt ≠ 259 → j1 = jt + 1) := hw_19
        obtain ⟨cc_21, jj_22, hT_23, hw_19⟩ := hw_19
        have hUhT_23 := hT_23.2.2
        have hw_19j : jj_22 = jt + 1 := by omega
        have h0_24 : cc_21 = 0 := by omega
        have hp_25 := hT_23.2.2.2.2.2.2.1 h0_24
        have hp_25j := And.intro hT_23.2.2.1 (And.intro hT_23.2.2.2.1 (And.intro hT_23.2.2.2.2.1 hT_23.2.2.2.2.2.1))
        clear hUhT_23
        clear hw_19
        refine lv_iload_n hx hb dX8_takeNumber_76 rfl (lv_at hl 0 rfl) ?_
        exact th_iret hx hb hr hlocks hH hS (z := z_17) rz_17 ⟨hO, hF, ⟨cc_21, jj_22, hT_23, by omega, fun hc9 => nuR_mk (q := jt) (by omega) (by omega)⟩⟩ dX8_takeNumber_77
      · replace c_12 := mt (I_eq (a := z_11) (b := 0) rz_11 (show rng 0 from ⟨by decide, by decide⟩)).mpr c_12
        refine lv_aload_n hx hb dX8_takeNumber_48 rfl (lv_at hl 1 rfl) ?_
        refine lv_iconst (v := I 2) hx hb dX8_takeNumber_49 (by decide) ?_
        obtain ⟨_, hc_26⟩ := hO.cell h_a (by decide) (ci := 8) rfl
        refine th_callv (va_runV (As := [.int (I 2)]) (rest := []) ⟨hx, hb, hml, hown, hts⟩ (f_fail l G y b0 σ E hO a h_a 2 (show rng 2 from (show rng 2 from ⟨by decide, by decide⟩)) T fc jt hT0 (by omega)) (cwV 1 hts gX8_takeNumber_X8_fail rfl rfl rfl (by decide +kernel) ⟨Nat.le_of_ble_eq_true rfl, Nat.le_of_ble_eq_true rfl⟩) (th_PV hK hH rfl hc_26) rfl rfl hl.1 rfl (lv_room (Nat.le_of_ble_eq_true rfl)) dX8_takeNumber_50 ⟨Nat.le_of_ble_eq_true rfl, Nat.le_of_ble_eq_true rfl⟩) hS (fun σ_s_28 H locs hw_27 hH hS => ?_)
        obtain ⟨hO9, hF9, hw_27⟩ := hw_27
        replace hO := hO9
        replace hF := hF.tu hF9 (by decide)
        replace hw_27 : ∃ c1 j1, TSt E σ_s_28 a T c1 j1 ∧ j1 = jt ∧ (fc = 0 → c1 = 2) ∧ (fc ≠ 0 → c1 = fc) := hw_27
        obtain ⟨cc_29, jj_30, hT_31, hw_27⟩ := hw_27
        have hUhT_31 := hT_31.2.2
        refine lv_iconst (v := I 0) hx hb dX8_takeNumber_53 (by decide) ?_
        exact th_iret hx hb hr hlocks hH hS (z := 0) (show rng 0 from ⟨by decide, by decide⟩) ⟨hO, hF, ⟨cc_29, jj_30, hT_31, by omega, fun hc9 => nuR_mk (q := jt) (by omega) (by omega)⟩⟩ dX8_takeNumber_54
    · replace c_5 := mt (I_eq (a := z_1) (b := 257) rz_1 (show rng 257 from ⟨by decide, by decide⟩)).mpr c_5
      refine lv_aload_n hx hb dX8_takeNumber_33 rfl (lv_at hl 1 rfl) ?_
      refine lv_iconst (v := I 1) hx hb dX8_takeNumber_34 (by decide) ?_
      obtain ⟨_, hc_32⟩ := hO.cell h_a (by decide) (ci := 8) rfl
      refine th_callv (va_runV (As := [.int (I 1)]) (rest := []) ⟨hx, hb, hml, hown, hts⟩ (f_fail l G y b0 σ E hO a h_a 1 (show rng 1 from (show rng 1 from ⟨by decide, by decide⟩)) T fc jt hT0 (by omega)) (cwV 1 hts gX8_takeNumber_X8_fail rfl rfl rfl (by decide +kernel) ⟨Nat.le_of_ble_eq_true rfl, Nat.le_of_ble_eq_true rfl⟩) (th_PV hK hH rfl hc_32) rfl rfl hl.1 rfl (lv_room (Nat.le_of_ble_eq_true rfl)) dX8_takeNumber_35 ⟨Nat.le_of_ble_eq_true rfl, Nat.le_of_ble_eq_true rfl⟩) hS (fun σ_s_34 H locs hw_33 hH hS => ?_)
      obtain ⟨hO9, hF9, hw_33⟩ := hw_33
      replace hO := hO9
      replace hF := hF.tu hF9 (by decide)
      replace hw_33 : ∃ c1 j1, TSt E σ_s_34 a T c1 j1 ∧ j1 = jt ∧ (fc = 0 → c1 = 1) ∧ (fc ≠ 0 → c1 = fc) := hw_33
      obtain ⟨cc_35, jj_36, hT_37, hw_33⟩ := hw_33
      have hUhT_37 := hT_37.2.2
      refine lv_iconst (v := I 0) hx hb dX8_takeNumber_38 (by decide) ?_
      exact th_iret hx hb hr hlocks hH hS (z := 0) (show rng 0 from ⟨by decide, by decide⟩) ⟨hO, hF, ⟨cc_35, jj_36, hT_37, by omega, fun hc9 => nuR_mk (q := jt) (by omega) (by omega)⟩⟩ dX8_takeNumber_39
  · replace c_3 := (I_eq (a := z_1) (b := 45) rz_1 (show rng 45 from ⟨by decide, by decide⟩)).mp c_3
    refine lv_iconst (v := I 1) hx hb dX8_takeNumber_9 (by decide) ?_
    refine lv_goto (tgt := 14) hx hb dX8_takeNumber_10 (by decide) ?_
    refine lv_istore_n (lv' := [(1, .int (I 1)), (0, .ref a)]) hx hb dX8_takeNumber_14 rfl hl (by decide) rfl (fun ls hl => ?_)
    refine lv_iload_n hx hb dX8_takeNumber_15 rfl (lv_at hl 0 rfl) ?_
    refine lv_if_eq (tgt := 23) hx hb dX8_takeNumber_16 (by decide) (fun c_38 => absurd c_38 (by decide)) (fun _ => ?_)
    have h0_39 : fc = 0 := by omega
    have hp_40 := hT0.2.2.2.2.2.2.1 h0_39
    have hp_40j := And.intro hT0.2.2.1 (And.intro hT0.2.2.2.1 (And.intro hT0.2.2.2.2.1 hT0.2.2.2.2.2.1))
    clear hU0
    refine lv_aload_n hx hb dX8_takeNumber_19 rfl (lv_at hl 1 rfl) ?_
    obtain ⟨_, hc_41⟩ := hO.cell h_a (by decide) (ci := 8) rfl
    refine th_callv (va_runV (As := []) (rest := []) ⟨hx, hb, hml, hown, hts⟩ (f_step l G y b0 σ E hO a h_a T fc jt hT0) (cwV 0 hts gX8_takeNumber_X8_step rfl rfl rfl (by decide +kernel) ⟨Nat.le_of_ble_eq_true rfl, Nat.le_of_ble_eq_true rfl⟩) (th_PV hK hH rfl hc_41) rfl rfl hl.1 rfl (lv_room (Nat.le_of_ble_eq_true rfl)) dX8_takeNumber_20 ⟨Nat.le_of_ble_eq_true rfl, Nat.le_of_ble_eq_true rfl⟩) hS (fun σ_s_43 H locs hw_42 hH hS => ?_)
    obtain ⟨hO9, hF9, hw_42⟩ := hw_42
    replace hO := hO9
    replace hF := hF.tu hF9 (by decide)
    replace hw_42 : ∃ c1 j1, TSt E σ_s_43 a T c1 j1 ∧ c1 = fc ∧ (fc ≠ 0 → j1 = jt) ∧ (fc = 0 → tK T jt ≠ 259 → j1 = jt + 1) := hw_42
    obtain ⟨cc_44, jj_45, hT_46, hw_42⟩ := hw_42
    have hUhT_46 := hT_46.2.2
    have hw_42j : jj_45 = jt + 1 := by omega
    have h0_47 : cc_44 = 0 := by omega
    have hp_48 := hT_46.2.2.2.2.2.2.1 h0_47
    have hp_48j := And.intro hT_46.2.2.1 (And.intro hT_46.2.2.2.1 (And.intro hT_46.2.2.2.2.1 hT_46.2.2.2.2.2.1))
    clear hUhT_46
    clear hw_42
    refine lv_aload_n hx hb dX8_takeNumber_23 rfl (lv_at hl 1 rfl) ?_
    refine ok.getI hO h_a (by decide) k3_6 (fun _ _ he hv kk => th_get (ci := 8) (C := RX8) (T := TX8) (N := 9) hx hb hts inX8 hown hK hH he rfl 6 (by decide) fl0 hv dX8_takeNumber_24 kk) (fun z_49 e_50 rz_49 lz_49 uz_49 => ?_)
    refine lv_sipush (v := I 257) hx hb dX8_takeNumber_27 (by decide) ?_
    refine lv_icmp_eq (tgt := 40) hx hb dX8_takeNumber_30 (by decide) (fun c_51 => ?_) (fun c_51 => ?_)
    · replace c_51 := (I_eq (a := z_49) (b := 257) rz_49 (show rng 257 from ⟨by decide, by decide⟩)).mp c_51
      refine lv_aload_n hx hb dX8_takeNumber_40 rfl (lv_at hl 1 rfl) ?_
      refine lv_iconst (v := I 3) hx hb dX8_takeNumber_41 (by decide) ?_
      obtain ⟨_, hc_52⟩ := hO.cell h_a (by decide) (ci := 8) rfl
      refine th_calli (va_runV (As := [.int (I 3)]) (rest := []) ⟨hx, hb, hml, hown, hts⟩ (f_longer l G y b0 σ_s_43 E hO a h_a 3 (show rng 3 from (show rng 3 from ⟨by decide, by decide⟩)) T cc_44 jj_45 hT_46) (cwV 1 hts gX8_takeNumber_X8_isLongerThan rfl rfl rfl (by decide +kernel) ⟨Nat.le_of_ble_eq_true rfl, Nat.le_of_ble_eq_true rfl⟩) (th_PV hK hH rfl hc_52) rfl rfl hl.1 rfl (lv_room (Nat.le_of_ble_eq_true rfl)) dX8_takeNumber_42 ⟨Nat.le_of_ble_eq_true rfl, Nat.le_of_ble_eq_true rfl⟩) hS (fun z_55 σ_s_54 H locs rz_55 hw_53 hH hS => ?_)
      obtain ⟨e9, bhw_53, hw_53⟩ := hw_53
      replace e9 := e9.symm
      subst e9
      replace hw_53 : cc_44 = 0 → (z_55 = 1 ∧ 3 < tL T jj_45) ∨ (z_55 = 0 ∧ tL T jj_45 ≤ 3) := hw_53
      replace hw_53 := hw_53 h0_47
      refine lv_if_eq (tgt := 55) hx hb dX8_takeNumber_45 (by decide) (fun c_56 => ?_) (fun c_56 => ?_)
      · replace c_56 := (I_eq (a := z_55) (b := 0) rz_55 (show rng 0 from ⟨by decide, by decide⟩)).mp c_56
        refine lv_iload_n hx hb dX8_takeNumber_55 rfl (lv_at hl 0 rfl) ?_
        refine lv_if_eq (tgt := 67) hx hb dX8_takeNumber_56 (by decide) (fun c_57 => absurd c_57 (by decide)) (fun _ => ?_)
        refine lv_aload_n hx hb dX8_takeNumber_59 rfl (lv_at hl 1 rfl) ?_
        obtain ⟨_, hc_58⟩ := hO.cell h_a (by decide) (ci := 8) rfl
        refine th_calli (va_runV (As := []) (rest := []) ⟨hx, hb, hml, hown, hts⟩ (f_value l G y b0 σ_s_43 E hO a h_a T cc_44 jj_45 hT_46) (cwV 0 hts gX8_takeNumber_X8_value rfl rfl rfl (by decide +kernel) ⟨Nat.le_of_ble_eq_true rfl, Nat.le_of_ble_eq_true rfl⟩) (th_PV hK hH rfl hc_58) rfl rfl hl.1 rfl (lv_room (Nat.le_of_ble_eq_true rfl)) dX8_takeNumber_60 ⟨Nat.le_of_ble_eq_true rfl, Nat.le_of_ble_eq_true rfl⟩) hS (fun z_61 σ_s_60 H locs rz_61 hw_59 hH hS => ?_)
        obtain ⟨e9, hw_59⟩ := hw_59
        replace e9 := e9.symm
        subst e9
        replace hw_59 : cc_44 = 0 → z_61 = tV T jj_45 := hw_59
        replace hw_59 := hw_59 h0_47
        refine lv_ineg hx hb dX8_takeNumber_63 ?_
        refine th_nego (fun z_62 rz_62 hz_62 => ?_)
        refine lv_goto (tgt := 71) hx hb dX8_takeNumber_64 (by decide) ?_
        refine lv_istore_n (lv' := [(2, .int (I z_62)), (1, .int (I 1)), (0, .ref a)]) hx hb dX8_takeNumber_71 rfl hl (by decide) rfl (fun ls hl => ?_)
        refine lv_aload_n hx hb dX8_takeNumber_72 rfl (lv_at hl 2 rfl) ?_
        obtain ⟨_, hc_63⟩ := hO.cell h_a (by decide) (ci := 8) rfl
        refine th_callv (va_runV (As := []) (rest := []) ⟨hx, hb, hml, hown, hts⟩ (f_step l G y b0 σ_s_43 E hO a h_a T cc_44 jj_45 hT_46) (cwV 0 hts gX8_takeNumber_X8_step rfl rfl rfl (by decide +kernel) ⟨Nat.le_of_ble_eq_true rfl, Nat.le_of_ble_eq_true rfl⟩) (th_PV hK hH rfl hc_63) rfl rfl hl.1 rfl (lv_room (Nat.le_of_ble_eq_true rfl)) dX8_takeNumber_73 ⟨Nat.le_of_ble_eq_true rfl, Nat.le_of_ble_eq_true rfl⟩) hS (fun σ_s_65 H locs hw_64 hH hS => ?_)
        obtain ⟨hO9, hF9, hw_64⟩ := hw_64
        replace hO := hO9
        replace hF := hF.tu hF9 (by decide)
        replace hw_64 : ∃ c1 j1, TSt E σ_s_65 a T c1 j1 ∧ c1 = cc_44 ∧ (cc_44 ≠ 0 → j1 = jj_45) ∧ (cc_44 = 0 → tK T jj_45 ≠ 259 → j1 = jj_45 + 1) := hw_64
        obtain ⟨cc_66, jj_67, hT_68, hw_64⟩ := hw_64
        have hUhT_68 := hT_68.2.2
        have hw_64j : jj_67 = jj_45 + 1 := by omega
        have h0_69 : cc_66 = 0 := by omega
        have hp_70 := hT_68.2.2.2.2.2.2.1 h0_69
        have hp_70j := And.intro hT_68.2.2.1 (And.intro hT_68.2.2.2.1 (And.intro hT_68.2.2.2.2.1 hT_68.2.2.2.2.2.1))
        clear hUhT_68
        clear hw_64
        refine lv_iload_n hx hb dX8_takeNumber_76 rfl (lv_at hl 0 rfl) ?_
        exact th_iret hx hb hr hlocks hH hS (z := z_62) rz_62 ⟨hO, hF, ⟨cc_66, jj_67, hT_68, by omega, fun hc9 => nuR_mk (q := jj_45) (by omega) (by omega)⟩⟩ dX8_takeNumber_77
      · replace c_56 := mt (I_eq (a := z_55) (b := 0) rz_55 (show rng 0 from ⟨by decide, by decide⟩)).mpr c_56
        refine lv_aload_n hx hb dX8_takeNumber_48 rfl (lv_at hl 1 rfl) ?_
        refine lv_iconst (v := I 2) hx hb dX8_takeNumber_49 (by decide) ?_
        obtain ⟨_, hc_71⟩ := hO.cell h_a (by decide) (ci := 8) rfl
        refine th_callv (va_runV (As := [.int (I 2)]) (rest := []) ⟨hx, hb, hml, hown, hts⟩ (f_fail l G y b0 σ_s_43 E hO a h_a 2 (show rng 2 from (show rng 2 from ⟨by decide, by decide⟩)) T cc_44 jj_45 hT_46 (by omega)) (cwV 1 hts gX8_takeNumber_X8_fail rfl rfl rfl (by decide +kernel) ⟨Nat.le_of_ble_eq_true rfl, Nat.le_of_ble_eq_true rfl⟩) (th_PV hK hH rfl hc_71) rfl rfl hl.1 rfl (lv_room (Nat.le_of_ble_eq_true rfl)) dX8_takeNumber_50 ⟨Nat.le_of_ble_eq_true rfl, Nat.le_of_ble_eq_true rfl⟩) hS (fun σ_s_73 H locs hw_72 hH hS => ?_)
        obtain ⟨hO9, hF9, hw_72⟩ := hw_72
        replace hO := hO9
        replace hF := hF.tu hF9 (by decide)
        replace hw_72 : ∃ c1 j1, TSt E σ_s_73 a T c1 j1 ∧ j1 = jj_45 ∧ (cc_44 = 0 → c1 = 2) ∧ (cc_44 ≠ 0 → c1 = cc_44) := hw_72
        obtain ⟨cc_74, jj_75, hT_76, hw_72⟩ := hw_72
        have hUhT_76 := hT_76.2.2
        refine lv_iconst (v := I 0) hx hb dX8_takeNumber_53 (by decide) ?_
        exact th_iret hx hb hr hlocks hH hS (z := 0) (show rng 0 from ⟨by decide, by decide⟩) ⟨hO, hF, ⟨cc_74, jj_75, hT_76, by omega, fun hc9 => nuR_mk (q := jj_45) (by omega) (by omega)⟩⟩ dX8_takeNumber_54
    · replace c_51 := mt (I_eq (a := z_49) (b := 257) rz_49 (show rng 257 from ⟨by decide, by decide⟩)).mpr c_51
      refine lv_aload_n hx hb dX8_takeNumber_33 rfl (lv_at hl 1 rfl) ?_
      refine lv_iconst (v := I 1) hx hb dX8_takeNumber_34 (by decide) ?_
      obtain ⟨_, hc_77⟩ := hO.cell h_a (by decide) (ci := 8) rfl
      refine th_callv (va_runV (As := [.int (I 1)]) (rest := []) ⟨hx, hb, hml, hown, hts⟩ (f_fail l G y b0 σ_s_43 E hO a h_a 1 (show rng 1 from (show rng 1 from ⟨by decide, by decide⟩)) T cc_44 jj_45 hT_46 (by omega)) (cwV 1 hts gX8_takeNumber_X8_fail rfl rfl rfl (by decide +kernel) ⟨Nat.le_of_ble_eq_true rfl, Nat.le_of_ble_eq_true rfl⟩) (th_PV hK hH rfl hc_77) rfl rfl hl.1 rfl (lv_room (Nat.le_of_ble_eq_true rfl)) dX8_takeNumber_35 ⟨Nat.le_of_ble_eq_true rfl, Nat.le_of_ble_eq_true rfl⟩) hS (fun σ_s_79 H locs hw_78 hH hS => ?_)
      obtain ⟨hO9, hF9, hw_78⟩ := hw_78
      replace hO := hO9
      replace hF := hF.tu hF9 (by decide)
      replace hw_78 : ∃ c1 j1, TSt E σ_s_79 a T c1 j1 ∧ j1 = jj_45 ∧ (cc_44 = 0 → c1 = 1) ∧ (cc_44 ≠ 0 → c1 = cc_44) := hw_78
      obtain ⟨cc_80, jj_81, hT_82, hw_78⟩ := hw_78
      have hUhT_82 := hT_82.2.2
      refine lv_iconst (v := I 0) hx hb dX8_takeNumber_38 (by decide) ?_
      exact th_iret hx hb hr hlocks hH hS (z := 0) (show rng 0 from ⟨by decide, by decide⟩) ⟨hO, hF, ⟨cc_80, jj_81, hT_82, by omega, fun hc9 => nuR_mk (q := jj_45) (by omega) (by omega)⟩⟩ dX8_takeNumber_39
