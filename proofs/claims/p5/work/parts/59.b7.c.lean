set_option maxHeartbeats 1000000 in
set_option maxRecDepth 100000 in
theorem x_must (l : Launch) (hl0 : l.stackTraces = false) (G : va_G) (y : Nat → ClassId) (b0 : Nat) (σ : th_M) (E : th_E) (hO : ok y E σ) (a : Nat) (h_a : kd E a = 12) (i : Int) (ri : rng i) : vx_Met l yX10_mustBeThere wsX10_mustBeThere ({ frames := 6, cells := 1, slots := 6, locals := 100 }) (th_PX G y b0 σ [.ref a, .int (I i)]) (th_Qv G b0 (fun σ1 => ok y E σ1 ∧ fr [] E σ σ1 ∧ (0 ≤ i ∧ i ≤ 59))) (th_XX G b0 (fun X σ1 => ok y E σ1 ∧ fr [] E σ σ1 ∧ (X = nq_NSE ∧ True))) 1 6 (th_A b0) := by
  refine vx_ofW (cc := cX10_mustBeThere) (maxL := 2) (ret := none) (by decide) rfl ?_
  intro p e s m args below meth c s₁ B hml htab hv
  obtain ⟨rfl, hH, hK, hXs⟩ := hv
  have hx := B.exec
  have hb := B.bytes
  have hr := B.returns
  have hts := atoms_spec (ws := wsX10_mustBeThere) B.pre
  have hown : s.vm.findClass RX10 = some m.cls := findClass_of_methodNamed B.named
  have hlocks := B.notSynchronized
  have h00 : b0 ≤ s.heap.size := hH.1
  have hS : va_S (th_A b0) s.heap s.heap [] := va_S.rf
  have hF : fr [] E σ σ := fr.rf
  have inX10 : ∀ w ∈ wsX100, w ∈ wsX10_mustBeThere := by decide +kernel
  have inX6 : ∀ w ∈ wsX60, w ∈ wsX10_mustBeThere := by decide +kernel
  have fl0 := hts (.fieldLink RX10 63 "NestQuery" "now" "LNestQuery$State;") (by decide +kernel)
  have hl := lv_entry ([.ref a, .int (I i)]) (n := 2) (Nat.le_of_ble_eq_true rfl)
  rw [lg_entry_eq]
  generalize (lg_sl ([.ref a, .int (I i)]) ++ List.replicate (2 - (lg_sl ([.ref a, .int (I i)])).length) Slot.unset).toArray = ls at hl ⊢
  have hl : lv_has ls 2 [(0, .ref a), (1, .int (I i))] := hl
  refine lv_aload_n hx hb dX10_mustBeThere_0 rfl (lv_at hl 0 rfl) ?_
  have hp_1 : kd E (ad E a 9) = 5 := ok.pk hO h_a (by decide) k12_9 rfl
  refine ok.getR hO h_a (by decide) k12_9 (by decide) (fun _ _ he hv kk => th_get (ci := 10) (C := RX10) (T := TX10) (N := 18) hx hb hts inX10 hown hK hH he rfl 9 (by decide) fl0 hv dX10_mustBeThere_1 kk) ?_
  have hp_2 : kd E (ad E (ad E a 9) 0) = 1 := ok.pk hO hp_1 (by decide) k5_0 rfl
  refine ok.getR hO hp_1 (by decide) k5_0 (by decide) (fun _ _ he hv kk => th_getN (ci := 6) (C := RX6) (T := TX6) (N := 7) hx hb hts inX6 hown hK hH he rfl 0 (by decide) (nl_13 hK) hv dX10_mustBeThere_4 kk) ?_
  refine lv_iload_n hx hb dX10_mustBeThere_7 rfl (lv_at hl 1 rfl) ?_
  obtain ⟨z_3, e_4, rz_3, lz_3, uz_3⟩ := hO.gi hp_2 (by decide) k1_4
  obtain ⟨_, hc_5⟩ := hO.cell hp_2 (by decide) (ci := 9) rfl
  refine th_calli (va_runV (As := [.int (I i)]) (rest := []) ⟨hx, hb, hml, hown, hts⟩ (t_has l G y b0 σ (ad E (ad E a 9) 0) (tvE E σ (ad E (ad E a 9) 0) 60) i (hO.isT1 hp_2) (show rng i from ri)) (cwV 1 hts gX10_mustBeThere_X9_has rfl rfl rfl (by decide +kernel) ⟨Nat.le_of_ble_eq_true rfl, Nat.le_of_ble_eq_true rfl⟩) (th_PV hK hH rfl hc_5) rfl rfl hl.1 rfl (lv_room (Nat.le_of_ble_eq_true rfl)) dX10_mustBeThere_8 ⟨Nat.le_of_ble_eq_true rfl, Nat.le_of_ble_eq_true rfl⟩) hS (fun z_8 σ_s_7 H locs rz_8 hw_6 hH hS => ?_)
  obtain ⟨e9, hw_6⟩ := hw_6
  replace e9 := e9.symm
  subst e9
  have hw_6 : (z_8 = 1 ∧ 0 ≤ i ∧ i < (gI σ (ad E (ad E a 9) 0) 4)) ∨ (z_8 = 0 ∧ ¬ (0 ≤ i ∧ i < (gI σ (ad E (ad E a 9) 0) 4))) := hw_6
  refine lv_if_ne (tgt := 25) hx hb dX10_mustBeThere_11 (by decide) (fun c_9 => ?_) (fun c_9 => ?_)
  · replace c_9 := mt (I_eq (a := z_8) (b := 0) rz_8 (show rng 0 from ⟨by decide, by decide⟩)).mpr c_9
    refine vx_ret ?_
    refine W.widen (k := 1) (n := 6) (Nat.le_of_ble_eq_true rfl) (Nat.le_of_ble_eq_true rfl) ?_
    exact th_vret hx hb hr hlocks hH hS ⟨hO, hF, by omega⟩ dX10_mustBeThere_25
  · replace c_9 := (I_eq (a := z_8) (b := 0) rz_8 (show rng 0 from ⟨by decide, by decide⟩)).mp c_9
    exact th_throwNW (text := "no such thing") hx hb hl0 hown hts (by first | exact fun w h => List.mem_cons_of_mem _ (List.mem_append_right _ h) | exact fun w h => List.mem_cons_of_mem _ (List.mem_append_left _ (List.mem_append_right _ h)) | decide +kernel) (by decide +kernel) (by decide +kernel) hXs hS hH (hl.1.trans hml.symm) htab hlocks (List.mem_of_getElem? (i := 3) rfl) dX10_mustBeThere_14 dX10_mustBeThere_17 dX10_mustBeThere_18 dX10_mustBeThere_21 dX10_mustBeThere_24 (Nat.le_of_ble_eq_true rfl) (Nat.le_of_ble_eq_true rfl) (Nat.le_of_ble_eq_true rfl) (Nat.le_of_ble_eq_true rfl) ⟨hO, hF, ⟨rfl, trivial⟩⟩ (Nat.le_of_ble_eq_true rfl) (Nat.le_of_ble_eq_true rfl)

set_option maxHeartbeats 1000000 in
set_option maxRecDepth 100000 in
theorem x_ofText (l : Launch) (hl0 : l.stackTraces = false) (G : va_G) (y : Nat → ClassId) (b0 : Nat) (σ : th_M) (E : th_E) (hO : ok y E σ) (a : Nat) (h_a : kd E a = 12) (i : Int) (ri : rng i) : vx_Met l yX10_ofText wsX10_ofText ({ frames := 6, cells := 1, slots := 6, locals := 100 }) (th_PX G y b0 σ [.ref a, .int (I i)]) (th_Qi G b0 (fun r σ1 => ok y E σ1 ∧ fr [] E σ σ1 ∧ (True))) (th_XX G b0 (fun X σ1 => ok y E σ1 ∧ fr [] E σ σ1 ∧ (X = nq_NSE ∧ True))) 1 6 (th_A b0) := by
  refine vx_ofW (cc := cX10_ofText) (maxL := 2) (ret := (some .int)) (by decide) rfl ?_
  intro p e s m args below meth c s₁ B hml htab hv
  obtain ⟨rfl, hH, hK, hXs⟩ := hv
  have hx := B.exec
  have hb := B.bytes
  have hr := B.returns
  have hts := atoms_spec (ws := wsX10_ofText) B.pre
  have hown : s.vm.findClass RX10 = some m.cls := findClass_of_methodNamed B.named
  have hlocks := B.notSynchronized
  have h00 : b0 ≤ s.heap.size := hH.1
  have hS : va_S (th_A b0) s.heap s.heap [] := va_S.rf
  have hF : fr [] E σ σ := fr.rf
  have inX10 : ∀ w ∈ wsX100, w ∈ wsX10_ofText := by decide +kernel
  have inX7 : ∀ w ∈ wsX70, w ∈ wsX10_ofText := by decide +kernel
  have fl0 := hts (.fieldLink RX10 92 "NestQuery" "text" "LNestQuery$TextOut;") (by decide +kernel)
  have hl := lv_entry ([.ref a, .int (I i)]) (n := 2) (Nat.le_of_ble_eq_true rfl)
  rw [lg_entry_eq]
  generalize (lg_sl ([.ref a, .int (I i)]) ++ List.replicate (2 - (lg_sl ([.ref a, .int (I i)])).length) Slot.unset).toArray = ls at hl ⊢
  have hl : lv_has ls 2 [(0, .ref a), (1, .int (I i))] := hl
  refine lv_iload_n hx hb dX10_ofText_0 rfl (lv_at hl 1 rfl) ?_
  refine lv_iconst (v := I (-1)) hx hb dX10_ofText_1 (by decide) ?_
  refine lv_icmp_ne (tgt := 13) hx hb dX10_ofText_2 (by decide) (fun c_1 => ?_) (fun c_1 => ?_)
  · replace c_1 := mt (I_eq (a := i) (b := (-1)) ri (show rng (-1) from ⟨by decide, by decide⟩)).mpr c_1
    refine lv_iload_n hx hb dX10_ofText_13 rfl (lv_at hl 1 rfl) ?_
    refine lv_if_lt (tgt := 28) hx hb dX10_ofText_14 (by decide) (fun c_2 => ?_) (fun c_2 => ?_)
    · replace c_2 := (I_lt (a := i) (b := 0) ri (show rng 0 from ⟨by decide, by decide⟩)).mp c_2
      exact th_throwNW (text := "no such byte") hx hb hl0 hown hts (by first | exact fun w h => List.mem_cons_of_mem _ (List.mem_append_right _ h) | exact fun w h => List.mem_cons_of_mem _ (List.mem_append_left _ (List.mem_append_right _ h)) | decide +kernel) (by decide +kernel) (by decide +kernel) hXs hS hH (hl.1.trans hml.symm) htab hlocks (List.mem_of_getElem? (i := 6) rfl) dX10_ofText_28 dX10_ofText_31 dX10_ofText_32 dX10_ofText_35 dX10_ofText_38 (Nat.le_of_ble_eq_true rfl) (Nat.le_of_ble_eq_true rfl) (Nat.le_of_ble_eq_true rfl) (Nat.le_of_ble_eq_true rfl) ⟨hO, hF, ⟨rfl, trivial⟩⟩ (Nat.le_of_ble_eq_true rfl) (Nat.le_of_ble_eq_true rfl)
    · replace c_2 := mt (I_lt (a := i) (b := 0) ri (show rng 0 from ⟨by decide, by decide⟩)).mpr c_2
      refine lv_iload_n hx hb dX10_ofText_17 rfl (lv_at hl 1 rfl) ?_
      refine lv_aload_n hx hb dX10_ofText_18 rfl (lv_at hl 0 rfl) ?_
      have hp_3 : kd E (ad E a 15) = 8 := ok.pk hO h_a (by decide) k12_15 rfl
      refine ok.getR hO h_a (by decide) k12_15 (by decide) (fun _ _ he hv kk => th_get (ci := 10) (C := RX10) (T := TX10) (N := 18) hx hb hts inX10 hown hK hH he rfl 15 (by decide) fl0 hv dX10_ofText_19 kk) ?_
      refine ok.getI hO hp_3 (by decide) k8_1 (fun _ _ he hv kk => th_getN (ci := 7) (C := RX7) (T := TX7) (N := 2) hx hb hts inX7 hown hK hH he rfl 1 (by decide) (nl_19 hK) hv dX10_ofText_22 kk) (fun z_4 e_5 rz_4 lz_4 uz_4 => ?_)
      refine lv_icmp_lt (tgt := 39) hx hb dX10_ofText_25 (by decide) (fun c_6 => ?_) (fun c_6 => ?_)
      · replace c_6 := (I_lt (a := i) (b := z_4) ri rz_4).mp c_6
        refine lv_aload_n hx hb dX10_ofText_39 rfl (lv_at hl 0 rfl) ?_
        refine ok.getR hO h_a (by decide) k12_15 (by decide) (fun _ _ he hv kk => th_get (ci := 10) (C := RX10) (T := TX10) (N := 18) hx hb hts inX10 hown hK hH he rfl 15 (by decide) fl0 hv dX10_ofText_40 kk) ?_
        refine lv_iload_n hx hb dX10_ofText_43 rfl (lv_at hl 1 rfl) ?_
        obtain ⟨_, hc_7⟩ := hO.cell hp_3 (by decide) (ci := 7) rfl
        refine th_calli (va_runV (As := [.int (I i)]) (rest := []) ⟨hx, hb, hml, hown, hts⟩ (o_byteAt l G y b0 σ E hO (ad E a 15) hp_3 i (show rng i from ri)) (cwV 1 hts gX10_ofText_X7_byteAt rfl rfl rfl (by decide +kernel) ⟨Nat.le_of_ble_eq_true rfl, Nat.le_of_ble_eq_true rfl⟩) (th_PV hK hH rfl hc_7) rfl rfl hl.1 rfl (lv_room (Nat.le_of_ble_eq_true rfl)) dX10_ofText_44 ⟨Nat.le_of_ble_eq_true rfl, Nat.le_of_ble_eq_true rfl⟩) hS (fun z_10 σ_s_9 H locs rz_10 hw_8 hH hS => ?_)
        obtain ⟨e9, hw_8⟩ := hw_8
        replace e9 := e9.symm
        subst e9
        refine vx_ret ?_
        refine W.widen (k := 1) (n := 6) (Nat.le_of_ble_eq_true rfl) (Nat.le_of_ble_eq_true rfl) ?_
        exact th_iret hx hb hr hlocks hH hS (z := z_10) rz_10 ⟨hO, hF, trivial⟩ dX10_ofText_47
      · replace c_6 := mt (I_lt (a := i) (b := z_4) ri rz_4).mpr c_6
        exact th_throwNW (text := "no such byte") hx hb hl0 hown hts (by first | exact fun w h => List.mem_cons_of_mem _ (List.mem_append_right _ h) | exact fun w h => List.mem_cons_of_mem _ (List.mem_append_left _ (List.mem_append_right _ h)) | decide +kernel) (by decide +kernel) (by decide +kernel) hXs hS hH (hl.1.trans hml.symm) htab hlocks (List.mem_of_getElem? (i := 6) rfl) dX10_ofText_28 dX10_ofText_31 dX10_ofText_32 dX10_ofText_35 dX10_ofText_38 (Nat.le_of_ble_eq_true rfl) (Nat.le_of_ble_eq_true rfl) (Nat.le_of_ble_eq_true rfl) (Nat.le_of_ble_eq_true rfl) ⟨hO, hF, ⟨rfl, trivial⟩⟩ (Nat.le_of_ble_eq_true rfl) (Nat.le_of_ble_eq_true rfl)
  · replace c_1 := (I_eq (a := i) (b := (-1)) ri (show rng (-1) from ⟨by decide, by decide⟩)).mp c_1
    refine lv_aload_n hx hb dX10_ofText_5 rfl (lv_at hl 0 rfl) ?_
    have hp_11 : kd E (ad E a 15) = 8 := ok.pk hO h_a (by decide) k12_15 rfl
    refine ok.getR hO h_a (by decide) k12_15 (by decide) (fun _ _ he hv kk => th_get (ci := 10) (C := RX10) (T := TX10) (N := 18) hx hb hts inX10 hown hK hH he rfl 15 (by decide) fl0 hv dX10_ofText_6 kk) ?_
    refine ok.getI hO hp_11 (by decide) k8_1 (fun _ _ he hv kk => th_getN (ci := 7) (C := RX7) (T := TX7) (N := 2) hx hb hts inX7 hown hK hH he rfl 1 (by decide) (nl_19 hK) hv dX10_ofText_9 kk) (fun z_12 e_13 rz_12 lz_12 uz_12 => ?_)
    refine vx_ret ?_
    refine W.widen (k := 1) (n := 6) (Nat.le_of_ble_eq_true rfl) (Nat.le_of_ble_eq_true rfl) ?_
    exact th_iret hx hb hr hlocks hH hS (z := z_12) rz_12 ⟨hO, hF, trivial⟩ dX10_ofText_12

set_option maxHeartbeats 1000000 in
set_option maxRecDepth 100000 in
theorem x_count (l : Launch) (hl0 : l.stackTraces = false) (G : va_G) (y : Nat → ClassId) (b0 : Nat) (σ : th_M) (E : th_E) (hO : ok y E σ) (a : Nat) (h_a : kd E a = 12) (i : Int) (ri : rng i) : vx_Met l yX10_count wsX10_count ({ frames := 144, cells := 1, slots := 6, locals := 4214 }) (th_PX G y b0 σ [.ref a, .int (I i)]) (th_Qi G b0 (fun r σ1 => ok y E σ1 ∧ fr [12, 7, 1] E σ σ1 ∧ ((gI σ1 a 2 = gI σ a 2 ∧ gI σ1 a 1 = gI σ a 1) ∧ aF σ1 (ad E a 0) = aF σ (ad E a 0) ∧ aQ σ1 (ad E a 3) = aQ σ (ad E a 3)))) (th_XX G b0 (fun X σ1 => ok y E σ1 ∧ fr [12, 7, 1] E σ σ1 ∧ ((X = nq_NSE ∧ gI σ1 a 1 = gI σ a 1 ∧ gI σ1 a 2 = gI σ a 2) ∧ aF σ1 (ad E a 0) = aF σ (ad E a 0) ∧ aQ σ1 (ad E a 3) = aQ σ (ad E a 3)))) 1 6 (th_A b0) := by
  refine vx_ofW (cc := cX10_count) (maxL := 2) (ret := (some .int)) (by decide) rfl ?_
  intro p e s m args below meth c s₁ B hml htab hv
  obtain ⟨rfl, hH, hK, hXs⟩ := hv
  have hx := B.exec
  have hb := B.bytes
  have hr := B.returns
  have hts := atoms_spec (ws := wsX10_count) B.pre
  have hown : s.vm.findClass RX10 = some m.cls := findClass_of_methodNamed B.named
  have hlocks := B.notSynchronized
  have h00 : b0 ≤ s.heap.size := hH.1
  have hS : va_S (th_A b0) s.heap s.heap [] := va_S.rf
  have hF : fr [12, 7, 1] E σ σ := fr.rf
  have inX10 : ∀ w ∈ wsX100, w ∈ wsX10_count := by decide +kernel
  have inX3 : ∀ w ∈ wsX30, w ∈ wsX10_count := by decide +kernel
  have inX6 : ∀ w ∈ wsX60, w ∈ wsX10_count := by decide +kernel
  have inX9 : ∀ w ∈ wsX90, w ∈ wsX10_count := by decide +kernel
  have fl0 := hts (.fieldLink RX10 63 "NestQuery" "now" "LNestQuery$State;") (by decide +kernel)
  have fl1 := hts (.fieldLink RX10 82 "NestQuery" "kept" "LNestQuery$Patch;") (by decide +kernel)
  have fl2 := hts (.fieldLink RX10 145 "NestQuery" "imageThere" "Z") (by decide +kernel)
  have fl3 := hts (.fieldLink RX10 86 "NestQuery" "sinceImage" "LNestQuery$Patch;") (by decide +kernel)
  have fl4 := hts (.fieldLink RX10 67 "NestQuery" "imaged" "LNestQuery$State;") (by decide +kernel)
  have fl5 := hts (.fieldLink RX10 114 "NestQuery" "tapeCount" "I") (by decide +kernel)
  have hl := lv_entry ([.ref a, .int (I i)]) (n := 2) (Nat.le_of_ble_eq_true rfl)
  rw [lg_entry_eq]
  generalize (lg_sl ([.ref a, .int (I i)]) ++ List.replicate (2 - (lg_sl ([.ref a, .int (I i)])).length) Slot.unset).toArray = ls at hl ⊢
  have hl : lv_has ls 2 [(0, .ref a), (1, .int (I i))] := hl
  obtain ⟨a10, ea10, ra10, la10, ua10⟩ := hO.gi h_a (by decide) k12_1
  obtain ⟨a20, ea20, ra20, la20, ua20⟩ := hO.gi h_a (by decide) k12_2
  obtain ⟨f_1, ef_2⟩ : ∃ f9, aF σ (ad E a 0) = f9 := ⟨_, rfl⟩
  have h0row := ef_2
  obtain ⟨f_3, eq_4⟩ : ∃ f9, aQ σ (ad E a 3) = f9 := ⟨_, rfl⟩
  have h0q := eq_4
  refine lv_iload_n hx hb dX10_count_0 rfl (lv_at hl 1 rfl) ?_
  refine th_case (a := i) (n := 0) (fun c_5_0 => ?_) (fun c_5_0 => ?_)
  · refine th_topeq c_5_0 ?_
    refine lv_tableIn (tgt := 88) hx hb dX10_count_1 (by decide) (by decide) (by rfl) (by decide) ?_
    refine lv_aload_n hx hb dX10_count_88 rfl (lv_at hl 0 rfl) ?_
    have hp_6 : kd E (ad E a 9) = 5 := ok.pk hO h_a (by decide) k12_9 rfl
    refine ok.getR hO h_a (by decide) k12_9 (by decide) (fun _ _ he hv kk => th_get (ci := 10) (C := RX10) (T := TX10) (N := 18) hx hb hts inX10 hown hK hH he rfl 9 (by decide) fl0 hv dX10_count_89 kk) ?_
    have hp_7 : kd E (ad E (ad E a 9) 0) = 1 := ok.pk hO hp_6 (by decide) k5_0 rfl
    refine ok.getR hO hp_6 (by decide) k5_0 (by decide) (fun _ _ he hv kk => th_getN (ci := 6) (C := RX6) (T := TX6) (N := 7) hx hb hts inX6 hown hK hH he rfl 0 (by decide) (nl_13 hK) hv dX10_count_92 kk) ?_
    refine ok.getI hO hp_7 (by decide) k1_4 (fun _ _ he hv kk => th_getN (ci := 9) (C := RX9) (T := TX9) (N := 5) hx hb hts inX9 hown hK hH he rfl 4 (by decide) (nl_11 hK) hv dX10_count_95 kk) (fun z_8 e_9 rz_8 lz_8 uz_8 => ?_)
    refine vx_ret ?_
    refine W.widen (k := 1) (n := 6) (Nat.le_of_ble_eq_true rfl) (Nat.le_of_ble_eq_true rfl) ?_
    exact th_iret hx hb hr hlocks hH hS (z := z_8) rz_8 ⟨hO, hF, ⟨by omega, (ef_2.trans h0row.symm), (eq_4.trans h0q.symm)⟩⟩ dX10_count_98
  · refine th_case (a := i) (n := 1) (fun c_5_1 => ?_) (fun c_5_1 => ?_)
    · refine th_topeq c_5_1 ?_
      refine lv_tableIn (tgt := 99) hx hb dX10_count_1 (by decide) (by decide) (by rfl) (by decide) ?_
      refine lv_aload_n hx hb dX10_count_99 rfl (lv_at hl 0 rfl) ?_
      have hp_10 : kd E (ad E a 9) = 5 := ok.pk hO h_a (by decide) k12_9 rfl
      refine ok.getR hO h_a (by decide) k12_9 (by decide) (fun _ _ he hv kk => th_get (ci := 10) (C := RX10) (T := TX10) (N := 18) hx hb hts inX10 hown hK hH he rfl 9 (by decide) fl0 hv dX10_count_100 kk) ?_
      have hp_11 : kd E (ad E (ad E a 9) 0) = 1 := ok.pk hO hp_10 (by decide) k5_0 rfl
      refine ok.getR hO hp_10 (by decide) k5_0 (by decide) (fun _ _ he hv kk => th_getN (ci := 6) (C := RX6) (T := TX6) (N := 7) hx hb hts inX6 hown hK hH he rfl 0 (by decide) (nl_13 hK) hv dX10_count_103 kk) ?_
      refine lv_iload_n hx hb dX10_count_106 rfl (lv_at hl 1 rfl) ?_
      refine lv_iconst (v := I 1) hx hb dX10_count_107 (by decide) ?_
      refine lv_isub hx hb dX10_count_108 ?_
      refine th_subo (fun z_12 rz_12 hz_12 => ?_)
      obtain ⟨z_13, e_14, rz_13, lz_13, uz_13⟩ := hO.gi hp_11 (by decide) k1_4
      obtain ⟨_, hc_15⟩ := hO.cell hp_11 (by decide) (ci := 9) rfl
      refine th_calli (va_runV (As := [.int (I z_12)]) (rest := []) ⟨hx, hb, hml, hown, hts⟩ (t_countKind l G y b0 σ (ad E (ad E a 9) 0) (tvE E σ (ad E (ad E a 9) 0) 60) z_12 (hO.isT1 hp_11) (show rng z_12 from rz_12)) (cwV 1 hts gX10_count_X9_countKind rfl rfl rfl (by decide +kernel) ⟨Nat.le_of_ble_eq_true rfl, Nat.le_of_ble_eq_true rfl⟩) (th_PV hK hH rfl hc_15) rfl rfl hl.1 rfl (lv_room (Nat.le_of_ble_eq_true rfl)) dX10_count_109 ⟨Nat.le_of_ble_eq_true rfl, Nat.le_of_ble_eq_true rfl⟩) hS (fun z_18 σ_s_17 H locs rz_18 hw_16 hH hS => ?_)
      obtain ⟨e9, hw_16⟩ := hw_16
      replace e9 := e9.symm
      subst e9
      replace hw_16 : 0 ≤ z_18 ∧ z_18 ≤ (gI σ (ad E (ad E a 9) 0) 4) := hw_16
      refine vx_ret ?_
      refine W.widen (k := 1) (n := 6) (Nat.le_of_ble_eq_true rfl) (Nat.le_of_ble_eq_true rfl) ?_
      exact th_iret hx hb hr hlocks hH hS (z := z_18) rz_18 ⟨hO, hF, ⟨by omega, (ef_2.trans h0row.symm), (eq_4.trans h0q.symm)⟩⟩ dX10_count_112
    · refine th_case (a := i) (n := 2) (fun c_5_2 => ?_) (fun c_5_2 => ?_)
      · refine th_topeq c_5_2 ?_
        refine lv_tableIn (tgt := 99) hx hb dX10_count_1 (by decide) (by decide) (by rfl) (by decide) ?_
        refine lv_aload_n hx hb dX10_count_99 rfl (lv_at hl 0 rfl) ?_
        have hp_19 : kd E (ad E a 9) = 5 := ok.pk hO h_a (by decide) k12_9 rfl
        refine ok.getR hO h_a (by decide) k12_9 (by decide) (fun _ _ he hv kk => th_get (ci := 10) (C := RX10) (T := TX10) (N := 18) hx hb hts inX10 hown hK hH he rfl 9 (by decide) fl0 hv dX10_count_100 kk) ?_
        have hp_20 : kd E (ad E (ad E a 9) 0) = 1 := ok.pk hO hp_19 (by decide) k5_0 rfl
        refine ok.getR hO hp_19 (by decide) k5_0 (by decide) (fun _ _ he hv kk => th_getN (ci := 6) (C := RX6) (T := TX6) (N := 7) hx hb hts inX6 hown hK hH he rfl 0 (by decide) (nl_13 hK) hv dX10_count_103 kk) ?_
        refine lv_iload_n hx hb dX10_count_106 rfl (lv_at hl 1 rfl) ?_
        refine lv_iconst (v := I 1) hx hb dX10_count_107 (by decide) ?_
        refine lv_isub hx hb dX10_count_108 ?_
        refine th_subo (fun z_21 rz_21 hz_21 => ?_)
        obtain ⟨z_22, e_23, rz_22, lz_22, uz_22⟩ := hO.gi hp_20 (by decide) k1_4
        obtain ⟨_, hc_24⟩ := hO.cell hp_20 (by decide) (ci := 9) rfl
        refine th_calli (va_runV (As := [.int (I z_21)]) (rest := []) ⟨hx, hb, hml, hown, hts⟩ (t_countKind l G y b0 σ (ad E (ad E a 9) 0) (tvE E σ (ad E (ad E a 9) 0) 60) z_21 (hO.isT1 hp_20) (show rng z_21 from rz_21)) (cwV 1 hts gX10_count_X9_countKind rfl rfl rfl (by decide +kernel) ⟨Nat.le_of_ble_eq_true rfl, Nat.le_of_ble_eq_true rfl⟩) (th_PV hK hH rfl hc_24) rfl rfl hl.1 rfl (lv_room (Nat.le_of_ble_eq_true rfl)) dX10_count_109 ⟨Nat.le_of_ble_eq_true rfl, Nat.le_of_ble_eq_true rfl⟩) hS (fun z_27 σ_s_26 H locs rz_27 hw_25 hH hS => ?_)
        obtain ⟨e9, hw_25⟩ := hw_25
        replace e9 := e9.symm
        subst e9
        replace hw_25 : 0 ≤ z_27 ∧ z_27 ≤ (gI σ (ad E (ad E a 9) 0) 4) := hw_25
        refine vx_ret ?_
        refine W.widen (k := 1) (n := 6) (Nat.le_of_ble_eq_true rfl) (Nat.le_of_ble_eq_true rfl) ?_
        exact th_iret hx hb hr hlocks hH hS (z := z_27) rz_27 ⟨hO, hF, ⟨by omega, (ef_2.trans h0row.symm), (eq_4.trans h0q.symm)⟩⟩ dX10_count_112
      · refine th_case (a := i) (n := 3) (fun c_5_3 => ?_) (fun c_5_3 => ?_)
        · refine th_topeq c_5_3 ?_
          refine lv_tableIn (tgt := 99) hx hb dX10_count_1 (by decide) (by decide) (by rfl) (by decide) ?_
          refine lv_aload_n hx hb dX10_count_99 rfl (lv_at hl 0 rfl) ?_
          have hp_28 : kd E (ad E a 9) = 5 := ok.pk hO h_a (by decide) k12_9 rfl
          refine ok.getR hO h_a (by decide) k12_9 (by decide) (fun _ _ he hv kk => th_get (ci := 10) (C := RX10) (T := TX10) (N := 18) hx hb hts inX10 hown hK hH he rfl 9 (by decide) fl0 hv dX10_count_100 kk) ?_
          have hp_29 : kd E (ad E (ad E a 9) 0) = 1 := ok.pk hO hp_28 (by decide) k5_0 rfl
          refine ok.getR hO hp_28 (by decide) k5_0 (by decide) (fun _ _ he hv kk => th_getN (ci := 6) (C := RX6) (T := TX6) (N := 7) hx hb hts inX6 hown hK hH he rfl 0 (by decide) (nl_13 hK) hv dX10_count_103 kk) ?_
          refine lv_iload_n hx hb dX10_count_106 rfl (lv_at hl 1 rfl) ?_
          refine lv_iconst (v := I 1) hx hb dX10_count_107 (by decide) ?_
          refine lv_isub hx hb dX10_count_108 ?_
          refine th_subo (fun z_30 rz_30 hz_30 => ?_)
          obtain ⟨z_31, e_32, rz_31, lz_31, uz_31⟩ := hO.gi hp_29 (by decide) k1_4
          obtain ⟨_, hc_33⟩ := hO.cell hp_29 (by decide) (ci := 9) rfl
          refine th_calli (va_runV (As := [.int (I z_30)]) (rest := []) ⟨hx, hb, hml, hown, hts⟩ (t_countKind l G y b0 σ (ad E (ad E a 9) 0) (tvE E σ (ad E (ad E a 9) 0) 60) z_30 (hO.isT1 hp_29) (show rng z_30 from rz_30)) (cwV 1 hts gX10_count_X9_countKind rfl rfl rfl (by decide +kernel) ⟨Nat.le_of_ble_eq_true rfl, Nat.le_of_ble_eq_true rfl⟩) (th_PV hK hH rfl hc_33) rfl rfl hl.1 rfl (lv_room (Nat.le_of_ble_eq_true rfl)) dX10_count_109 ⟨Nat.le_of_ble_eq_true rfl, Nat.le_of_ble_eq_true rfl⟩) hS (fun z_36 σ_s_35 H locs rz_36 hw_34 hH hS => ?_)
          obtain ⟨e9, hw_34⟩ := hw_34
          replace e9 := e9.symm
          subst e9
          replace hw_34 : 0 ≤ z_36 ∧ z_36 ≤ (gI σ (ad E (ad E a 9) 0) 4) := hw_34
          refine vx_ret ?_
          refine W.widen (k := 1) (n := 6) (Nat.le_of_ble_eq_true rfl) (Nat.le_of_ble_eq_true rfl) ?_
          exact th_iret hx hb hr hlocks hH hS (z := z_36) rz_36 ⟨hO, hF, ⟨by omega, (ef_2.trans h0row.symm), (eq_4.trans h0q.symm)⟩⟩ dX10_count_112
        · refine th_case (a := i) (n := 4) (fun c_5_4 => ?_) (fun c_5_4 => ?_)
          · refine th_topeq c_5_4 ?_
            refine lv_tableIn (tgt := 99) hx hb dX10_count_1 (by decide) (by decide) (by rfl) (by decide) ?_
            refine lv_aload_n hx hb dX10_count_99 rfl (lv_at hl 0 rfl) ?_
            have hp_37 : kd E (ad E a 9) = 5 := ok.pk hO h_a (by decide) k12_9 rfl
            refine ok.getR hO h_a (by decide) k12_9 (by decide) (fun _ _ he hv kk => th_get (ci := 10) (C := RX10) (T := TX10) (N := 18) hx hb hts inX10 hown hK hH he rfl 9 (by decide) fl0 hv dX10_count_100 kk) ?_
            have hp_38 : kd E (ad E (ad E a 9) 0) = 1 := ok.pk hO hp_37 (by decide) k5_0 rfl
            refine ok.getR hO hp_37 (by decide) k5_0 (by decide) (fun _ _ he hv kk => th_getN (ci := 6) (C := RX6) (T := TX6) (N := 7) hx hb hts inX6 hown hK hH he rfl 0 (by decide) (nl_13 hK) hv dX10_count_103 kk) ?_
            refine lv_iload_n hx hb dX10_count_106 rfl (lv_at hl 1 rfl) ?_
            refine lv_iconst (v := I 1) hx hb dX10_count_107 (by decide) ?_
            refine lv_isub hx hb dX10_count_108 ?_
            refine th_subo (fun z_39 rz_39 hz_39 => ?_)
            obtain ⟨z_40, e_41, rz_40, lz_40, uz_40⟩ := hO.gi hp_38 (by decide) k1_4
            obtain ⟨_, hc_42⟩ := hO.cell hp_38 (by decide) (ci := 9) rfl
            refine th_calli (va_runV (As := [.int (I z_39)]) (rest := []) ⟨hx, hb, hml, hown, hts⟩ (t_countKind l G y b0 σ (ad E (ad E a 9) 0) (tvE E σ (ad E (ad E a 9) 0) 60) z_39 (hO.isT1 hp_38) (show rng z_39 from rz_39)) (cwV 1 hts gX10_count_X9_countKind rfl rfl rfl (by decide +kernel) ⟨Nat.le_of_ble_eq_true rfl, Nat.le_of_ble_eq_true rfl⟩) (th_PV hK hH rfl hc_42) rfl rfl hl.1 rfl (lv_room (Nat.le_of_ble_eq_true rfl)) dX10_count_109 ⟨Nat.le_of_ble_eq_true rfl, Nat.le_of_ble_eq_true rfl⟩) hS (fun z_45 σ_s_44 H locs rz_45 hw_43 hH hS => ?_)
            obtain ⟨e9, hw_43⟩ := hw_43
            replace e9 := e9.symm
            subst e9
            replace hw_43 : 0 ≤ z_45 ∧ z_45 ≤ (gI σ (ad E (ad E a 9) 0) 4) := hw_43
            refine vx_ret ?_
            refine W.widen (k := 1) (n := 6) (Nat.le_of_ble_eq_true rfl) (Nat.le_of_ble_eq_true rfl) ?_
            exact th_iret hx hb hr hlocks hH hS (z := z_45) rz_45 ⟨hO, hF, ⟨by omega, (ef_2.trans h0row.symm), (eq_4.trans h0q.symm)⟩⟩ dX10_count_112
          · refine th_case (a := i) (n := 5) (fun c_5_5 => ?_) (fun c_5_5 => ?_)
            · refine th_topeq c_5_5 ?_
              refine lv_tableIn (tgt := 113) hx hb dX10_count_1 (by decide) (by decide) (by rfl) (by decide) ?_
              refine lv_aload_n hx hb dX10_count_113 rfl (lv_at hl 0 rfl) ?_
              have hp_46 : kd E (ad E a 9) = 5 := ok.pk hO h_a (by decide) k12_9 rfl
              refine ok.getR hO h_a (by decide) k12_9 (by decide) (fun _ _ he hv kk => th_get (ci := 10) (C := RX10) (T := TX10) (N := 18) hx hb hts inX10 hown hK hH he rfl 9 (by decide) fl0 hv dX10_count_114 kk) ?_
              have hp_47 : kd E (ad E (ad E a 9) 0) = 1 := ok.pk hO hp_46 (by decide) k5_0 rfl
              refine ok.getR hO hp_46 (by decide) k5_0 (by decide) (fun _ _ he hv kk => th_getN (ci := 6) (C := RX6) (T := TX6) (N := 7) hx hb hts inX6 hown hK hH he rfl 0 (by decide) (nl_13 hK) hv dX10_count_117 kk) ?_
              obtain ⟨_, hc_48⟩ := hO.cell hp_47 (by decide) (ci := 9) rfl
              refine th_calli (va_runV (As := []) (rest := []) ⟨hx, hb, hml, hown, hts⟩ (t1_deepest l G y b0 σ E hO (ad E (ad E a 9) 0) hp_47) (cwV 0 hts gX10_count_X9_deepest rfl rfl rfl (by decide +kernel) ⟨Nat.le_of_ble_eq_true rfl, Nat.le_of_ble_eq_true rfl⟩) (th_PV hK hH rfl hc_48) rfl rfl hl.1 rfl (lv_room (Nat.le_of_ble_eq_true rfl)) dX10_count_120 ⟨Nat.le_of_ble_eq_true rfl, Nat.le_of_ble_eq_true rfl⟩) hS (fun z_51 σ_s_50 H locs rz_51 hw_49 hH hS => ?_)
              obtain ⟨e9, hw_49⟩ := hw_49
              replace e9 := e9.symm
              subst e9
              replace hw_49 : 0 ≤ z_51 := hw_49
              refine vx_ret ?_
              refine W.widen (k := 1) (n := 6) (Nat.le_of_ble_eq_true rfl) (Nat.le_of_ble_eq_true rfl) ?_
              exact th_iret hx hb hr hlocks hH hS (z := z_51) rz_51 ⟨hO, hF, ⟨by omega, (ef_2.trans h0row.symm), (eq_4.trans h0q.symm)⟩⟩ dX10_count_123
            · refine th_case (a := i) (n := 6) (fun c_5_6 => ?_) (fun c_5_6 => ?_)
              · refine th_topeq c_5_6 ?_
                refine lv_tableIn (tgt := 124) hx hb dX10_count_1 (by decide) (by decide) (by rfl) (by decide) ?_
                refine lv_aload_n hx hb dX10_count_124 rfl (lv_at hl 0 rfl) ?_
                obtain ⟨_, hc_52⟩ := hO.cell h_a (by decide) (ci := 10) rfl
                refine th_calli (va_runV (As := []) (rest := []) ⟨hx, hb, hml, hown, hts⟩ (q_pathsThere l G y b0 σ E hO a h_a) (cwV 0 hts gX10_count_X10_pathsThere rfl rfl rfl (by decide +kernel) ⟨Nat.le_of_ble_eq_true rfl, Nat.le_of_ble_eq_true rfl⟩) (th_PV hK hH rfl hc_52) rfl rfl hl.1 rfl (lv_room (Nat.le_of_ble_eq_true rfl)) dX10_count_125 ⟨Nat.le_of_ble_eq_true rfl, Nat.le_of_ble_eq_true rfl⟩) hS (fun z_55 σ_s_54 H locs rz_55 hw_53 hH hS => ?_)
                obtain ⟨e9, hw_53⟩ := hw_53
                replace e9 := e9.symm
                subst e9
                refine vx_ret ?_
                refine W.widen (k := 1) (n := 6) (Nat.le_of_ble_eq_true rfl) (Nat.le_of_ble_eq_true rfl) ?_
                exact th_iret hx hb hr hlocks hH hS (z := z_55) rz_55 ⟨hO, hF, ⟨by omega, (ef_2.trans h0row.symm), (eq_4.trans h0q.symm)⟩⟩ dX10_count_128
              · refine th_case (a := i) (n := 7) (fun c_5_7 => ?_) (fun c_5_7 => ?_)
                · refine th_topeq c_5_7 ?_
                  refine lv_tableIn (tgt := 129) hx hb dX10_count_1 (by decide) (by decide) (by rfl) (by decide) ?_
                  refine lv_aload_n hx hb dX10_count_129 rfl (lv_at hl 0 rfl) ?_
                  have hp_56 : kd E (ad E a 9) = 5 := ok.pk hO h_a (by decide) k12_9 rfl
                  refine ok.getR hO h_a (by decide) k12_9 (by decide) (fun _ _ he hv kk => th_get (ci := 10) (C := RX10) (T := TX10) (N := 18) hx hb hts inX10 hown hK hH he rfl 9 (by decide) fl0 hv dX10_count_130 kk) ?_
                  have hp_57 : kd E (ad E (ad E a 9) 0) = 1 := ok.pk hO hp_56 (by decide) k5_0 rfl
                  refine ok.getR hO hp_56 (by decide) k5_0 (by decide) (fun _ _ he hv kk => th_getN (ci := 6) (C := RX6) (T := TX6) (N := 7) hx hb hts inX6 hown hK hH he rfl 0 (by decide) (nl_13 hK) hv dX10_count_133 kk) ?_
                  obtain ⟨_, hc_58⟩ := hO.cell hp_57 (by decide) (ci := 9) rfl
                  refine th_calli (va_runV (As := []) (rest := []) ⟨hx, hb, hml, hown, hts⟩ (t1_unlike l G y b0 σ E hO (ad E (ad E a 9) 0) hp_57) (cwV 0 hts gX10_count_X9_unlike rfl rfl rfl (by decide +kernel) ⟨Nat.le_of_ble_eq_true rfl, Nat.le_of_ble_eq_true rfl⟩) (th_PV hK hH rfl hc_58) rfl rfl hl.1 rfl (lv_room (Nat.le_of_ble_eq_true rfl)) dX10_count_136 ⟨Nat.le_of_ble_eq_true rfl, Nat.le_of_ble_eq_true rfl⟩) hS (fun z_61 σ_s_60 H locs rz_61 hw_59 hH hS => ?_)
                  obtain ⟨e9, hw_59⟩ := hw_59
                  replace e9 := e9.symm
                  subst e9
                  refine vx_ret ?_
                  refine W.widen (k := 1) (n := 6) (Nat.le_of_ble_eq_true rfl) (Nat.le_of_ble_eq_true rfl) ?_
                  exact th_iret hx hb hr hlocks hH hS (z := z_61) rz_61 ⟨hO, hF, ⟨by omega, (ef_2.trans h0row.symm), (eq_4.trans h0q.symm)⟩⟩ dX10_count_139
                · refine th_case (a := i) (n := 8) (fun c_5_8 => ?_) (fun c_5_8 => ?_)
                  · refine th_topeq c_5_8 ?_
                    refine lv_tableIn (tgt := 140) hx hb dX10_count_1 (by decide) (by decide) (by rfl) (by decide) ?_
                    refine lv_aload_n hx hb dX10_count_140 rfl (lv_at hl 0 rfl) ?_
                    have hp_62 : kd E (ad E a 13) = 7 := ok.pk hO h_a (by decide) k12_13 rfl
                    refine ok.getR hO h_a (by decide) k12_13 (by decide) (fun _ _ he hv kk => th_get (ci := 10) (C := RX10) (T := TX10) (N := 18) hx hb hts inX10 hown hK hH he rfl 13 (by decide) fl1 hv dX10_count_141 kk) ?_
                    refine ok.getI hO hp_62 (by decide) k7_4 (fun _ _ he hv kk => th_getN (ci := 3) (C := RX3) (T := TX3) (N := 5) hx hb hts inX3 hown hK hH he rfl 4 (by decide) (nl_17 hK) hv dX10_count_144 kk) (fun z_63 e_64 rz_63 lz_63 uz_63 => ?_)
                    refine vx_ret ?_
                    refine W.widen (k := 1) (n := 6) (Nat.le_of_ble_eq_true rfl) (Nat.le_of_ble_eq_true rfl) ?_
                    exact th_iret hx hb hr hlocks hH hS (z := z_63) rz_63 ⟨hO, hF, ⟨by omega, (ef_2.trans h0row.symm), (eq_4.trans h0q.symm)⟩⟩ dX10_count_147
                  · refine th_case (a := i) (n := 9) (fun c_5_9 => ?_) (fun c_5_9 => ?_)
                    · refine th_topeq c_5_9 ?_
                      refine lv_tableIn (tgt := 148) hx hb dX10_count_1 (by decide) (by decide) (by rfl) (by decide) ?_
                      refine lv_aload_n hx hb dX10_count_148 rfl (lv_at hl 0 rfl) ?_
                      refine ok.getI hO h_a (by decide) k12_11 (fun _ _ he hv kk => th_get (ci := 10) (C := RX10) (T := TX10) (N := 18) hx hb hts inX10 hown hK hH he rfl 11 (by decide) fl2 hv dX10_count_149 kk) (fun z_65 e_66 rz_65 lz_65 uz_65 => ?_)
                      refine lv_if_eq (tgt := 179) hx hb dX10_count_152 (by decide) (fun c_67 => ?_) (fun c_67 => ?_)
                      · replace c_67 := (I_eq (a := z_65) (b := 0) rz_65 (show rng 0 from ⟨by decide, by decide⟩)).mp c_67
                        refine lv_iconst (v := I (-1)) hx hb dX10_count_179 (by decide) ?_
                        refine vx_ret ?_
                        refine W.widen (k := 1) (n := 6) (Nat.le_of_ble_eq_true rfl) (Nat.le_of_ble_eq_true rfl) ?_
                        exact th_iret hx hb hr hlocks hH hS (z := (-1)) (show rng (-1) from ⟨by decide, by decide⟩) ⟨hO, hF, ⟨by omega, (ef_2.trans h0row.symm), (eq_4.trans h0q.symm)⟩⟩ dX10_count_180
                      · replace c_67 := mt (I_eq (a := z_65) (b := 0) rz_65 (show rng 0 from ⟨by decide, by decide⟩)).mpr c_67
                        refine lv_aload_n hx hb dX10_count_155 rfl (lv_at hl 0 rfl) ?_
                        have hp_68 : kd E (ad E a 14) = 7 := ok.pk hO h_a (by decide) k12_14 rfl
                        refine ok.getR hO h_a (by decide) k12_14 (by decide) (fun _ _ he hv kk => th_get (ci := 10) (C := RX10) (T := TX10) (N := 18) hx hb hts inX10 hown hK hH he rfl 14 (by decide) fl3 hv dX10_count_156 kk) ?_
                        refine lv_aload_n hx hb dX10_count_159 rfl (lv_at hl 0 rfl) ?_
                        have hp_69 : kd E (ad E a 10) = 5 := ok.pk hO h_a (by decide) k12_10 rfl
                        refine ok.getR hO h_a (by decide) k12_10 (by decide) (fun _ _ he hv kk => th_get (ci := 10) (C := RX10) (T := TX10) (N := 18) hx hb hts inX10 hown hK hH he rfl 10 (by decide) fl4 hv dX10_count_160 kk) ?_
                        have hp_70 : kd E (ad E (ad E a 10) 0) = 1 := ok.pk hO hp_69 (by decide) k5_0 rfl
                        refine ok.getR hO hp_69 (by decide) k5_0 (by decide) (fun _ _ he hv kk => th_getN (ci := 6) (C := RX6) (T := TX6) (N := 7) hx hb hts inX6 hown hK hH he rfl 0 (by decide) (nl_13 hK) hv dX10_count_163 kk) ?_
                        refine lv_aload_n hx hb dX10_count_166 rfl (lv_at hl 0 rfl) ?_
                        have hp_71 : kd E (ad E a 9) = 5 := ok.pk hO h_a (by decide) k12_9 rfl
                        refine ok.getR hO h_a (by decide) k12_9 (by decide) (fun _ _ he hv kk => th_get (ci := 10) (C := RX10) (T := TX10) (N := 18) hx hb hts inX10 hown hK hH he rfl 9 (by decide) fl0 hv dX10_count_167 kk) ?_
                        have hp_72 : kd E (ad E (ad E a 9) 0) = 1 := ok.pk hO hp_71 (by decide) k5_0 rfl
                        refine ok.getR hO hp_71 (by decide) k5_0 (by decide) (fun _ _ he hv kk => th_getN (ci := 6) (C := RX6) (T := TX6) (N := 7) hx hb hts inX6 hown hK hH he rfl 0 (by decide) (nl_13 hK) hv dX10_count_170 kk) ?_
                        obtain ⟨_, hc_73⟩ := hO.cell hp_68 (by decide) (ci := 3) rfl
                        refine th_calli (va_runV (As := [.ref (ad E (ad E a 10) 0), .ref (ad E (ad E a 9) 0)]) (rest := []) ⟨hx, hb, hml, hown, hts⟩ (h_compare l G y b0 σ E hO (ad E a 14) hp_68 (ad E (ad E a 10) 0) hp_70 (ad E (ad E a 9) 0) hp_72) (cwV 2 hts gX10_count_X3_compare rfl rfl rfl (by decide +kernel) ⟨Nat.le_of_ble_eq_true rfl, Nat.le_of_ble_eq_true rfl⟩) (th_PV hK hH rfl hc_73) rfl rfl hl.1 rfl (lv_room (Nat.le_of_ble_eq_true rfl)) dX10_count_173 ⟨Nat.le_of_ble_eq_true rfl, Nat.le_of_ble_eq_true rfl⟩) hS (fun z_76 σ_s_75 H locs rz_76 hw_74 hH hS => ?_)
                        obtain ⟨hO9, hF9, hw_74⟩ := hw_74
                        have e_77 : gI σ_s_75 a 1 = a10 := (fr.ki hO hF9 h_a (by decide) (by decide) _).trans ea10
                        have e_78 : gI σ_s_75 a 2 = a20 := (fr.ki hO hF9 h_a (by decide) (by decide) _).trans ea20
                        have e_79 : gI σ_s_75 a 11 = z_65 := (fr.ki hO hF9 h_a (by decide) (by decide) _).trans e_66
                        have ef_80 : aF σ_s_75 (ad E a 0) = f_1 := (fr.af hO hF9 h_a (by decide) (by decide) k12_0 isA1).trans ef_2
                        have eq_81 : aQ σ_s_75 (ad E a 3) = f_3 := (fr.aq hO hF9 h_a (by decide) (by decide) k12_3).trans eq_4
                        replace hO := hO9
                        replace hF := hF.tu hF9 (by decide)
                        refine lv_goto (tgt := 180) hx hb dX10_count_176 (by decide) ?_
                        refine vx_ret ?_
                        refine W.widen (k := 1) (n := 6) (Nat.le_of_ble_eq_true rfl) (Nat.le_of_ble_eq_true rfl) ?_
                        exact th_iret hx hb hr hlocks hH hS (z := z_76) rz_76 ⟨hO, hF, ⟨by omega, (ef_80.trans h0row.symm), (eq_81.trans h0q.symm)⟩⟩ dX10_count_180
                    · refine th_case (a := i) (n := 10) (fun c_5_10 => ?_) (fun c_5_10 => ?_)
                      · refine th_topeq c_5_10 ?_
                        refine lv_tableIn (tgt := 181) hx hb dX10_count_1 (by decide) (by decide) (by rfl) (by decide) ?_
                        refine lv_aload_n hx hb dX10_count_181 rfl (lv_at hl 0 rfl) ?_
                        have hp_82 : kd E (ad E a 9) = 5 := ok.pk hO h_a (by decide) k12_9 rfl
                        refine ok.getR hO h_a (by decide) k12_9 (by decide) (fun _ _ he hv kk => th_get (ci := 10) (C := RX10) (T := TX10) (N := 18) hx hb hts inX10 hown hK hH he rfl 9 (by decide) fl0 hv dX10_count_182 kk) ?_
                        refine ok.getI hO hp_82 (by decide) k5_2 (fun _ _ he hv kk => th_getN (ci := 6) (C := RX6) (T := TX6) (N := 7) hx hb hts inX6 hown hK hH he rfl 2 (by decide) (nl_15 hK) hv dX10_count_185 kk) (fun z_83 e_84 rz_83 lz_83 uz_83 => ?_)
                        refine vx_ret ?_
                        refine W.widen (k := 1) (n := 6) (Nat.le_of_ble_eq_true rfl) (Nat.le_of_ble_eq_true rfl) ?_
                        exact th_iret hx hb hr hlocks hH hS (z := z_83) rz_83 ⟨hO, hF, ⟨by omega, (ef_2.trans h0row.symm), (eq_4.trans h0q.symm)⟩⟩ dX10_count_188
                      · refine th_case (a := i) (n := 11) (fun c_5_11 => ?_) (fun c_5_11 => ?_)
                        · refine th_topeq c_5_11 ?_
                          refine lv_tableIn (tgt := 189) hx hb dX10_count_1 (by decide) (by decide) (by rfl) (by decide) ?_
                          refine lv_aload_n hx hb dX10_count_189 rfl (lv_at hl 0 rfl) ?_
                          have hp_85 : kd E (ad E a 9) = 5 := ok.pk hO h_a (by decide) k12_9 rfl
                          refine ok.getR hO h_a (by decide) k12_9 (by decide) (fun _ _ he hv kk => th_get (ci := 10) (C := RX10) (T := TX10) (N := 18) hx hb hts inX10 hown hK hH he rfl 9 (by decide) fl0 hv dX10_count_190 kk) ?_
                          refine ok.getI hO hp_85 (by decide) k5_5 (fun _ _ he hv kk => th_getN (ci := 6) (C := RX6) (T := TX6) (N := 7) hx hb hts inX6 hown hK hH he rfl 5 (by decide) (nl_16 hK) hv dX10_count_193 kk) (fun z_86 e_87 rz_86 lz_86 uz_86 => ?_)
                          refine vx_ret ?_
                          refine W.widen (k := 1) (n := 6) (Nat.le_of_ble_eq_true rfl) (Nat.le_of_ble_eq_true rfl) ?_
                          exact th_iret hx hb hr hlocks hH hS (z := z_86) rz_86 ⟨hO, hF, ⟨by omega, (ef_2.trans h0row.symm), (eq_4.trans h0q.symm)⟩⟩ dX10_count_196
                        · refine th_case (a := i) (n := 12) (fun c_5_12 => ?_) (fun c_5_12 => ?_)
                          · refine th_topeq c_5_12 ?_
                            refine lv_tableIn (tgt := 197) hx hb dX10_count_1 (by decide) (by decide) (by rfl) (by decide) ?_
                            refine lv_aload_n hx hb dX10_count_197 rfl (lv_at hl 0 rfl) ?_
                            refine ok.getIc hO h_a (by decide) k12_1 ea10 (fun _ _ he hv kk => th_get (ci := 10) (C := RX10) (T := TX10) (N := 18) hx hb hts inX10 hown hK hH he rfl 1 (by decide) fl5 hv dX10_count_198 kk) ?_
                            refine vx_ret ?_
                            refine W.widen (k := 1) (n := 6) (Nat.le_of_ble_eq_true rfl) (Nat.le_of_ble_eq_true rfl) ?_
                            exact th_iret hx hb hr hlocks hH hS (z := a10) ra10 ⟨hO, hF, ⟨by omega, (ef_2.trans h0row.symm), (eq_4.trans h0q.symm)⟩⟩ dX10_count_201
                          · refine th_case (a := i) (n := 13) (fun c_5_13 => ?_) (fun c_5_13 => ?_)
                            · refine th_topeq c_5_13 ?_
                              refine lv_tableIn (tgt := 202) hx hb dX10_count_1 (by decide) (by decide) (by rfl) (by decide) ?_
                              refine lv_aload_n hx hb dX10_count_202 rfl (lv_at hl 0 rfl) ?_
                              have hp_88 : kd E (ad E a 9) = 5 := ok.pk hO h_a (by decide) k12_9 rfl
                              refine ok.getR hO h_a (by decide) k12_9 (by decide) (fun _ _ he hv kk => th_get (ci := 10) (C := RX10) (T := TX10) (N := 18) hx hb hts inX10 hown hK hH he rfl 9 (by decide) fl0 hv dX10_count_203 kk) ?_
                              refine lv_iload_n hx hb dX10_count_206 rfl (lv_at hl 1 rfl) ?_
                              refine lv_bipush (v := I 13) hx hb dX10_count_207 (by decide) ?_
                              refine lv_isub hx hb dX10_count_209 ?_
                              refine th_subo (fun z_89 rz_89 hz_89 => ?_)
                              obtain ⟨_, hc_90⟩ := hO.cell hp_88 (by decide) (ci := 6) rfl
                              refine th_calli (va_runV (As := [.int (I z_89)]) (rest := []) ⟨hx, hb, hml, hown, hts⟩ (e_refusedOf l G y b0 σ E hO (ad E a 9) hp_88 z_89 (show rng z_89 from rz_89)) (cwV 1 hts gX10_count_X6_refusedOf rfl rfl rfl (by decide +kernel) ⟨Nat.le_of_ble_eq_true rfl, Nat.le_of_ble_eq_true rfl⟩) (th_PV hK hH rfl hc_90) rfl rfl hl.1 rfl (lv_room (Nat.le_of_ble_eq_true rfl)) dX10_count_210 ⟨Nat.le_of_ble_eq_true rfl, Nat.le_of_ble_eq_true rfl⟩) hS (fun z_93 σ_s_92 H locs rz_93 hw_91 hH hS => ?_)
                              obtain ⟨e9, hw_91⟩ := hw_91
                              replace e9 := e9.symm
                              subst e9
                              refine vx_ret ?_
                              refine W.widen (k := 1) (n := 6) (Nat.le_of_ble_eq_true rfl) (Nat.le_of_ble_eq_true rfl) ?_
                              exact th_iret hx hb hr hlocks hH hS (z := z_93) rz_93 ⟨hO, hF, ⟨by omega, (ef_2.trans h0row.symm), (eq_4.trans h0q.symm)⟩⟩ dX10_count_213
                            · refine th_case (a := i) (n := 14) (fun c_5_14 => ?_) (fun c_5_14 => ?_)
                              · refine th_topeq c_5_14 ?_
                                refine lv_tableIn (tgt := 202) hx hb dX10_count_1 (by decide) (by decide) (by rfl) (by decide) ?_
                                refine lv_aload_n hx hb dX10_count_202 rfl (lv_at hl 0 rfl) ?_
                                have hp_94 : kd E (ad E a 9) = 5 := ok.pk hO h_a (by decide) k12_9 rfl
                                refine ok.getR hO h_a (by decide) k12_9 (by decide) (fun _ _ he hv kk => th_get (ci := 10) (C := RX10) (T := TX10) (N := 18) hx hb hts inX10 hown hK hH he rfl 9 (by decide) fl0 hv dX10_count_203 kk) ?_
                                refine lv_iload_n hx hb dX10_count_206 rfl (lv_at hl 1 rfl) ?_
                                refine lv_bipush (v := I 13) hx hb dX10_count_207 (by decide) ?_
                                refine lv_isub hx hb dX10_count_209 ?_
                                refine th_subo (fun z_95 rz_95 hz_95 => ?_)
                                obtain ⟨_, hc_96⟩ := hO.cell hp_94 (by decide) (ci := 6) rfl
                                refine th_calli (va_runV (As := [.int (I z_95)]) (rest := []) ⟨hx, hb, hml, hown, hts⟩ (e_refusedOf l G y b0 σ E hO (ad E a 9) hp_94 z_95 (show rng z_95 from rz_95)) (cwV 1 hts gX10_count_X6_refusedOf rfl rfl rfl (by decide +kernel) ⟨Nat.le_of_ble_eq_true rfl, Nat.le_of_ble_eq_true rfl⟩) (th_PV hK hH rfl hc_96) rfl rfl hl.1 rfl (lv_room (Nat.le_of_ble_eq_true rfl)) dX10_count_210 ⟨Nat.le_of_ble_eq_true rfl, Nat.le_of_ble_eq_true rfl⟩) hS (fun z_99 σ_s_98 H locs rz_99 hw_97 hH hS => ?_)
                                obtain ⟨e9, hw_97⟩ := hw_97
                                replace e9 := e9.symm
                                subst e9
                                refine vx_ret ?_
                                refine W.widen (k := 1) (n := 6) (Nat.le_of_ble_eq_true rfl) (Nat.le_of_ble_eq_true rfl) ?_
                                exact th_iret hx hb hr hlocks hH hS (z := z_99) rz_99 ⟨hO, hF, ⟨by omega, (ef_2.trans h0row.symm), (eq_4.trans h0q.symm)⟩⟩ dX10_count_213
                              · refine th_case (a := i) (n := 15) (fun c_5_15 => ?_) (fun c_5_15 => ?_)
                                · refine th_topeq c_5_15 ?_
                                  refine lv_tableIn (tgt := 202) hx hb dX10_count_1 (by decide) (by decide) (by rfl) (by decide) ?_
                                  refine lv_aload_n hx hb dX10_count_202 rfl (lv_at hl 0 rfl) ?_
                                  have hp_100 : kd E (ad E a 9) = 5 := ok.pk hO h_a (by decide) k12_9 rfl
                                  refine ok.getR hO h_a (by decide) k12_9 (by decide) (fun _ _ he hv kk => th_get (ci := 10) (C := RX10) (T := TX10) (N := 18) hx hb hts inX10 hown hK hH he rfl 9 (by decide) fl0 hv dX10_count_203 kk) ?_
                                  refine lv_iload_n hx hb dX10_count_206 rfl (lv_at hl 1 rfl) ?_
                                  refine lv_bipush (v := I 13) hx hb dX10_count_207 (by decide) ?_
                                  refine lv_isub hx hb dX10_count_209 ?_
                                  refine th_subo (fun z_101 rz_101 hz_101 => ?_)
                                  obtain ⟨_, hc_102⟩ := hO.cell hp_100 (by decide) (ci := 6) rfl
                                  refine th_calli (va_runV (As := [.int (I z_101)]) (rest := []) ⟨hx, hb, hml, hown, hts⟩ (e_refusedOf l G y b0 σ E hO (ad E a 9) hp_100 z_101 (show rng z_101 from rz_101)) (cwV 1 hts gX10_count_X6_refusedOf rfl rfl rfl (by decide +kernel) ⟨Nat.le_of_ble_eq_true rfl, Nat.le_of_ble_eq_true rfl⟩) (th_PV hK hH rfl hc_102) rfl rfl hl.1 rfl (lv_room (Nat.le_of_ble_eq_true rfl)) dX10_count_210 ⟨Nat.le_of_ble_eq_true rfl, Nat.le_of_ble_eq_true rfl⟩) hS (fun z_105 σ_s_104 H locs rz_105 hw_103 hH hS => ?_)
                                  obtain ⟨e9, hw_103⟩ := hw_103
                                  replace e9 := e9.symm
                                  subst e9
                                  refine vx_ret ?_
                                  refine W.widen (k := 1) (n := 6) (Nat.le_of_ble_eq_true rfl) (Nat.le_of_ble_eq_true rfl) ?_
                                  exact th_iret hx hb hr hlocks hH hS (z := z_105) rz_105 ⟨hO, hF, ⟨by omega, (ef_2.trans h0row.symm), (eq_4.trans h0q.symm)⟩⟩ dX10_count_213
                                · refine th_case (a := i) (n := 16) (fun c_5_16 => ?_) (fun c_5_16 => ?_)
                                  · refine th_topeq c_5_16 ?_
                                    refine lv_tableIn (tgt := 214) hx hb dX10_count_1 (by decide) (by decide) (by rfl) (by decide) ?_
                                    refine lv_aload_n hx hb dX10_count_214 rfl (lv_at hl 0 rfl) ?_
                                    have hp_106 : kd E (ad E a 9) = 5 := ok.pk hO h_a (by decide) k12_9 rfl
                                    refine ok.getR hO h_a (by decide) k12_9 (by decide) (fun _ _ he hv kk => th_get (ci := 10) (C := RX10) (T := TX10) (N := 18) hx hb hts inX10 hown hK hH he rfl 9 (by decide) fl0 hv dX10_count_215 kk) ?_
                                    have hp_107 : kd E (ad E (ad E a 9) 0) = 1 := ok.pk hO hp_106 (by decide) k5_0 rfl
                                    refine ok.getR hO hp_106 (by decide) k5_0 (by decide) (fun _ _ he hv kk => th_getN (ci := 6) (C := RX6) (T := TX6) (N := 7) hx hb hts inX6 hown hK hH he rfl 0 (by decide) (nl_13 hK) hv dX10_count_218 kk) ?_
                                    obtain ⟨z_108, e_109, rz_108, lz_108, uz_108⟩ := hO.gi hp_107 (by decide) k1_4
                                    obtain ⟨_, hc_110⟩ := hO.cell hp_107 (by decide) (ci := 9) rfl
                                    refine th_calli (va_runV (As := []) (rest := []) ⟨hx, hb, hml, hown, hts⟩ (t_sum l G y b0 σ (ad E (ad E a 9) 0) (tvE E σ (ad E (ad E a 9) 0) 60)  (hO.isT1 hp_107) ) (cwV 0 hts gX10_count_X9_sum rfl rfl rfl (by decide +kernel) ⟨Nat.le_of_ble_eq_true rfl, Nat.le_of_ble_eq_true rfl⟩) (th_PV hK hH rfl hc_110) rfl rfl hl.1 rfl (lv_room (Nat.le_of_ble_eq_true rfl)) dX10_count_221 ⟨Nat.le_of_ble_eq_true rfl, Nat.le_of_ble_eq_true rfl⟩) hS (fun z_113 σ_s_112 H locs rz_113 hw_111 hH hS => ?_)
                                    obtain ⟨e9, hw_111⟩ := hw_111
                                    replace e9 := e9.symm
                                    subst e9
                                    refine vx_ret ?_
                                    refine W.widen (k := 1) (n := 6) (Nat.le_of_ble_eq_true rfl) (Nat.le_of_ble_eq_true rfl) ?_
                                    exact th_iret hx hb hr hlocks hH hS (z := z_113) rz_113 ⟨hO, hF, ⟨by omega, (ef_2.trans h0row.symm), (eq_4.trans h0q.symm)⟩⟩ dX10_count_224
                                  · refine th_case (a := i) (n := 17) (fun c_5_17 => ?_) (fun c_5_17 => ?_)
                                    · refine th_topeq c_5_17 ?_
                                      refine lv_tableIn (tgt := 225) hx hb dX10_count_1 (by decide) (by decide) (by rfl) (by decide) ?_
                                      refine lv_aload_n hx hb dX10_count_225 rfl (lv_at hl 0 rfl) ?_
                                      obtain ⟨_, hc_114⟩ := hO.cell h_a (by decide) (ci := 10) rfl
                                      refine th_calli (va_runV (As := []) (rest := []) ⟨hx, hb, hml, hown, hts⟩ (q_thatFit l G y b0 σ E hO a h_a) (cwV 0 hts gX10_count_X10_pathsThatFit rfl rfl rfl (by decide +kernel) ⟨Nat.le_of_ble_eq_true rfl, Nat.le_of_ble_eq_true rfl⟩) (th_PV hK hH rfl hc_114) rfl rfl hl.1 rfl (lv_room (Nat.le_of_ble_eq_true rfl)) dX10_count_226 ⟨Nat.le_of_ble_eq_true rfl, Nat.le_of_ble_eq_true rfl⟩) hS (fun z_117 σ_s_116 H locs rz_117 hw_115 hH hS => ?_)
                                      obtain ⟨hO9, hF9, hw_115⟩ := hw_115
                                      replace hO := hO9
                                      replace hF := hF.tu hF9 (by decide)
                                      replace hw_115 : (gI σ_s_116 a 2 = gI σ a 2 ∧ gI σ_s_116 a 1 = gI σ a 1) ∧ aF σ_s_116 (ad E a 0) = aF σ (ad E a 0) ∧ aQ σ_s_116 (ad E a 3) = aQ σ (ad E a 3) := hw_115
                                      have ef_118 : aF σ_s_116 (ad E a 0) = f_1 := (hw_115.2.1).trans ef_2
                                      have eq_119 : aQ σ_s_116 (ad E a 3) = f_3 := (hw_115.2.2).trans eq_4
                                      obtain ⟨z_120, e_121, rz_120, lz_120, uz_120⟩ := hO.gi h_a (by decide) k12_2
                                      refine vx_ret ?_
                                      refine W.widen (k := 1) (n := 6) (Nat.le_of_ble_eq_true rfl) (Nat.le_of_ble_eq_true rfl) ?_
                                      exact th_iret hx hb hr hlocks hH hS (z := z_117) rz_117 ⟨hO, hF, ⟨by omega, (ef_118.trans h0row.symm), (eq_119.trans h0q.symm)⟩⟩ dX10_count_229
                                    · refine th_tableOut (tgt := 230) hx hb ri dX10_count_1 (by omega) (by decide) ?_
                                      exact th_throwN (text := "no such count") hx hb hl0 hown hts (by first | exact fun w h => List.mem_cons_of_mem _ (List.mem_append_right _ h) | exact fun w h => List.mem_cons_of_mem _ (List.mem_append_left _ (List.mem_append_right _ h)) | decide +kernel) (by decide +kernel) (by decide +kernel) hXs hS hH (hl.1.trans hml.symm) htab hlocks (List.mem_of_getElem? (i := 2) rfl) dX10_count_230 dX10_count_233 dX10_count_234 dX10_count_236 dX10_count_239 (Nat.le_of_ble_eq_true rfl) (Nat.le_of_ble_eq_true rfl) (Nat.le_of_ble_eq_true rfl) (Nat.le_of_ble_eq_true rfl) ⟨hO, hF, ⟨⟨rfl, by omega⟩, (ef_2.trans h0row.symm), (eq_4.trans h0q.symm)⟩⟩ (Nat.le_of_ble_eq_true rfl) (Nat.le_of_ble_eq_true rfl)

set_option maxHeartbeats 1000000 in
set_option maxRecDepth 100000 in
theorem x_thing (l : Launch) (hl0 : l.stackTraces = false) (G : va_G) (y : Nat → ClassId) (b0 : Nat) (σ : th_M) (E : th_E) (hO : ok y E σ) (a : Nat) (h_a : kd E a = 12) (i : Int) (ri : rng i) (j : Int) (rj : rng j) : vx_Met l yX10_thing wsX10_thing ({ frames := 62, cells := 2, slots := 12, locals := 1341 }) (th_PX G y b0 σ [.ref a, .int (I i), .int (I j)]) (th_Qi G b0 (fun r σ1 => ok y E σ1 ∧ fr [12] E σ σ1 ∧ ((gI σ1 a 2 = gI σ a 2 ∧ gI σ1 a 1 = gI σ a 1) ∧ aF σ1 (ad E a 0) = aF σ (ad E a 0) ∧ aQ σ1 (ad E a 3) = aQ σ (ad E a 3)))) (th_XX G b0 (fun X σ1 => ok y E σ1 ∧ fr [12] E σ σ1 ∧ ((X = nq_NSE ∧ gI σ1 a 1 = gI σ a 1 ∧ gI σ1 a 2 = gI σ a 2) ∧ aF σ1 (ad E a 0) = aF σ (ad E a 0) ∧ aQ σ1 (ad E a 3) = aQ σ (ad E a 3)))) 2 12 (th_A b0) := by
  refine vx_ofW (cc := cX10_thing) (maxL := 3) (ret := (some .int)) (by decide) rfl ?_
  intro p e s m args below meth c s₁ B hml htab hv
  obtain ⟨rfl, hH, hK, hXs⟩ := hv
  have hx := B.exec
  have hb := B.bytes
  have hr := B.returns
  have hts := atoms_spec (ws := wsX10_thing) B.pre
  have hown : s.vm.findClass RX10 = some m.cls := findClass_of_methodNamed B.named
  have hlocks := B.notSynchronized
  have h00 : b0 ≤ s.heap.size := hH.1
  have hS : va_S (th_A b0) s.heap s.heap [] := va_S.rf
  have hF : fr [12] E σ σ := fr.rf
  have inX10 : ∀ w ∈ wsX100, w ∈ wsX10_thing := by decide +kernel
  have inX6 : ∀ w ∈ wsX60, w ∈ wsX10_thing := by decide +kernel
  have fl0 := hts (.fieldLink RX10 63 "NestQuery" "now" "LNestQuery$State;") (by decide +kernel)
  have hl := lv_entry ([.ref a, .int (I i), .int (I j)]) (n := 3) (Nat.le_of_ble_eq_true rfl)
  rw [lg_entry_eq]
  generalize (lg_sl ([.ref a, .int (I i), .int (I j)]) ++ List.replicate (3 - (lg_sl ([.ref a, .int (I i), .int (I j)])).length) Slot.unset).toArray = ls at hl ⊢
  have hl : lv_has ls 3 [(0, .ref a), (1, .int (I i)), (2, .int (I j))] := hl
  obtain ⟨a10, ea10, ra10, la10, ua10⟩ := hO.gi h_a (by decide) k12_1
  obtain ⟨a20, ea20, ra20, la20, ua20⟩ := hO.gi h_a (by decide) k12_2
  obtain ⟨f_1, ef_2⟩ : ∃ f9, aF σ (ad E a 0) = f9 := ⟨_, rfl⟩
  have h0row := ef_2
  obtain ⟨f_3, eq_4⟩ : ∃ f9, aQ σ (ad E a 3) = f9 := ⟨_, rfl⟩
  have h0q := eq_4
  refine lv_aload_n hx hb dX10_thing_0 rfl (lv_at hl 0 rfl) ?_
  refine lv_iload_n hx hb dX10_thing_1 rfl (lv_at hl 1 rfl) ?_
  obtain ⟨_, hc_5⟩ := hO.cell h_a (by decide) (ci := 10) rfl
  refine th_xcallv (vx_runV (As := [.int (I i)]) (rest := []) ⟨hx, hb, hml, hown, hts⟩ (x_must l hl0 G y b0 σ E hO a h_a i (show rng i from ri)) (cwV 1 hts gX10_thing_X10_mustBeThere rfl rfl rfl (by decide +kernel) ⟨Nat.le_of_ble_eq_true rfl, Nat.le_of_ble_eq_true rfl⟩) (th_PXV hK hXs hS hH rfl hc_5) rfl rfl hl.1 rfl (lv_room (Nat.le_of_ble_eq_true rfl)) dX10_thing_2 ⟨Nat.le_of_ble_eq_true rfl, Nat.le_of_ble_eq_true rfl⟩) hS (fun X9 ce9 q9 σ_s_7 H locs hx_8 hH hS h1 h2 h3 => ?_) (fun σ_s_7 H locs hw_6 hH hS => ?_)
  · obtain ⟨hO9, hF9, hx_8⟩ := hx_8
    have hx_8 : X9 = nq_NSE ∧ True := hx_8
    have e_9 : gI σ_s_7 a 1 = a10 := (fr.ki hO hF9 h_a (by decide) (by decide) _).trans ea10
    have e_10 : gI σ_s_7 a 2 = a20 := (fr.ki hO hF9 h_a (by decide) (by decide) _).trans ea20
    have ef_11 : aF σ_s_7 (ad E a 0) = f_1 := (fr.af hO hF9 h_a (by decide) (by decide) k12_0 isA1).trans ef_2
    have eq_12 : aQ σ_s_7 (ad E a 3) = f_3 := (fr.aq hO hF9 h_a (by decide) (by decide) k12_3).trans eq_4
    replace hO := hO9
    replace hF := hF.tu hF9 (by decide)
    exact th_xout htab hlocks hS hH ⟨hO, hF, ⟨⟨hx_8.1, by omega⟩, (ef_11.trans h0row.symm), (eq_12.trans h0q.symm)⟩⟩ h1 h2 h3 (Nat.le_of_ble_eq_true rfl) (Nat.le_of_ble_eq_true rfl)
  · obtain ⟨hO9, hF9, hw_6⟩ := hw_6
    have e_13 : gI σ_s_7 a 1 = a10 := (fr.ki hO hF9 h_a (by decide) (by decide) _).trans ea10
    have e_14 : gI σ_s_7 a 2 = a20 := (fr.ki hO hF9 h_a (by decide) (by decide) _).trans ea20
    have ef_15 : aF σ_s_7 (ad E a 0) = f_1 := (fr.af hO hF9 h_a (by decide) (by decide) k12_0 isA1).trans ef_2
    have eq_16 : aQ σ_s_7 (ad E a 3) = f_3 := (fr.aq hO hF9 h_a (by decide) (by decide) k12_3).trans eq_4
    replace hO := hO9
    replace hF := hF.tu hF9 (by decide)
    replace hw_6 : 0 ≤ i ∧ i ≤ 59 := hw_6
    refine lv_iload_n hx hb dX10_thing_5 rfl (lv_at hl 2 rfl) ?_
    refine th_case (a := j) (n := 0) (fun c_17_0 => ?_) (fun c_17_0 => ?_)
    · refine th_topeq c_17_0 ?_
      refine lv_tableIn (tgt := 60) hx hb dX10_thing_6 (by decide) (by decide) (by rfl) (by decide) ?_
      refine lv_aload_n hx hb dX10_thing_60 rfl (lv_at hl 0 rfl) ?_
      have hp_18 : kd E (ad E a 9) = 5 := ok.pk hO h_a (by decide) k12_9 rfl
      refine ok.getR hO h_a (by decide) k12_9 (by decide) (fun _ _ he hv kk => th_get (ci := 10) (C := RX10) (T := TX10) (N := 18) hx hb hts inX10 hown hK hH he rfl 9 (by decide) fl0 hv dX10_thing_61 kk) ?_
      have hp_19 : kd E (ad E (ad E a 9) 0) = 1 := ok.pk hO hp_18 (by decide) k5_0 rfl
      refine ok.getR hO hp_18 (by decide) k5_0 (by decide) (fun _ _ he hv kk => th_getN (ci := 6) (C := RX6) (T := TX6) (N := 7) hx hb hts inX6 hown hK hH he rfl 0 (by decide) (nl_13 hK) hv dX10_thing_64 kk) ?_
      refine lv_iload_n hx hb dX10_thing_67 rfl (lv_at hl 1 rfl) ?_
      obtain ⟨z_20, e_21, rz_20, lz_20, uz_20⟩ := hO.gi hp_19 (by decide) k1_4
      obtain ⟨_, hc_22⟩ := hO.cell hp_19 (by decide) (ci := 9) rfl
      refine th_calli (va_runV (As := [.int (I i)]) (rest := []) ⟨hx, hb, hml, hown, hts⟩ (t_kindAt l G y b0 σ_s_7 (ad E (ad E a 9) 0) (tvE E σ_s_7 (ad E (ad E a 9) 0) 60) i (hO.isT1 hp_19) (show rng i from ri)) (cwV 1 hts gX10_thing_X9_kindAt rfl rfl rfl (by decide +kernel) ⟨Nat.le_of_ble_eq_true rfl, Nat.le_of_ble_eq_true rfl⟩) (th_PV hK hH rfl hc_22) rfl rfl hl.1 rfl (lv_room (Nat.le_of_ble_eq_true rfl)) dX10_thing_68 ⟨Nat.le_of_ble_eq_true rfl, Nat.le_of_ble_eq_true rfl⟩) hS (fun z_25 σ_s_24 H locs rz_25 hw_23 hH hS => ?_)
      obtain ⟨e9, hw_23⟩ := hw_23
      replace e9 := e9.symm
      subst e9
      replace hw_23 : (0 ≤ i ∧ i < (gI σ_s_7 (ad E (ad E a 9) 0) 4)) ∨ z_25 = -1 := hw_23
      refine vx_ret ?_
      refine W.widen (k := 2) (n := 12) (Nat.le_of_ble_eq_true rfl) (Nat.le_of_ble_eq_true rfl) ?_
      exact th_iret hx hb hr hlocks hH hS (z := z_25) rz_25 ⟨hO, hF, ⟨by omega, (ef_15.trans h0row.symm), (eq_16.trans h0q.symm)⟩⟩ dX10_thing_71
    · refine th_case (a := j) (n := 1) (fun c_17_1 => ?_) (fun c_17_1 => ?_)
      · refine th_topeq c_17_1 ?_
        refine lv_tableIn (tgt := 72) hx hb dX10_thing_6 (by decide) (by decide) (by rfl) (by decide) ?_
        refine lv_aload_n hx hb dX10_thing_72 rfl (lv_at hl 0 rfl) ?_
        have hp_26 : kd E (ad E a 9) = 5 := ok.pk hO h_a (by decide) k12_9 rfl
        refine ok.getR hO h_a (by decide) k12_9 (by decide) (fun _ _ he hv kk => th_get (ci := 10) (C := RX10) (T := TX10) (N := 18) hx hb hts inX10 hown hK hH he rfl 9 (by decide) fl0 hv dX10_thing_73 kk) ?_
        have hp_27 : kd E (ad E (ad E a 9) 0) = 1 := ok.pk hO hp_26 (by decide) k5_0 rfl
        refine ok.getR hO hp_26 (by decide) k5_0 (by decide) (fun _ _ he hv kk => th_getN (ci := 6) (C := RX6) (T := TX6) (N := 7) hx hb hts inX6 hown hK hH he rfl 0 (by decide) (nl_13 hK) hv dX10_thing_76 kk) ?_
        refine lv_iload_n hx hb dX10_thing_79 rfl (lv_at hl 1 rfl) ?_
        obtain ⟨z_28, e_29, rz_28, lz_28, uz_28⟩ := hO.gi hp_27 (by decide) k1_4
        obtain ⟨_, hc_30⟩ := hO.cell hp_27 (by decide) (ci := 9) rfl
        refine th_calli (va_runV (As := [.int (I i)]) (rest := []) ⟨hx, hb, hml, hown, hts⟩ (t_parentOf l G y b0 σ_s_7 (ad E (ad E a 9) 0) (tvE E σ_s_7 (ad E (ad E a 9) 0) 60) i (hO.isT1 hp_27) (show rng i from ri)) (cwV 1 hts gX10_thing_X9_parentOf rfl rfl rfl (by decide +kernel) ⟨Nat.le_of_ble_eq_true rfl, Nat.le_of_ble_eq_true rfl⟩) (th_PV hK hH rfl hc_30) rfl rfl hl.1 rfl (lv_room (Nat.le_of_ble_eq_true rfl)) dX10_thing_80 ⟨Nat.le_of_ble_eq_true rfl, Nat.le_of_ble_eq_true rfl⟩) hS (fun z_33 σ_s_32 H locs rz_33 hw_31 hH hS => ?_)
        obtain ⟨e9, hw_31⟩ := hw_31
        replace e9 := e9.symm
        subst e9
        replace hw_31 : z_33 = -1 ∨ (0 ≤ z_33 ∧ z_33 < i ∧ i < (gI σ_s_7 (ad E (ad E a 9) 0) 4)) := hw_31
        refine vx_ret ?_
        refine W.widen (k := 2) (n := 12) (Nat.le_of_ble_eq_true rfl) (Nat.le_of_ble_eq_true rfl) ?_
        exact th_iret hx hb hr hlocks hH hS (z := z_33) rz_33 ⟨hO, hF, ⟨by omega, (ef_15.trans h0row.symm), (eq_16.trans h0q.symm)⟩⟩ dX10_thing_83
      · refine th_case (a := j) (n := 2) (fun c_17_2 => ?_) (fun c_17_2 => ?_)
        · refine th_topeq c_17_2 ?_
          refine lv_tableIn (tgt := 84) hx hb dX10_thing_6 (by decide) (by decide) (by rfl) (by decide) ?_
          refine lv_aload_n hx hb dX10_thing_84 rfl (lv_at hl 0 rfl) ?_
          have hp_34 : kd E (ad E a 9) = 5 := ok.pk hO h_a (by decide) k12_9 rfl
          refine ok.getR hO h_a (by decide) k12_9 (by decide) (fun _ _ he hv kk => th_get (ci := 10) (C := RX10) (T := TX10) (N := 18) hx hb hts inX10 hown hK hH he rfl 9 (by decide) fl0 hv dX10_thing_85 kk) ?_
          have hp_35 : kd E (ad E (ad E a 9) 0) = 1 := ok.pk hO hp_34 (by decide) k5_0 rfl
          refine ok.getR hO hp_34 (by decide) k5_0 (by decide) (fun _ _ he hv kk => th_getN (ci := 6) (C := RX6) (T := TX6) (N := 7) hx hb hts inX6 hown hK hH he rfl 0 (by decide) (nl_13 hK) hv dX10_thing_88 kk) ?_
          refine lv_iload_n hx hb dX10_thing_91 rfl (lv_at hl 1 rfl) ?_
          obtain ⟨z_36, e_37, rz_36, lz_36, uz_36⟩ := hO.gi hp_35 (by decide) k1_4
          obtain ⟨_, hc_38⟩ := hO.cell hp_35 (by decide) (ci := 9) rfl
          refine th_calli (va_runV (As := [.int (I i)]) (rest := []) ⟨hx, hb, hml, hown, hts⟩ (t_placeOf l G y b0 σ_s_7 (ad E (ad E a 9) 0) (tvE E σ_s_7 (ad E (ad E a 9) 0) 60) i (hO.isT1 hp_35) (show rng i from ri)) (cwV 1 hts gX10_thing_X9_placeOf rfl rfl rfl (by decide +kernel) ⟨Nat.le_of_ble_eq_true rfl, Nat.le_of_ble_eq_true rfl⟩) (th_PV hK hH rfl hc_38) rfl rfl hl.1 rfl (lv_room (Nat.le_of_ble_eq_true rfl)) dX10_thing_92 ⟨Nat.le_of_ble_eq_true rfl, Nat.le_of_ble_eq_true rfl⟩) hS (fun z_41 σ_s_40 H locs rz_41 hw_39 hH hS => ?_)
          obtain ⟨e9, hw_39⟩ := hw_39
          replace e9 := e9.symm
          subst e9
          replace hw_39 : -1 ≤ z_41 ∧ z_41 ≤ 128 := hw_39
          refine vx_ret ?_
          refine W.widen (k := 2) (n := 12) (Nat.le_of_ble_eq_true rfl) (Nat.le_of_ble_eq_true rfl) ?_
          exact th_iret hx hb hr hlocks hH hS (z := z_41) rz_41 ⟨hO, hF, ⟨by omega, (ef_15.trans h0row.symm), (eq_16.trans h0q.symm)⟩⟩ dX10_thing_95
        · refine th_case (a := j) (n := 3) (fun c_17_3 => ?_) (fun c_17_3 => ?_)
          · refine th_topeq c_17_3 ?_
            refine lv_tableIn (tgt := 96) hx hb dX10_thing_6 (by decide) (by decide) (by rfl) (by decide) ?_
            refine lv_aload_n hx hb dX10_thing_96 rfl (lv_at hl 0 rfl) ?_
            have hp_42 : kd E (ad E a 9) = 5 := ok.pk hO h_a (by decide) k12_9 rfl
            refine ok.getR hO h_a (by decide) k12_9 (by decide) (fun _ _ he hv kk => th_get (ci := 10) (C := RX10) (T := TX10) (N := 18) hx hb hts inX10 hown hK hH he rfl 9 (by decide) fl0 hv dX10_thing_97 kk) ?_
            have hp_43 : kd E (ad E (ad E a 9) 0) = 1 := ok.pk hO hp_42 (by decide) k5_0 rfl
            refine ok.getR hO hp_42 (by decide) k5_0 (by decide) (fun _ _ he hv kk => th_getN (ci := 6) (C := RX6) (T := TX6) (N := 7) hx hb hts inX6 hown hK hH he rfl 0 (by decide) (nl_13 hK) hv dX10_thing_100 kk) ?_
            refine lv_iload_n hx hb dX10_thing_103 rfl (lv_at hl 1 rfl) ?_
            obtain ⟨_, hc_44⟩ := hO.cell hp_43 (by decide) (ci := 9) rfl
            refine th_calli (va_runV (As := [.int (I i)]) (rest := []) ⟨hx, hb, hml, hown, hts⟩ (t1_depthAt l G y b0 σ_s_7 E hO (ad E (ad E a 9) 0) hp_43 i (show rng i from ri)) (cwV 1 hts gX10_thing_X9_depthAt rfl rfl rfl (by decide +kernel) ⟨Nat.le_of_ble_eq_true rfl, Nat.le_of_ble_eq_true rfl⟩) (th_PV hK hH rfl hc_44) rfl rfl hl.1 rfl (lv_room (Nat.le_of_ble_eq_true rfl)) dX10_thing_104 ⟨Nat.le_of_ble_eq_true rfl, Nat.le_of_ble_eq_true rfl⟩) hS (fun z_47 σ_s_46 H locs rz_47 hw_45 hH hS => ?_)
            obtain ⟨e9, hw_45⟩ := hw_45
            replace e9 := e9.symm
            subst e9
            replace hw_45 : z_47 ≤ 7 ∧ ((0 ≤ i ∧ i < gI σ_s_7 (ad E (ad E a 9) 0) 4) ∨ (z_47 = -1 ∧ ¬ (0 ≤ i ∧ i < gI σ_s_7 (ad E (ad E a 9) 0) 4))) := hw_45
            refine vx_ret ?_
            refine W.widen (k := 2) (n := 12) (Nat.le_of_ble_eq_true rfl) (Nat.le_of_ble_eq_true rfl) ?_
            exact th_iret hx hb hr hlocks hH hS (z := z_47) rz_47 ⟨hO, hF, ⟨by omega, (ef_15.trans h0row.symm), (eq_16.trans h0q.symm)⟩⟩ dX10_thing_107
          · refine th_case (a := j) (n := 4) (fun c_17_4 => ?_) (fun c_17_4 => ?_)
            · refine th_topeq c_17_4 ?_
              refine lv_tableIn (tgt := 108) hx hb dX10_thing_6 (by decide) (by decide) (by rfl) (by decide) ?_
              refine lv_aload_n hx hb dX10_thing_108 rfl (lv_at hl 0 rfl) ?_
              have hp_48 : kd E (ad E a 9) = 5 := ok.pk hO h_a (by decide) k12_9 rfl
              refine ok.getR hO h_a (by decide) k12_9 (by decide) (fun _ _ he hv kk => th_get (ci := 10) (C := RX10) (T := TX10) (N := 18) hx hb hts inX10 hown hK hH he rfl 9 (by decide) fl0 hv dX10_thing_109 kk) ?_
              have hp_49 : kd E (ad E (ad E a 9) 0) = 1 := ok.pk hO hp_48 (by decide) k5_0 rfl
              refine ok.getR hO hp_48 (by decide) k5_0 (by decide) (fun _ _ he hv kk => th_getN (ci := 6) (C := RX6) (T := TX6) (N := 7) hx hb hts inX6 hown hK hH he rfl 0 (by decide) (nl_13 hK) hv dX10_thing_112 kk) ?_
              refine lv_iload_n hx hb dX10_thing_115 rfl (lv_at hl 1 rfl) ?_
              obtain ⟨z_50, e_51, rz_50, lz_50, uz_50⟩ := hO.gi hp_49 (by decide) k1_4
              obtain ⟨_, hc_52⟩ := hO.cell hp_49 (by decide) (ci := 9) rfl
              refine th_calli (va_runV (As := [.int (I i)]) (rest := []) ⟨hx, hb, hml, hown, hts⟩ (t_childCount l G y b0 σ_s_7 (ad E (ad E a 9) 0) (tvE E σ_s_7 (ad E (ad E a 9) 0) 60) i (hO.isT1 hp_49) (show rng i from ri)) (cwV 1 hts gX10_thing_X9_childCount rfl rfl rfl (by decide +kernel) ⟨Nat.le_of_ble_eq_true rfl, Nat.le_of_ble_eq_true rfl⟩) (th_PV hK hH rfl hc_52) rfl rfl hl.1 rfl (lv_room (Nat.le_of_ble_eq_true rfl)) dX10_thing_116 ⟨Nat.le_of_ble_eq_true rfl, Nat.le_of_ble_eq_true rfl⟩) hS (fun z_55 σ_s_54 H locs rz_55 hw_53 hH hS => ?_)
              obtain ⟨e9, hw_53⟩ := hw_53
              replace e9 := e9.symm
              subst e9
              replace hw_53 : 0 ≤ z_55 ∧ z_55 ≤ (gI σ_s_7 (ad E (ad E a 9) 0) 4) := hw_53
              refine vx_ret ?_
              refine W.widen (k := 2) (n := 12) (Nat.le_of_ble_eq_true rfl) (Nat.le_of_ble_eq_true rfl) ?_
              exact th_iret hx hb hr hlocks hH hS (z := z_55) rz_55 ⟨hO, hF, ⟨by omega, (ef_15.trans h0row.symm), (eq_16.trans h0q.symm)⟩⟩ dX10_thing_119
            · refine th_case (a := j) (n := 5) (fun c_17_5 => ?_) (fun c_17_5 => ?_)
              · refine th_topeq c_17_5 ?_
                refine lv_tableIn (tgt := 120) hx hb dX10_thing_6 (by decide) (by decide) (by rfl) (by decide) ?_
                refine lv_aload_n hx hb dX10_thing_120 rfl (lv_at hl 0 rfl) ?_
                have hp_56 : kd E (ad E a 9) = 5 := ok.pk hO h_a (by decide) k12_9 rfl
                refine ok.getR hO h_a (by decide) k12_9 (by decide) (fun _ _ he hv kk => th_get (ci := 10) (C := RX10) (T := TX10) (N := 18) hx hb hts inX10 hown hK hH he rfl 9 (by decide) fl0 hv dX10_thing_121 kk) ?_
                have hp_57 : kd E (ad E (ad E a 9) 0) = 1 := ok.pk hO hp_56 (by decide) k5_0 rfl
                refine ok.getR hO hp_56 (by decide) k5_0 (by decide) (fun _ _ he hv kk => th_getN (ci := 6) (C := RX6) (T := TX6) (N := 7) hx hb hts inX6 hown hK hH he rfl 0 (by decide) (nl_13 hK) hv dX10_thing_124 kk) ?_
                refine lv_iload_n hx hb dX10_thing_127 rfl (lv_at hl 1 rfl) ?_
                obtain ⟨z_58, e_59, rz_58, lz_58, uz_58⟩ := hO.gi hp_57 (by decide) k1_4
                obtain ⟨_, hc_60⟩ := hO.cell hp_57 (by decide) (ci := 9) rfl
                refine th_calli (va_runV (As := [.int (I i)]) (rest := []) ⟨hx, hb, hml, hown, hts⟩ (t_end l G y b0 σ_s_7 (ad E (ad E a 9) 0) (tvE E σ_s_7 (ad E (ad E a 9) 0) 60) i (hO.isT1 hp_57) (show rng i from ri)) (cwV 1 hts gX10_thing_X9_end rfl rfl rfl (by decide +kernel) ⟨Nat.le_of_ble_eq_true rfl, Nat.le_of_ble_eq_true rfl⟩) (th_PV hK hH rfl hc_60) rfl rfl hl.1 rfl (lv_room (Nat.le_of_ble_eq_true rfl)) dX10_thing_128 ⟨Nat.le_of_ble_eq_true rfl, Nat.le_of_ble_eq_true rfl⟩) hS (fun z_63 σ_s_62 H locs rz_63 hw_61 hH hS => ?_)
                obtain ⟨e9, hw_61⟩ := hw_61
                replace e9 := e9.symm
                subst e9
                replace hw_61 : ((0 ≤ i ∧ i < (gI σ_s_7 (ad E (ad E a 9) 0) 4)) ∧ i ≤ z_63 ∧ z_63 < (gI σ_s_7 (ad E (ad E a 9) 0) 4)) ∨ (z_63 = -1 ∧ ¬ (0 ≤ i ∧ i < (gI σ_s_7 (ad E (ad E a 9) 0) 4))) := hw_61
                refine vx_ret ?_
                refine W.widen (k := 2) (n := 12) (Nat.le_of_ble_eq_true rfl) (Nat.le_of_ble_eq_true rfl) ?_
                exact th_iret hx hb hr hlocks hH hS (z := z_63) rz_63 ⟨hO, hF, ⟨by omega, (ef_15.trans h0row.symm), (eq_16.trans h0q.symm)⟩⟩ dX10_thing_131
              · refine th_case (a := j) (n := 6) (fun c_17_6 => ?_) (fun c_17_6 => ?_)
                · refine th_topeq c_17_6 ?_
                  refine lv_tableIn (tgt := 132) hx hb dX10_thing_6 (by decide) (by decide) (by rfl) (by decide) ?_
                  refine lv_aload_n hx hb dX10_thing_132 rfl (lv_at hl 0 rfl) ?_
                  have hp_64 : kd E (ad E a 9) = 5 := ok.pk hO h_a (by decide) k12_9 rfl
                  refine ok.getR hO h_a (by decide) k12_9 (by decide) (fun _ _ he hv kk => th_get (ci := 10) (C := RX10) (T := TX10) (N := 18) hx hb hts inX10 hown hK hH he rfl 9 (by decide) fl0 hv dX10_thing_133 kk) ?_
                  have hp_65 : kd E (ad E (ad E a 9) 0) = 1 := ok.pk hO hp_64 (by decide) k5_0 rfl
                  refine ok.getR hO hp_64 (by decide) k5_0 (by decide) (fun _ _ he hv kk => th_getN (ci := 6) (C := RX6) (T := TX6) (N := 7) hx hb hts inX6 hown hK hH he rfl 0 (by decide) (nl_13 hK) hv dX10_thing_136 kk) ?_
                  refine lv_iload_n hx hb dX10_thing_139 rfl (lv_at hl 1 rfl) ?_
                  obtain ⟨z_66, e_67, rz_66, lz_66, uz_66⟩ := hO.gi hp_65 (by decide) k1_4
                  obtain ⟨_, hc_68⟩ := hO.cell hp_65 (by decide) (ci := 9) rfl
                  refine th_calli (va_runV (As := [.int (I i)]) (rest := []) ⟨hx, hb, hml, hown, hts⟩ (t_kindAt l G y b0 σ_s_7 (ad E (ad E a 9) 0) (tvE E σ_s_7 (ad E (ad E a 9) 0) 60) i (hO.isT1 hp_65) (show rng i from ri)) (cwV 1 hts gX10_thing_X9_kindAt rfl rfl rfl (by decide +kernel) ⟨Nat.le_of_ble_eq_true rfl, Nat.le_of_ble_eq_true rfl⟩) (th_PV hK hH rfl hc_68) rfl rfl hl.1 rfl (lv_room (Nat.le_of_ble_eq_true rfl)) dX10_thing_140 ⟨Nat.le_of_ble_eq_true rfl, Nat.le_of_ble_eq_true rfl⟩) hS (fun z_71 σ_s_70 H locs rz_71 hw_69 hH hS => ?_)
                  obtain ⟨e9, hw_69⟩ := hw_69
                  replace e9 := e9.symm
                  subst e9
                  replace hw_69 : (0 ≤ i ∧ i < (gI σ_s_7 (ad E (ad E a 9) 0) 4)) ∨ z_71 = -1 := hw_69
                  refine lv_if_ne (tgt := 160) hx hb dX10_thing_143 (by decide) (fun c_72 => ?_) (fun c_72 => ?_)
                  · replace c_72 := mt (I_eq (a := z_71) (b := 0) rz_71 (show rng 0 from ⟨by decide, by decide⟩)).mpr c_72
                    refine lv_sipush (v := I (-1000)) hx hb dX10_thing_160 (by decide) ?_
                    refine vx_ret ?_
                    refine W.widen (k := 2) (n := 12) (Nat.le_of_ble_eq_true rfl) (Nat.le_of_ble_eq_true rfl) ?_
                    exact th_iret hx hb hr hlocks hH hS (z := (-1000)) (show rng (-1000) from ⟨by decide, by decide⟩) ⟨hO, hF, ⟨by omega, (ef_15.trans h0row.symm), (eq_16.trans h0q.symm)⟩⟩ dX10_thing_163
                  · replace c_72 := (I_eq (a := z_71) (b := 0) rz_71 (show rng 0 from ⟨by decide, by decide⟩)).mp c_72
                    refine lv_aload_n hx hb dX10_thing_146 rfl (lv_at hl 0 rfl) ?_
                    refine ok.getR hO h_a (by decide) k12_9 (by decide) (fun _ _ he hv kk => th_get (ci := 10) (C := RX10) (T := TX10) (N := 18) hx hb hts inX10 hown hK hH he rfl 9 (by decide) fl0 hv dX10_thing_147 kk) ?_
                    refine ok.getR hO hp_64 (by decide) k5_0 (by decide) (fun _ _ he hv kk => th_getN (ci := 6) (C := RX6) (T := TX6) (N := 7) hx hb hts inX6 hown hK hH he rfl 0 (by decide) (nl_13 hK) hv dX10_thing_150 kk) ?_
                    refine lv_iload_n hx hb dX10_thing_153 rfl (lv_at hl 1 rfl) ?_
                    obtain ⟨_, hc_73⟩ := hO.cell hp_65 (by decide) (ci := 9) rfl
                    refine th_calli (va_runV (As := [.int (I i)]) (rest := []) ⟨hx, hb, hml, hown, hts⟩ (t_valueAt l G y b0 σ_s_7 (ad E (ad E a 9) 0) (tvE E σ_s_7 (ad E (ad E a 9) 0) 60) i (hO.isT1 hp_65) (show rng i from ri)) (cwV 1 hts gX10_thing_X9_valueAt rfl rfl rfl (by decide +kernel) ⟨Nat.le_of_ble_eq_true rfl, Nat.le_of_ble_eq_true rfl⟩) (th_PV hK hH rfl hc_73) rfl rfl hl.1 rfl (lv_room (Nat.le_of_ble_eq_true rfl)) dX10_thing_154 ⟨Nat.le_of_ble_eq_true rfl, Nat.le_of_ble_eq_true rfl⟩) hS (fun z_76 σ_s_75 H locs rz_76 hw_74 hH hS => ?_)
                    obtain ⟨e9, hw_74⟩ := hw_74
                    replace e9 := e9.symm
                    subst e9
                    refine lv_goto (tgt := 163) hx hb dX10_thing_157 (by decide) ?_
                    refine vx_ret ?_
                    refine W.widen (k := 2) (n := 12) (Nat.le_of_ble_eq_true rfl) (Nat.le_of_ble_eq_true rfl) ?_
                    exact th_iret hx hb hr hlocks hH hS (z := z_76) rz_76 ⟨hO, hF, ⟨by omega, (ef_15.trans h0row.symm), (eq_16.trans h0q.symm)⟩⟩ dX10_thing_163
                · refine th_case (a := j) (n := 7) (fun c_17_7 => ?_) (fun c_17_7 => ?_)
                  · refine th_topeq c_17_7 ?_
                    refine lv_tableIn (tgt := 164) hx hb dX10_thing_6 (by decide) (by decide) (by rfl) (by decide) ?_
                    refine lv_aload_n hx hb dX10_thing_164 rfl (lv_at hl 0 rfl) ?_
                    have hp_77 : kd E (ad E a 9) = 5 := ok.pk hO h_a (by decide) k12_9 rfl
                    refine ok.getR hO h_a (by decide) k12_9 (by decide) (fun _ _ he hv kk => th_get (ci := 10) (C := RX10) (T := TX10) (N := 18) hx hb hts inX10 hown hK hH he rfl 9 (by decide) fl0 hv dX10_thing_165 kk) ?_
                    have hp_78 : kd E (ad E (ad E a 9) 0) = 1 := ok.pk hO hp_77 (by decide) k5_0 rfl
                    refine ok.getR hO hp_77 (by decide) k5_0 (by decide) (fun _ _ he hv kk => th_getN (ci := 6) (C := RX6) (T := TX6) (N := 7) hx hb hts inX6 hown hK hH he rfl 0 (by decide) (nl_13 hK) hv dX10_thing_168 kk) ?_
                    refine lv_iload_n hx hb dX10_thing_171 rfl (lv_at hl 1 rfl) ?_
                    obtain ⟨z_79, e_80, rz_79, lz_79, uz_79⟩ := hO.gi hp_78 (by decide) k1_4
                    obtain ⟨_, hc_81⟩ := hO.cell hp_78 (by decide) (ci := 9) rfl
                    refine th_calli (va_runV (As := [.int (I i)]) (rest := []) ⟨hx, hb, hml, hown, hts⟩ (t_keyAt l G y b0 σ_s_7 (ad E (ad E a 9) 0) (tvE E σ_s_7 (ad E (ad E a 9) 0) 60) i (hO.isT1 hp_78) (show rng i from ri)) (cwV 1 hts gX10_thing_X9_keyAt rfl rfl rfl (by decide +kernel) ⟨Nat.le_of_ble_eq_true rfl, Nat.le_of_ble_eq_true rfl⟩) (th_PV hK hH rfl hc_81) rfl rfl hl.1 rfl (lv_room (Nat.le_of_ble_eq_true rfl)) dX10_thing_172 ⟨Nat.le_of_ble_eq_true rfl, Nat.le_of_ble_eq_true rfl⟩) hS (fun z_84 σ_s_83 H locs rz_84 hw_82 hH hS => ?_)
                    obtain ⟨e9, hw_82⟩ := hw_82
                    replace e9 := e9.symm
                    subst e9
                    refine th_calli (va_runS (As := [.int (I z_84)]) (rest := []) ⟨hx, hb, hml, hown, hts⟩ (n_lettersOf l G y b0 σ_s_7 E hO z_84 (show rng z_84 from rz_84)) (va_cwS 1 hts gX10_thing_X10_lettersOf rfl rfl rfl (by decide +kernel) ⟨Nat.le_of_ble_eq_true rfl, Nat.le_of_ble_eq_true rfl⟩) (th_PS hK hH) rfl rfl hl.1 rfl (lv_room (Nat.le_of_ble_eq_true rfl)) dX10_thing_175 ⟨Nat.le_of_ble_eq_true rfl, Nat.le_of_ble_eq_true rfl⟩) hS (fun z_87 σ_s_86 H locs rz_87 hw_85 hH hS => ?_)
                    obtain ⟨e9, hw_85⟩ := hw_85
                    replace e9 := e9.symm
                    subst e9
                    refine vx_ret ?_
                    refine W.widen (k := 2) (n := 12) (Nat.le_of_ble_eq_true rfl) (Nat.le_of_ble_eq_true rfl) ?_
                    exact th_iret hx hb hr hlocks hH hS (z := z_87) rz_87 ⟨hO, hF, ⟨by omega, (ef_15.trans h0row.symm), (eq_16.trans h0q.symm)⟩⟩ dX10_thing_178
                  · refine th_case (a := j) (n := 8) (fun c_17_8 => ?_) (fun c_17_8 => ?_)
                    · refine th_topeq c_17_8 ?_
                      refine lv_tableIn (tgt := 179) hx hb dX10_thing_6 (by decide) (by decide) (by rfl) (by decide) ?_
                      refine lv_aload_n hx hb dX10_thing_179 rfl (lv_at hl 0 rfl) ?_
                      have hp_88 : kd E (ad E a 9) = 5 := ok.pk hO h_a (by decide) k12_9 rfl
                      refine ok.getR hO h_a (by decide) k12_9 (by decide) (fun _ _ he hv kk => th_get (ci := 10) (C := RX10) (T := TX10) (N := 18) hx hb hts inX10 hown hK hH he rfl 9 (by decide) fl0 hv dX10_thing_180 kk) ?_
                      have hp_89 : kd E (ad E (ad E a 9) 0) = 1 := ok.pk hO hp_88 (by decide) k5_0 rfl
                      refine ok.getR hO hp_88 (by decide) k5_0 (by decide) (fun _ _ he hv kk => th_getN (ci := 6) (C := RX6) (T := TX6) (N := 7) hx hb hts inX6 hown hK hH he rfl 0 (by decide) (nl_13 hK) hv dX10_thing_183 kk) ?_
                      refine lv_iload_n hx hb dX10_thing_186 rfl (lv_at hl 1 rfl) ?_
                      obtain ⟨_, hc_90⟩ := hO.cell hp_89 (by decide) (ci := 9) rfl
                      refine th_calli (va_runV (As := [.int (I i)]) (rest := []) ⟨hx, hb, hml, hown, hts⟩ (t1_twins l G y b0 σ_s_7 E hO (ad E (ad E a 9) 0) hp_89 i (show rng i from ri)) (cwV 1 hts gX10_thing_X9_twinsOf rfl rfl rfl (by decide +kernel) ⟨Nat.le_of_ble_eq_true rfl, Nat.le_of_ble_eq_true rfl⟩) (th_PV hK hH rfl hc_90) rfl rfl hl.1 rfl (lv_room (Nat.le_of_ble_eq_true rfl)) dX10_thing_187 ⟨Nat.le_of_ble_eq_true rfl, Nat.le_of_ble_eq_true rfl⟩) hS (fun z_93 σ_s_92 H locs rz_93 hw_91 hH hS => ?_)
                      obtain ⟨e9, hw_91⟩ := hw_91
                      replace e9 := e9.symm
                      subst e9
                      refine vx_ret ?_
                      refine W.widen (k := 2) (n := 12) (Nat.le_of_ble_eq_true rfl) (Nat.le_of_ble_eq_true rfl) ?_
                      exact th_iret hx hb hr hlocks hH hS (z := z_93) rz_93 ⟨hO, hF, ⟨by omega, (ef_15.trans h0row.symm), (eq_16.trans h0q.symm)⟩⟩ dX10_thing_190
                    · refine th_case (a := j) (n := 9) (fun c_17_9 => ?_) (fun c_17_9 => ?_)
                      · refine th_topeq c_17_9 ?_
                        refine lv_tableIn (tgt := 191) hx hb dX10_thing_6 (by decide) (by decide) (by rfl) (by decide) ?_
                        refine lv_aload_n hx hb dX10_thing_191 rfl (lv_at hl 0 rfl) ?_
                        refine lv_iload_n hx hb dX10_thing_192 rfl (lv_at hl 1 rfl) ?_
                        obtain ⟨_, hc_94⟩ := hO.cell h_a (by decide) (ci := 10) rfl
                        refine th_calli (va_runV (As := [.int (I i)]) (rest := []) ⟨hx, hb, hml, hown, hts⟩ (q_answering l G y b0 σ_s_7 E hO a h_a i (show rng i from ri)) (cwV 1 hts gX10_thing_X10_pathsAnswering rfl rfl rfl (by decide +kernel) ⟨Nat.le_of_ble_eq_true rfl, Nat.le_of_ble_eq_true rfl⟩) (th_PV hK hH rfl hc_94) rfl rfl hl.1 rfl (lv_room (Nat.le_of_ble_eq_true rfl)) dX10_thing_193 ⟨Nat.le_of_ble_eq_true rfl, Nat.le_of_ble_eq_true rfl⟩) hS (fun z_97 σ_s_96 H locs rz_97 hw_95 hH hS => ?_)
                        obtain ⟨hO9, hF9, hw_95⟩ := hw_95
                        replace hO := hO9
                        replace hF := hF.tu hF9 (by decide)
                        replace hw_95 : (gI σ_s_96 a 2 = gI σ_s_7 a 2 ∧ gI σ_s_96 a 1 = gI σ_s_7 a 1) ∧ aF σ_s_96 (ad E a 0) = aF σ_s_7 (ad E a 0) ∧ aQ σ_s_96 (ad E a 3) = aQ σ_s_7 (ad E a 3) := hw_95
                        have ef_98 : aF σ_s_96 (ad E a 0) = f_1 := (hw_95.2.1).trans ef_15
                        have eq_99 : aQ σ_s_96 (ad E a 3) = f_3 := (hw_95.2.2).trans eq_16
                        obtain ⟨z_100, e_101, rz_100, lz_100, uz_100⟩ := hO.gi h_a (by decide) k12_2
                        refine vx_ret ?_
                        refine W.widen (k := 2) (n := 12) (Nat.le_of_ble_eq_true rfl) (Nat.le_of_ble_eq_true rfl) ?_
                        exact th_iret hx hb hr hlocks hH hS (z := z_97) rz_97 ⟨hO, hF, ⟨by omega, (ef_98.trans h0row.symm), (eq_99.trans h0q.symm)⟩⟩ dX10_thing_196
                      · refine th_tableOut (tgt := 197) hx hb rj dX10_thing_6 (by omega) (by decide) ?_
                        exact th_throwN (text := "no such question about a thing") hx hb hl0 hown hts (by first | exact fun w h => List.mem_cons_of_mem _ (List.mem_append_right _ h) | exact fun w h => List.mem_cons_of_mem _ (List.mem_append_left _ (List.mem_append_right _ h)) | decide +kernel) (by decide +kernel) (by decide +kernel) hXs hS hH (hl.1.trans hml.symm) htab hlocks (List.mem_of_getElem? (i := 4) rfl) dX10_thing_197 dX10_thing_200 dX10_thing_201 dX10_thing_203 dX10_thing_206 (Nat.le_of_ble_eq_true rfl) (Nat.le_of_ble_eq_true rfl) (Nat.le_of_ble_eq_true rfl) (Nat.le_of_ble_eq_true rfl) ⟨hO, hF, ⟨⟨rfl, by omega⟩, (ef_15.trans h0row.symm), (eq_16.trans h0q.symm)⟩⟩ (Nat.le_of_ble_eq_true rfl) (Nat.le_of_ble_eq_true rfl)

set_option maxHeartbeats 1000000 in
set_option maxRecDepth 100000 in
theorem x_within (l : Launch) (hl0 : l.stackTraces = false) (G : va_G) (y : Nat → ClassId) (b0 : Nat) (σ : th_M) (E : th_E) (hO : ok y E σ) (a : Nat) (h_a : kd E a = 12) (i : Int) (ri : rng i) (j : Int) (rj : rng j) : vx_Met l yX10_within wsX10_within ({ frames := 7, cells := 2, slots := 12, locals := 125 }) (th_PX G y b0 σ [.ref a, .int (I i), .int (I j)]) (th_Qi G b0 (fun r σ1 => ok y E σ1 ∧ fr [] E σ σ1 ∧ (gI σ1 a 1 = gI σ a 1))) (th_XX G b0 (fun X σ1 => ok y E σ1 ∧ fr [] E σ σ1 ∧ (X = nq_NSE ∧ gI σ1 a 1 = gI σ a 1))) 2 12 (th_A b0) := by
  refine vx_ofW (cc := cX10_within) (maxL := 4) (ret := (some .int)) (by decide) rfl ?_
  intro p e s m args below meth c s₁ B hml htab hv
  obtain ⟨rfl, hH, hK, hXs⟩ := hv
  have hx := B.exec
  have hb := B.bytes
  have hr := B.returns
  have hts := atoms_spec (ws := wsX10_within) B.pre
  have hown : s.vm.findClass RX10 = some m.cls := findClass_of_methodNamed B.named
  have hlocks := B.notSynchronized
  have h00 : b0 ≤ s.heap.size := hH.1
  have hS : va_S (th_A b0) s.heap s.heap [] := va_S.rf
  have hF : fr [] E σ σ := fr.rf
  have inX10 : ∀ w ∈ wsX100, w ∈ wsX10_within := by decide +kernel
  have inX6 : ∀ w ∈ wsX60, w ∈ wsX10_within := by decide +kernel
  have fl0 := hts (.fieldLink RX10 63 "NestQuery" "now" "LNestQuery$State;") (by decide +kernel)
  have hl := lv_entry ([.ref a, .int (I i), .int (I j)]) (n := 4) (Nat.le_of_ble_eq_true rfl)
  rw [lg_entry_eq]
  generalize (lg_sl ([.ref a, .int (I i), .int (I j)]) ++ List.replicate (4 - (lg_sl ([.ref a, .int (I i), .int (I j)])).length) Slot.unset).toArray = ls at hl ⊢
  have hl : lv_has ls 4 [(0, .ref a), (1, .int (I i)), (2, .int (I j))] := hl
  obtain ⟨a10, ea10, ra10, la10, ua10⟩ := hO.gi h_a (by decide) k12_1
  refine lv_aload_n hx hb dX10_within_0 rfl (lv_at hl 0 rfl) ?_
  refine lv_iload_n hx hb dX10_within_1 rfl (lv_at hl 1 rfl) ?_
  obtain ⟨_, hc_1⟩ := hO.cell h_a (by decide) (ci := 10) rfl
  refine th_xcallv (vx_runV (As := [.int (I i)]) (rest := []) ⟨hx, hb, hml, hown, hts⟩ (x_must l hl0 G y b0 σ E hO a h_a i (show rng i from ri)) (cwV 1 hts gX10_within_X10_mustBeThere rfl rfl rfl (by decide +kernel) ⟨Nat.le_of_ble_eq_true rfl, Nat.le_of_ble_eq_true rfl⟩) (th_PXV hK hXs hS hH rfl hc_1) rfl rfl hl.1 rfl (lv_room (Nat.le_of_ble_eq_true rfl)) dX10_within_2 ⟨Nat.le_of_ble_eq_true rfl, Nat.le_of_ble_eq_true rfl⟩) hS (fun X9 ce9 q9 σ_s_3 H locs hx_4 hH hS h1 h2 h3 => ?_) (fun σ_s_3 H locs hw_2 hH hS => ?_)
  · obtain ⟨hO9, hF9, hx_4⟩ := hx_4
    have hx_4 : X9 = nq_NSE ∧ True := hx_4
    have e_5 : gI σ_s_3 a 1 = a10 := (fr.ki hO hF9 h_a (by decide) (by decide) _).trans ea10
    replace hO := hO9
    replace hF := hF.tu hF9 (by decide)
    exact th_xout htab hlocks hS hH ⟨hO, hF, ⟨hx_4.1, by omega⟩⟩ h1 h2 h3 (Nat.le_of_ble_eq_true rfl) (Nat.le_of_ble_eq_true rfl)
  · obtain ⟨hO9, hF9, hw_2⟩ := hw_2
    have e_6 : gI σ_s_3 a 1 = a10 := (fr.ki hO hF9 h_a (by decide) (by decide) _).trans ea10
    replace hO := hO9
    replace hF := hF.tu hF9 (by decide)
    have hw_2 : 0 ≤ i ∧ i ≤ 59 := hw_2
    refine lv_aload_n hx hb dX10_within_5 rfl (lv_at hl 0 rfl) ?_
    have hp_7 : kd E (ad E a 9) = 5 := ok.pk hO h_a (by decide) k12_9 rfl
    refine ok.getR hO h_a (by decide) k12_9 (by decide) (fun _ _ he hv kk => th_get (ci := 10) (C := RX10) (T := TX10) (N := 18) hx hb hts inX10 hown hK hH he rfl 9 (by decide) fl0 hv dX10_within_6 kk) ?_
    have hp_8 : kd E (ad E (ad E a 9) 0) = 1 := ok.pk hO hp_7 (by decide) k5_0 rfl
    refine ok.getR hO hp_7 (by decide) k5_0 (by decide) (fun _ _ he hv kk => th_getN (ci := 6) (C := RX6) (T := TX6) (N := 7) hx hb hts inX6 hown hK hH he rfl 0 (by decide) (nl_13 hK) hv dX10_within_9 kk) ?_
    refine lv_iload_n hx hb dX10_within_12 rfl (lv_at hl 1 rfl) ?_
    refine lv_iload_n hx hb dX10_within_13 rfl (lv_at hl 2 rfl) ?_
    obtain ⟨z_9, e_10, rz_9, lz_9, uz_9⟩ := hO.gi hp_8 (by decide) k1_4
    obtain ⟨_, hc_11⟩ := hO.cell hp_8 (by decide) (ci := 9) rfl
    refine th_calli (va_runV (As := [.int (I i), .int (I j)]) (rest := []) ⟨hx, hb, hml, hown, hts⟩ (t_childAt l G y b0 σ_s_3 (ad E (ad E a 9) 0) (tvE E σ_s_3 (ad E (ad E a 9) 0) 60) i j (hO.isT1 hp_8) (show rng i from ri) (show rng j from rj)) (cwV 2 hts gX10_within_X9_childAt rfl rfl rfl (by decide +kernel) ⟨Nat.le_of_ble_eq_true rfl, Nat.le_of_ble_eq_true rfl⟩) (th_PV hK hH rfl hc_11) rfl rfl hl.1 rfl (lv_room (Nat.le_of_ble_eq_true rfl)) dX10_within_14 ⟨Nat.le_of_ble_eq_true rfl, Nat.le_of_ble_eq_true rfl⟩) hS (fun z_14 σ_s_13 H locs rz_14 hw_12 hH hS => ?_)
    obtain ⟨e9, hw_12⟩ := hw_12
    replace e9 := e9.symm
    subst e9
    have hw_12 : z_14 = -1 ∨ (0 ≤ i ∧ i < z_14 ∧ z_14 < (gI σ_s_3 (ad E (ad E a 9) 0) 4)) := hw_12
    refine lv_istore_n (lv' := [(3, .int (I z_14)), (0, .ref a), (1, .int (I i)), (2, .int (I j))]) hx hb dX10_within_17 rfl hl (by decide) rfl (fun ls hl => ?_)
    refine lv_iload_n hx hb dX10_within_18 rfl (lv_at hl 0 rfl) ?_
    refine lv_iconst (v := I (-1)) hx hb dX10_within_19 (by decide) ?_
    refine lv_icmp_ne (tgt := 33) hx hb dX10_within_20 (by decide) (fun c_15 => ?_) (fun c_15 => ?_)
    · replace c_15 := mt (I_eq (a := z_14) (b := (-1)) rz_14 (show rng (-1) from ⟨by decide, by decide⟩)).mpr c_15
      refine lv_iload_n hx hb dX10_within_33 rfl (lv_at hl 0 rfl) ?_
      refine vx_ret ?_
      refine W.widen (k := 2) (n := 12) (Nat.le_of_ble_eq_true rfl) (Nat.le_of_ble_eq_true rfl) ?_
      exact th_iret hx hb hr hlocks hH hS (z := z_14) rz_14 ⟨hO, hF, by omega⟩ dX10_within_34
    · replace c_15 := (I_eq (a := z_14) (b := (-1)) rz_14 (show rng (-1) from ⟨by decide, by decide⟩)).mp c_15
      exact th_throwN (text := "no such thing at once within") hx hb hl0 hown hts (by first | exact fun w h => List.mem_cons_of_mem _ (List.mem_append_right _ h) | exact fun w h => List.mem_cons_of_mem _ (List.mem_append_left _ (List.mem_append_right _ h)) | decide +kernel) (by decide +kernel) (by decide +kernel) hXs hS hH (hl.1.trans hml.symm) htab hlocks (List.mem_of_getElem? (i := 5) rfl) dX10_within_23 dX10_within_26 dX10_within_27 dX10_within_29 dX10_within_32 (Nat.le_of_ble_eq_true rfl) (Nat.le_of_ble_eq_true rfl) (Nat.le_of_ble_eq_true rfl) (Nat.le_of_ble_eq_true rfl) ⟨hO, hF, ⟨rfl, by omega⟩⟩ (Nat.le_of_ble_eq_true rfl) (Nat.le_of_ble_eq_true rfl)

set_option maxHeartbeats 1000000 in
set_option maxRecDepth 100000 in
theorem x_told (l : Launch) (hl0 : l.stackTraces = false) (G : va_G) (y : Nat → ClassId) (b0 : Nat) (σ : th_M) (E : th_E) (hO : ok y E σ) (a : Nat) (h_a : kd E a = 12) (i : Int) (ri : rng i) (w : Int) (rw : rng w) (l_w : 0 ≤ w) (u_w : w ≤ 1) (j : Int) (rj : rng j) : vx_Met l yX10_told wsX10_told ({ frames := 81, cells := 2, slots := 12, locals := 2428 }) (th_PX G y b0 σ [.ref a, .int (I i), .int (I w), .int (I j)]) (th_Qi G b0 (fun r σ1 => ok y E σ1 ∧ fr [8] E σ σ1 ∧ (gI σ1 a 1 = gI σ a 1))) (th_XX G b0 (fun X σ1 => ok y E σ1 ∧ fr [8] E σ σ1 ∧ (X = nq_NSE ∧ gI σ1 a 1 = gI σ a 1))) 2 12 (th_A b0) := by
  refine vx_ofW (cc := cX10_told) (maxL := 4) (ret := (some .int)) (by decide) rfl ?_
  intro p e s m args below meth c s₁ B hml htab hv
  obtain ⟨rfl, hH, hK, hXs⟩ := hv
  have hx := B.exec
  have hb := B.bytes
  have hr := B.returns
  have hts := atoms_spec (ws := wsX10_told) B.pre
  have hown : s.vm.findClass RX10 = some m.cls := findClass_of_methodNamed B.named
  have hlocks := B.notSynchronized
  have h00 : b0 ≤ s.heap.size := hH.1
  have hS : va_S (th_A b0) s.heap s.heap [] := va_S.rf
  have hF : fr [8] E σ σ := fr.rf
  have inX10 : ∀ w ∈ wsX100, w ∈ wsX10_told := by decide +kernel
  have inX6 : ∀ w ∈ wsX60, w ∈ wsX10_told := by decide +kernel
  have fl0 := hts (.fieldLink RX10 92 "NestQuery" "text" "LNestQuery$TextOut;") (by decide +kernel)
  have fl1 := hts (.fieldLink RX10 63 "NestQuery" "now" "LNestQuery$State;") (by decide +kernel)
  have hl := lv_entry ([.ref a, .int (I i), .int (I w), .int (I j)]) (n := 4) (Nat.le_of_ble_eq_true rfl)
  rw [lg_entry_eq]
  generalize (lg_sl ([.ref a, .int (I i), .int (I w), .int (I j)]) ++ List.replicate (4 - (lg_sl ([.ref a, .int (I i), .int (I w), .int (I j)])).length) Slot.unset).toArray = ls at hl ⊢
  have hl : lv_has ls 4 [(0, .ref a), (1, .int (I i)), (2, .int (I w)), (3, .int (I j))] := hl
  obtain ⟨a10, ea10, ra10, la10, ua10⟩ := hO.gi h_a (by decide) k12_1
  refine lv_aload_n hx hb dX10_told_0 rfl (lv_at hl 0 rfl) ?_
  refine lv_iload_n hx hb dX10_told_1 rfl (lv_at hl 1 rfl) ?_
  obtain ⟨_, hc_1⟩ := hO.cell h_a (by decide) (ci := 10) rfl
  refine th_xcallv (vx_runV (As := [.int (I i)]) (rest := []) ⟨hx, hb, hml, hown, hts⟩ (x_must l hl0 G y b0 σ E hO a h_a i (show rng i from ri)) (cwV 1 hts gX10_told_X10_mustBeThere rfl rfl rfl (by decide +kernel) ⟨Nat.le_of_ble_eq_true rfl, Nat.le_of_ble_eq_true rfl⟩) (th_PXV hK hXs hS hH rfl hc_1) rfl rfl hl.1 rfl (lv_room (Nat.le_of_ble_eq_true rfl)) dX10_told_2 ⟨Nat.le_of_ble_eq_true rfl, Nat.le_of_ble_eq_true rfl⟩) hS (fun X9 ce9 q9 σ_s_3 H locs hx_4 hH hS h1 h2 h3 => ?_) (fun σ_s_3 H locs hw_2 hH hS => ?_)
  · obtain ⟨hO9, hF9, hx_4⟩ := hx_4
    have hx_4 : X9 = nq_NSE ∧ True := hx_4
    have e_5 : gI σ_s_3 a 1 = a10 := (fr.ki hO hF9 h_a (by decide) (by decide) _).trans ea10
    replace hO := hO9
    replace hF := hF.tu hF9 (by decide)
    exact th_xout htab hlocks hS hH ⟨hO, hF, ⟨hx_4.1, by omega⟩⟩ h1 h2 h3 (Nat.le_of_ble_eq_true rfl) (Nat.le_of_ble_eq_true rfl)
  · obtain ⟨hO9, hF9, hw_2⟩ := hw_2
    have e_6 : gI σ_s_3 a 1 = a10 := (fr.ki hO hF9 h_a (by decide) (by decide) _).trans ea10
    replace hO := hO9
    replace hF := hF.tu hF9 (by decide)
    have hw_2 : 0 ≤ i ∧ i ≤ 59 := hw_2
    refine lv_aload_n hx hb dX10_told_5 rfl (lv_at hl 0 rfl) ?_
    have hp_7 : kd E (ad E a 15) = 8 := ok.pk hO h_a (by decide) k12_15 rfl
    refine ok.getR hO h_a (by decide) k12_15 (by decide) (fun _ _ he hv kk => th_get (ci := 10) (C := RX10) (T := TX10) (N := 18) hx hb hts inX10 hown hK hH he rfl 15 (by decide) fl0 hv dX10_told_6 kk) ?_
    obtain ⟨_, hc_8⟩ := hO.cell hp_7 (by decide) (ci := 7) rfl
    refine th_callv (va_runV (As := []) (rest := []) ⟨hx, hb, hml, hown, hts⟩ (o_clear l G y b0 σ_s_3 E hO (ad E a 15) hp_7) (cwV 0 hts gX10_told_X7_clear rfl rfl rfl (by decide +kernel) ⟨Nat.le_of_ble_eq_true rfl, Nat.le_of_ble_eq_true rfl⟩) (th_PV hK hH rfl hc_8) rfl rfl hl.1 rfl (lv_room (Nat.le_of_ble_eq_true rfl)) dX10_told_9 ⟨Nat.le_of_ble_eq_true rfl, Nat.le_of_ble_eq_true rfl⟩) hS (fun σ_s_10 H locs hw_9 hH hS => ?_)
    obtain ⟨hO9, hF9, hw_9⟩ := hw_9
    have e_11 : gI σ_s_10 a 1 = a10 := (fr.ki hO hF9 h_a (by decide) (by decide) _).trans e_6
    replace hO := hO9
    replace hF := hF.tu hF9 (by decide)
    refine lv_iload_n hx hb dX10_told_12 rfl (lv_at hl 2 rfl) ?_
    refine lv_if_eq (tgt := 34) hx hb dX10_told_13 (by decide) (fun c_12 => ?_) (fun c_12 => ?_)
    · replace c_12 := (I_eq (a := w) (b := 0) rw (show rng 0 from ⟨by decide, by decide⟩)).mp c_12
      refine lv_aload_n hx hb dX10_told_34 rfl (lv_at hl 0 rfl) ?_
      refine ok.getR hO h_a (by decide) k12_15 (by decide) (fun _ _ he hv kk => th_get (ci := 10) (C := RX10) (T := TX10) (N := 18) hx hb hts inX10 hown hK hH he rfl 15 (by decide) fl0 hv dX10_told_35 kk) ?_
      refine lv_aload_n hx hb dX10_told_38 rfl (lv_at hl 0 rfl) ?_
      have hp_13 : kd E (ad E a 9) = 5 := ok.pk hO h_a (by decide) k12_9 rfl
      refine ok.getR hO h_a (by decide) k12_9 (by decide) (fun _ _ he hv kk => th_get (ci := 10) (C := RX10) (T := TX10) (N := 18) hx hb hts inX10 hown hK hH he rfl 9 (by decide) fl1 hv dX10_told_39 kk) ?_
      have hp_14 : kd E (ad E (ad E a 9) 0) = 1 := ok.pk hO hp_13 (by decide) k5_0 rfl
      refine ok.getR hO hp_13 (by decide) k5_0 (by decide) (fun _ _ he hv kk => th_getN (ci := 6) (C := RX6) (T := TX6) (N := 7) hx hb hts inX6 hown hK hH he rfl 0 (by decide) (nl_13 hK) hv dX10_told_42 kk) ?_
      refine lv_iload_n hx hb dX10_told_45 rfl (lv_at hl 1 rfl) ?_
      refine lv_iconst (v := I 0) hx hb dX10_told_46 (by decide) ?_
      obtain ⟨_, hc_15⟩ := hO.cell hp_7 (by decide) (ci := 7) rfl
      refine th_callv (va_runV (As := [.ref (ad E (ad E a 9) 0), .int (I i), .int (I 0)]) (rest := []) ⟨hx, hb, hml, hown, hts⟩ (o_thing 18 l G y b0 σ_s_10 E hO (ad E a 15) hp_7 (ad E (ad E a 9) 0) hp_14 i (show rng i from ri) 0 (show rng 0 from (show rng 0 from ⟨by decide, by decide⟩)) (by omega) (by omega) (by omega)) (cwV 3 hts gX10_told_X7_writeThing rfl rfl rfl (by decide +kernel) ⟨Nat.le_of_ble_eq_true rfl, Nat.le_of_ble_eq_true rfl⟩) (th_PV hK hH rfl hc_15) rfl rfl hl.1 rfl (lv_room (Nat.le_of_ble_eq_true rfl)) dX10_told_47 ⟨Nat.le_of_ble_eq_true rfl, Nat.le_of_ble_eq_true rfl⟩) hS (fun σ_s_17 H locs hw_16 hH hS => ?_)
      obtain ⟨hO9, hF9, hw_16⟩ := hw_16
      have e_18 : gI σ_s_17 a 1 = a10 := (fr.ki hO hF9 h_a (by decide) (by decide) _).trans e_11
      replace hO := hO9
      replace hF := hF.tu hF9 (by decide)
      refine lv_aload_n hx hb dX10_told_50 rfl (lv_at hl 0 rfl) ?_
      refine lv_iload_n hx hb dX10_told_51 rfl (lv_at hl 3 rfl) ?_
      obtain ⟨_, hc_19⟩ := hO.cell h_a (by decide) (ci := 10) rfl
      refine th_xcalli (vx_runV (As := [.int (I j)]) (rest := []) ⟨hx, hb, hml, hown, hts⟩ (x_ofText l hl0 G y b0 σ_s_17 E hO a h_a j (show rng j from rj)) (cwV 1 hts gX10_told_X10_ofText rfl rfl rfl (by decide +kernel) ⟨Nat.le_of_ble_eq_true rfl, Nat.le_of_ble_eq_true rfl⟩) (th_PXV hK hXs hS hH rfl hc_19) rfl rfl hl.1 rfl (lv_room (Nat.le_of_ble_eq_true rfl)) dX10_told_52 ⟨Nat.le_of_ble_eq_true rfl, Nat.le_of_ble_eq_true rfl⟩) hS (fun X9 ce9 q9 σ_s_21 H locs hx_22 hH hS h1 h2 h3 => ?_) (fun Z_hw_20 σ_s_21 H locs rZ_hw_20 hw_20 hH hS => ?_)
      · obtain ⟨hO9, hF9, hx_22⟩ := hx_22
        have hx_22 : X9 = nq_NSE ∧ True := hx_22
        have e_23 : gI σ_s_21 a 1 = a10 := (fr.ki hO hF9 h_a (by decide) (by decide) _).trans e_18
        replace hO := hO9
        replace hF := hF.tu hF9 (by decide)
        exact th_xout htab hlocks hS hH ⟨hO, hF, ⟨hx_22.1, by omega⟩⟩ h1 h2 h3 (Nat.le_of_ble_eq_true rfl) (Nat.le_of_ble_eq_true rfl)
      · obtain ⟨hO9, hF9, hw_20⟩ := hw_20
        have e_24 : gI σ_s_21 a 1 = a10 := (fr.ki hO hF9 h_a (by decide) (by decide) _).trans e_18
        replace hO := hO9
        replace hF := hF.tu hF9 (by decide)
        refine vx_ret ?_
        exact th_iret hx hb hr hlocks hH hS (z := Z_hw_20) rZ_hw_20 ⟨hO, hF, by omega⟩ dX10_told_55
    · replace c_12 := mt (I_eq (a := w) (b := 0) rw (show rng 0 from ⟨by decide, by decide⟩)).mpr c_12
      refine lv_aload_n hx hb dX10_told_16 rfl (lv_at hl 0 rfl) ?_
      refine ok.getR hO h_a (by decide) k12_15 (by decide) (fun _ _ he hv kk => th_get (ci := 10) (C := RX10) (T := TX10) (N := 18) hx hb hts inX10 hown hK hH he rfl 15 (by decide) fl0 hv dX10_told_17 kk) ?_
      refine lv_aload_n hx hb dX10_told_20 rfl (lv_at hl 0 rfl) ?_
      have hp_25 : kd E (ad E a 9) = 5 := ok.pk hO h_a (by decide) k12_9 rfl
      refine ok.getR hO h_a (by decide) k12_9 (by decide) (fun _ _ he hv kk => th_get (ci := 10) (C := RX10) (T := TX10) (N := 18) hx hb hts inX10 hown hK hH he rfl 9 (by decide) fl1 hv dX10_told_21 kk) ?_
      have hp_26 : kd E (ad E (ad E a 9) 0) = 1 := ok.pk hO hp_25 (by decide) k5_0 rfl
      refine ok.getR hO hp_25 (by decide) k5_0 (by decide) (fun _ _ he hv kk => th_getN (ci := 6) (C := RX6) (T := TX6) (N := 7) hx hb hts inX6 hown hK hH he rfl 0 (by decide) (nl_13 hK) hv dX10_told_24 kk) ?_
      refine lv_iload_n hx hb dX10_told_27 rfl (lv_at hl 1 rfl) ?_
      obtain ⟨_, hc_27⟩ := hO.cell hp_7 (by decide) (ci := 7) rfl
      refine th_callv (va_runV (As := [.ref (ad E (ad E a 9) 0), .int (I i)]) (rest := []) ⟨hx, hb, hml, hown, hts⟩ (o_path l G y b0 σ_s_10 E hO (ad E a 15) hp_7 (ad E (ad E a 9) 0) hp_26 i (show rng i from ri)) (cwV 2 hts gX10_told_X7_writePath rfl rfl rfl (by decide +kernel) ⟨Nat.le_of_ble_eq_true rfl, Nat.le_of_ble_eq_true rfl⟩) (th_PV hK hH rfl hc_27) rfl rfl hl.1 rfl (lv_room (Nat.le_of_ble_eq_true rfl)) dX10_told_28 ⟨Nat.le_of_ble_eq_true rfl, Nat.le_of_ble_eq_true rfl⟩) hS (fun σ_s_29 H locs hw_28 hH hS => ?_)
      obtain ⟨hO9, hF9, hw_28⟩ := hw_28
      have e_30 : gI σ_s_29 a 1 = a10 := (fr.ki hO hF9 h_a (by decide) (by decide) _).trans e_11
      replace hO := hO9
      replace hF := hF.tu hF9 (by decide)
      refine lv_goto (tgt := 50) hx hb dX10_told_31 (by decide) ?_
      refine lv_aload_n hx hb dX10_told_50 rfl (lv_at hl 0 rfl) ?_
      refine lv_iload_n hx hb dX10_told_51 rfl (lv_at hl 3 rfl) ?_
      obtain ⟨_, hc_31⟩ := hO.cell h_a (by decide) (ci := 10) rfl
      refine th_xcalli (vx_runV (As := [.int (I j)]) (rest := []) ⟨hx, hb, hml, hown, hts⟩ (x_ofText l hl0 G y b0 σ_s_29 E hO a h_a j (show rng j from rj)) (cwV 1 hts gX10_told_X10_ofText rfl rfl rfl (by decide +kernel) ⟨Nat.le_of_ble_eq_true rfl, Nat.le_of_ble_eq_true rfl⟩) (th_PXV hK hXs hS hH rfl hc_31) rfl rfl hl.1 rfl (lv_room (Nat.le_of_ble_eq_true rfl)) dX10_told_52 ⟨Nat.le_of_ble_eq_true rfl, Nat.le_of_ble_eq_true rfl⟩) hS (fun X9 ce9 q9 σ_s_33 H locs hx_34 hH hS h1 h2 h3 => ?_) (fun Z_hw_32 σ_s_33 H locs rZ_hw_32 hw_32 hH hS => ?_)
      · obtain ⟨hO9, hF9, hx_34⟩ := hx_34
        have hx_34 : X9 = nq_NSE ∧ True := hx_34
        have e_35 : gI σ_s_33 a 1 = a10 := (fr.ki hO hF9 h_a (by decide) (by decide) _).trans e_30
        replace hO := hO9
        replace hF := hF.tu hF9 (by decide)
        exact th_xout htab hlocks hS hH ⟨hO, hF, ⟨hx_34.1, by omega⟩⟩ h1 h2 h3 (Nat.le_of_ble_eq_true rfl) (Nat.le_of_ble_eq_true rfl)
      · obtain ⟨hO9, hF9, hw_32⟩ := hw_32
        have e_36 : gI σ_s_33 a 1 = a10 := (fr.ki hO hF9 h_a (by decide) (by decide) _).trans e_30
        replace hO := hO9
        replace hF := hF.tu hF9 (by decide)
        refine vx_ret ?_
        exact th_iret hx hb hr hlocks hH hS (z := Z_hw_32) rZ_hw_32 ⟨hO, hF, by omega⟩ dX10_told_55

set_option maxHeartbeats 1000000 in
set_option maxRecDepth 100000 in
theorem x_alike (l : Launch) (hl0 : l.stackTraces = false) (G : va_G) (y : Nat → ClassId) (b0 : Nat) (σ : th_M) (E : th_E) (hO : ok y E σ) (a : Nat) (h_a : kd E a = 12) (i : Int) (ri : rng i) (j : Int) (rj : rng j) : vx_Met l yX10_alike wsX10_alike ({ frames := 61, cells := 2, slots := 12, locals := 1314 }) (th_PX G y b0 σ [.ref a, .int (I i), .int (I j)]) (th_Qi G b0 (fun r σ1 => ok y E σ1 ∧ fr [] E σ σ1 ∧ (gI σ1 a 1 = gI σ a 1))) (th_XX G b0 (fun X σ1 => ok y E σ1 ∧ fr [] E σ σ1 ∧ (X = nq_NSE ∧ gI σ1 a 1 = gI σ a 1))) 2 12 (th_A b0) := by
  refine vx_ofW (cc := cX10_alike) (maxL := 3) (ret := (some .int)) (by decide) rfl ?_
  intro p e s m args below meth c s₁ B hml htab hv
  obtain ⟨rfl, hH, hK, hXs⟩ := hv
  have hx := B.exec
  have hb := B.bytes
  have hr := B.returns
  have hts := atoms_spec (ws := wsX10_alike) B.pre
  have hown : s.vm.findClass RX10 = some m.cls := findClass_of_methodNamed B.named
  have hlocks := B.notSynchronized
  have h00 : b0 ≤ s.heap.size := hH.1
  have hS : va_S (th_A b0) s.heap s.heap [] := va_S.rf
  have hF : fr [] E σ σ := fr.rf
  have inX10 : ∀ w ∈ wsX100, w ∈ wsX10_alike := by decide +kernel
  have inX6 : ∀ w ∈ wsX60, w ∈ wsX10_alike := by decide +kernel
  have fl0 := hts (.fieldLink RX10 63 "NestQuery" "now" "LNestQuery$State;") (by decide +kernel)
  have hl := lv_entry ([.ref a, .int (I i), .int (I j)]) (n := 3) (Nat.le_of_ble_eq_true rfl)
  rw [lg_entry_eq]
  generalize (lg_sl ([.ref a, .int (I i), .int (I j)]) ++ List.replicate (3 - (lg_sl ([.ref a, .int (I i), .int (I j)])).length) Slot.unset).toArray = ls at hl ⊢
  have hl : lv_has ls 3 [(0, .ref a), (1, .int (I i)), (2, .int (I j))] := hl
  obtain ⟨a10, ea10, ra10, la10, ua10⟩ := hO.gi h_a (by decide) k12_1
  refine lv_aload_n hx hb dX10_alike_0 rfl (lv_at hl 0 rfl) ?_
  refine lv_iload_n hx hb dX10_alike_1 rfl (lv_at hl 1 rfl) ?_
  obtain ⟨_, hc_1⟩ := hO.cell h_a (by decide) (ci := 10) rfl
  refine th_xcallv (vx_runV (As := [.int (I i)]) (rest := []) ⟨hx, hb, hml, hown, hts⟩ (x_must l hl0 G y b0 σ E hO a h_a i (show rng i from ri)) (cwV 1 hts gX10_alike_X10_mustBeThere rfl rfl rfl (by decide +kernel) ⟨Nat.le_of_ble_eq_true rfl, Nat.le_of_ble_eq_true rfl⟩) (th_PXV hK hXs hS hH rfl hc_1) rfl rfl hl.1 rfl (lv_room (Nat.le_of_ble_eq_true rfl)) dX10_alike_2 ⟨Nat.le_of_ble_eq_true rfl, Nat.le_of_ble_eq_true rfl⟩) hS (fun X9 ce9 q9 σ_s_3 H locs hx_4 hH hS h1 h2 h3 => ?_) (fun σ_s_3 H locs hw_2 hH hS => ?_)
  · obtain ⟨hO9, hF9, hx_4⟩ := hx_4
    have hx_4 : X9 = nq_NSE ∧ True := hx_4
    have e_5 : gI σ_s_3 a 1 = a10 := (fr.ki hO hF9 h_a (by decide) (by decide) _).trans ea10
    replace hO := hO9
    replace hF := hF.tu hF9 (by decide)
    exact th_xout htab hlocks hS hH ⟨hO, hF, ⟨hx_4.1, by omega⟩⟩ h1 h2 h3 (Nat.le_of_ble_eq_true rfl) (Nat.le_of_ble_eq_true rfl)
  · obtain ⟨hO9, hF9, hw_2⟩ := hw_2
    have e_6 : gI σ_s_3 a 1 = a10 := (fr.ki hO hF9 h_a (by decide) (by decide) _).trans ea10
    replace hO := hO9
    replace hF := hF.tu hF9 (by decide)
    have hw_2 : 0 ≤ i ∧ i ≤ 59 := hw_2
    refine lv_aload_n hx hb dX10_alike_5 rfl (lv_at hl 0 rfl) ?_
    refine lv_iload_n hx hb dX10_alike_6 rfl (lv_at hl 2 rfl) ?_
    obtain ⟨_, hc_7⟩ := hO.cell h_a (by decide) (ci := 10) rfl
    refine th_xcallv (vx_runV (As := [.int (I j)]) (rest := []) ⟨hx, hb, hml, hown, hts⟩ (x_must l hl0 G y b0 σ_s_3 E hO a h_a j (show rng j from rj)) (cwV 1 hts gX10_alike_X10_mustBeThere rfl rfl rfl (by decide +kernel) ⟨Nat.le_of_ble_eq_true rfl, Nat.le_of_ble_eq_true rfl⟩) (th_PXV hK hXs hS hH rfl hc_7) rfl rfl hl.1 rfl (lv_room (Nat.le_of_ble_eq_true rfl)) dX10_alike_7 ⟨Nat.le_of_ble_eq_true rfl, Nat.le_of_ble_eq_true rfl⟩) hS (fun X9 ce9 q9 σ_s_9 H locs hx_10 hH hS h1 h2 h3 => ?_) (fun σ_s_9 H locs hw_8 hH hS => ?_)
    · obtain ⟨hO9, hF9, hx_10⟩ := hx_10
      have hx_10 : X9 = nq_NSE ∧ True := hx_10
      have e_11 : gI σ_s_9 a 1 = a10 := (fr.ki hO hF9 h_a (by decide) (by decide) _).trans e_6
      replace hO := hO9
      replace hF := hF.tu hF9 (by decide)
      exact th_xout htab hlocks hS hH ⟨hO, hF, ⟨hx_10.1, by omega⟩⟩ h1 h2 h3 (Nat.le_of_ble_eq_true rfl) (Nat.le_of_ble_eq_true rfl)
    · obtain ⟨hO9, hF9, hw_8⟩ := hw_8
      have e_12 : gI σ_s_9 a 1 = a10 := (fr.ki hO hF9 h_a (by decide) (by decide) _).trans e_6
      replace hO := hO9
      replace hF := hF.tu hF9 (by decide)
      have hw_8 : 0 ≤ j ∧ j ≤ 59 := hw_8
      refine lv_aload_n hx hb dX10_alike_10 rfl (lv_at hl 0 rfl) ?_
      have hp_13 : kd E (ad E a 9) = 5 := ok.pk hO h_a (by decide) k12_9 rfl
      refine ok.getR hO h_a (by decide) k12_9 (by decide) (fun _ _ he hv kk => th_get (ci := 10) (C := RX10) (T := TX10) (N := 18) hx hb hts inX10 hown hK hH he rfl 9 (by decide) fl0 hv dX10_alike_11 kk) ?_
      have hp_14 : kd E (ad E (ad E a 9) 0) = 1 := ok.pk hO hp_13 (by decide) k5_0 rfl
      refine ok.getR hO hp_13 (by decide) k5_0 (by decide) (fun _ _ he hv kk => th_getN (ci := 6) (C := RX6) (T := TX6) (N := 7) hx hb hts inX6 hown hK hH he rfl 0 (by decide) (nl_13 hK) hv dX10_alike_14 kk) ?_
      refine lv_iload_n hx hb dX10_alike_17 rfl (lv_at hl 1 rfl) ?_
      refine lv_aload_n hx hb dX10_alike_18 rfl (lv_at hl 0 rfl) ?_
      refine ok.getR hO h_a (by decide) k12_9 (by decide) (fun _ _ he hv kk => th_get (ci := 10) (C := RX10) (T := TX10) (N := 18) hx hb hts inX10 hown hK hH he rfl 9 (by decide) fl0 hv dX10_alike_19 kk) ?_
      refine ok.getR hO hp_13 (by decide) k5_0 (by decide) (fun _ _ he hv kk => th_getN (ci := 6) (C := RX6) (T := TX6) (N := 7) hx hb hts inX6 hown hK hH he rfl 0 (by decide) (nl_13 hK) hv dX10_alike_22 kk) ?_
      refine lv_iload_n hx hb dX10_alike_25 rfl (lv_at hl 2 rfl) ?_
      refine lv_iconst (v := I 0) hx hb dX10_alike_26 (by decide) ?_
      obtain ⟨_, hc_15⟩ := hO.cell hp_14 (by decide) (ci := 9) rfl
      refine th_calli (va_runV (As := [.int (I i), .ref (ad E (ad E a 9) 0), .int (I j), .int (I 0)]) (rest := []) ⟨hx, hb, hml, hown, hts⟩ (t11_like 18 l G y b0 σ_s_9 E hO (ad E (ad E a 9) 0) hp_14 i (show rng i from ri) (ad E (ad E a 9) 0) hp_14 j (show rng j from rj) 0 (show rng 0 from (show rng 0 from ⟨by decide, by decide⟩)) (by omega) (by omega) (by omega)) (cwV 4 hts gX10_alike_X9_like rfl rfl rfl (by decide +kernel) ⟨Nat.le_of_ble_eq_true rfl, Nat.le_of_ble_eq_true rfl⟩) (th_PV hK hH rfl hc_15) rfl rfl hl.1 rfl (lv_room (Nat.le_of_ble_eq_true rfl)) dX10_alike_27 ⟨Nat.le_of_ble_eq_true rfl, Nat.le_of_ble_eq_true rfl⟩) hS (fun z_18 σ_s_17 H locs rz_18 hw_16 hH hS => ?_)
      obtain ⟨e9, bhw_16, hw_16⟩ := hw_16
      replace e9 := e9.symm
      subst e9
      refine lv_if_eq (tgt := 37) hx hb dX10_alike_30 (by decide) (fun c_19 => ?_) (fun c_19 => ?_)
      · replace c_19 := (I_eq (a := z_18) (b := 0) rz_18 (show rng 0 from ⟨by decide, by decide⟩)).mp c_19
        refine lv_iconst (v := I 0) hx hb dX10_alike_37 (by decide) ?_
        refine vx_ret ?_
        exact th_iret hx hb hr hlocks hH hS (z := 0) (show rng 0 from ⟨by decide, by decide⟩) ⟨hO, hF, by omega⟩ dX10_alike_38
      · replace c_19 := mt (I_eq (a := z_18) (b := 0) rz_18 (show rng 0 from ⟨by decide, by decide⟩)).mpr c_19
        refine lv_iconst (v := I 1) hx hb dX10_alike_33 (by decide) ?_
        refine lv_goto (tgt := 38) hx hb dX10_alike_34 (by decide) ?_
        refine vx_ret ?_
        exact th_iret hx hb hr hlocks hH hS (z := 1) (show rng 1 from ⟨by decide, by decide⟩) ⟨hO, hF, by omega⟩ dX10_alike_38

set_option maxHeartbeats 1000000 in
set_option maxRecDepth 100000 in
theorem x_answer (l : Launch) (hl0 : l.stackTraces = false) (G : va_G) (y : Nat → ClassId) (b0 : Nat) (σ : th_M) (E : th_E) (hO : ok y E σ) (a : Nat) (h_a : kd E a = 12) (i : Int) (ri : rng i) (j : Int) (rj : rng j) : vx_Met l yX10_answer wsX10_answer ({ frames := 6, cells := 1, slots := 6, locals := 159 }) (th_PX G y b0 σ [.ref a, .int (I i), .int (I j)]) (th_Qi G b0 (fun r σ1 => ok y E σ1 ∧ fr [] E σ σ1 ∧ (gI σ1 a 1 = gI σ a 1))) (th_XX G b0 (fun X σ1 => ok y E σ1 ∧ fr [] E σ σ1 ∧ (X = nq_NSE ∧ gI σ1 a 1 = gI σ a 1))) 1 6 (th_A b0) := by
  refine vx_ofW (cc := cX10_answer) (maxL := 7) (ret := (some .int)) (by decide) rfl ?_
  intro p e s m args below meth c s₁ B hml htab hv
  obtain ⟨rfl, hH, hK, hXs⟩ := hv
  have hx := B.exec
  have hb := B.bytes
  have hr := B.returns
  have hts := atoms_spec (ws := wsX10_answer) B.pre
  have hown : s.vm.findClass RX10 = some m.cls := findClass_of_methodNamed B.named
  have hlocks := B.notSynchronized
  have h00 : b0 ≤ s.heap.size := hH.1
  have hS : va_S (th_A b0) s.heap s.heap [] := va_S.rf
  have hF : fr [] E σ σ := fr.rf
  have inX10 : ∀ w ∈ wsX100, w ∈ wsX10_answer := by decide +kernel
  have inX6 : ∀ w ∈ wsX60, w ∈ wsX10_answer := by decide +kernel
  have fl0 := hts (.fieldLink RX10 63 "NestQuery" "now" "LNestQuery$State;") (by decide +kernel)
  have hl := lv_entry ([.ref a, .int (I i), .int (I j)]) (n := 7) (Nat.le_of_ble_eq_true rfl)
  rw [lg_entry_eq]
  generalize (lg_sl ([.ref a, .int (I i), .int (I j)]) ++ List.replicate (7 - (lg_sl ([.ref a, .int (I i), .int (I j)])).length) Slot.unset).toArray = ls at hl ⊢
  have hl : lv_has ls 7 [(0, .ref a), (1, .int (I i)), (2, .int (I j))] := hl
  obtain ⟨a10, ea10, ra10, la10, ua10⟩ := hO.gi h_a (by decide) k12_1
  refine lv_aload_n hx hb dX10_answer_0 rfl (lv_at hl 0 rfl) ?_
  refine lv_iload_n hx hb dX10_answer_1 rfl (lv_at hl 1 rfl) ?_
  obtain ⟨_, hc_1⟩ := hO.cell h_a (by decide) (ci := 10) rfl
  refine th_callq (va_runV (As := [.int (I i)]) (rest := []) ⟨hx, hb, hml, hown, hts⟩ (q_pathAt l G y b0 σ E hO a h_a i (show rng i from ri)) (cwV 1 hts gX10_answer_X10_pathAt rfl rfl rfl (by decide +kernel) ⟨Nat.le_of_ble_eq_true rfl, Nat.le_of_ble_eq_true rfl⟩) (th_PV hK hH rfl hc_1) rfl rfl hl.1 rfl (lv_room (Nat.le_of_ble_eq_true rfl)) dX10_answer_2 ⟨Nat.le_of_ble_eq_true rfl, Nat.le_of_ble_eq_true rfl⟩) hS (fun x_4 σ_s_3 H locs hw_2 hH hS => ?_)
  obtain ⟨e9, khw_2, hw_2⟩ := hw_2
  replace e9 := e9.symm
  subst e9
  cases x_4 with
  | none =>
    refine lv_astore_nN (lv' := [(3, .null), (0, .ref a), (1, .int (I i)), (2, .int (I j))]) hx hb dX10_answer_5 rfl hl (by decide) rfl (fun ls hl => ?_)
    refine lv_aload_nN hx hb dX10_answer_6 rfl (lv_at hl 0 rfl) ?_
    refine lv_ifnonnullN hx hb dX10_answer_7 ?_
    exact th_throwNW (text := "no such path is there") hx hb hl0 hown hts (by first | exact fun w h => List.mem_cons_of_mem _ (List.mem_append_right _ h) | exact fun w h => List.mem_cons_of_mem _ (List.mem_append_left _ (List.mem_append_right _ h)) | decide +kernel) (by decide +kernel) (by decide +kernel) hXs hS hH (hl.1.trans hml.symm) htab hlocks (List.mem_of_getElem? (i := 7) rfl) dX10_answer_10 dX10_answer_13 dX10_answer_14 dX10_answer_17 dX10_answer_20 (Nat.le_of_ble_eq_true rfl) (Nat.le_of_ble_eq_true rfl) (Nat.le_of_ble_eq_true rfl) (Nat.le_of_ble_eq_true rfl) ⟨hO, hF, ⟨rfl, by omega⟩⟩ (Nat.le_of_ble_eq_true rfl) (Nat.le_of_ble_eq_true rfl)
  | some b_5 =>
    have hb_6 : kd E b_5 = 4 := khw_2 b_5 rfl
    refine lv_astore_n (lv' := [(3, .ref b_5), (0, .ref a), (1, .int (I i)), (2, .int (I j))]) hx hb dX10_answer_5 rfl hl (by decide) rfl (fun ls hl => ?_)
    refine lv_aload_n hx hb dX10_answer_6 rfl (lv_at hl 0 rfl) ?_
    refine lv_ifnonnull (tgt := 21) hx hb dX10_answer_7 (by decide) ?_
    refine lv_aload_n hx hb dX10_answer_21 rfl (lv_at hl 0 rfl) ?_
    refine lv_aload_n hx hb dX10_answer_22 rfl (lv_at hl 1 rfl) ?_
    have hp_7 : kd E (ad E a 9) = 5 := ok.pk hO h_a (by decide) k12_9 rfl
    refine ok.getR hO h_a (by decide) k12_9 (by decide) (fun _ _ he hv kk => th_get (ci := 10) (C := RX10) (T := TX10) (N := 18) hx hb hts inX10 hown hK hH he rfl 9 (by decide) fl0 hv dX10_answer_23 kk) ?_
    have hp_8 : kd E (ad E (ad E a 9) 0) = 1 := ok.pk hO hp_7 (by decide) k5_0 rfl
    refine ok.getR hO hp_7 (by decide) k5_0 (by decide) (fun _ _ he hv kk => th_getN (ci := 6) (C := RX6) (T := TX6) (N := 7) hx hb hts inX6 hown hK hH he rfl 0 (by decide) (nl_13 hK) hv dX10_answer_26 kk) ?_
    refine lv_bipush (v := I 8) hx hb dX10_answer_29 (by decide) ?_
    obtain ⟨_, hc_9⟩ := hO.cell hb_6 (by decide) (ci := 4) rfl
    refine th_calll (va_runV (As := [.ref (ad E (ad E a 9) 0), .int (I 8)]) (rest := []) ⟨hx, hb, hml, hown, hts⟩ (p_answersIn l G y b0 σ E hO b_5 hb_6 (ad E (ad E a 9) 0) hp_8 8 (show rng 8 from (show rng 8 from ⟨by decide, by decide⟩))) (cwV 2 hts gX10_answer_X4_answersIn rfl rfl rfl (by decide +kernel) ⟨Nat.le_of_ble_eq_true rfl, Nat.le_of_ble_eq_true rfl⟩) (th_PV hK hH rfl hc_9) rfl rfl hl.1 rfl (lv_room (Nat.le_of_ble_eq_true rfl)) dX10_answer_31 ⟨Nat.le_of_ble_eq_true rfl, Nat.le_of_ble_eq_true rfl⟩) hS (fun w_12 σ_s_11 H locs hw_10 hH hS => ?_)
    obtain ⟨e9, hw_10⟩ := hw_10
    replace e9 := e9.symm
    subst e9
    refine lv_lstore (lv' := [(4, .long w_12), (3, .ref b_5), (0, .ref a), (1, .int (I i)), (2, .int (I j))]) hx hb dX10_answer_34 hl (by decide) rfl (fun ls hl => ?_)
    refine lv_iload_n hx hb dX10_answer_36 rfl (lv_at hl 4 rfl) ?_
    refine lv_iconst (v := I (-1)) hx hb dX10_answer_37 (by decide) ?_
    refine lv_icmp_ne (tgt := 47) hx hb dX10_answer_38 (by decide) (fun c_13 => ?_) (fun c_13 => ?_)
    · replace c_13 := mt (I_eq (a := j) (b := (-1)) rj (show rng (-1) from ⟨by decide, by decide⟩)).mpr c_13
      refine lv_lload hx hb dX10_answer_47 (lv_at hl 0 rfl) ?_
      refine lv_iload_n hx hb dX10_answer_49 rfl (lv_at hl 4 rfl) ?_
      refine th_calli (va_runS (As := [.long w_12, .int (I j)]) (rest := []) ⟨hx, hb, hml, hown, hts⟩ (n_nthOf l G y b0 σ E hO w_12 j (show rng j from rj)) (va_cwS 2 hts gX10_answer_X10_nthOf rfl rfl rfl (by decide +kernel) ⟨Nat.le_of_ble_eq_true rfl, Nat.le_of_ble_eq_true rfl⟩) (th_PS hK hH) rfl rfl hl.1 rfl (lv_room (Nat.le_of_ble_eq_true rfl)) dX10_answer_50 ⟨Nat.le_of_ble_eq_true rfl, Nat.le_of_ble_eq_true rfl⟩) hS (fun z_16 σ_s_15 H locs rz_16 hw_14 hH hS => ?_)
      obtain ⟨e9, hw_14⟩ := hw_14
      replace e9 := e9.symm
      subst e9
      refine lv_istore (lv' := [(6, .int (I z_16)), (4, .long w_12), (3, .ref b_5), (0, .ref a), (1, .int (I i)), (2, .int (I j))]) hx hb dX10_answer_53 hl (by decide) rfl (fun ls hl => ?_)
      refine lv_iload hx hb dX10_answer_55 (lv_at hl 0 rfl) ?_
      refine lv_iconst (v := I (-1)) hx hb dX10_answer_57 (by decide) ?_
      refine lv_icmp_ne (tgt := 72) hx hb dX10_answer_58 (by decide) (fun c_17 => ?_) (fun c_17 => ?_)
      · replace c_17 := mt (I_eq (a := z_16) (b := (-1)) rz_16 (show rng (-1) from ⟨by decide, by decide⟩)).mpr c_17
        refine lv_iload hx hb dX10_answer_72 (lv_at hl 0 rfl) ?_
        refine vx_ret ?_
        refine W.widen (k := 1) (n := 6) (Nat.le_of_ble_eq_true rfl) (Nat.le_of_ble_eq_true rfl) ?_
        exact th_iret hx hb hr hlocks hH hS (z := z_16) rz_16 ⟨hO, hF, by omega⟩ dX10_answer_74
      · replace c_17 := (I_eq (a := z_16) (b := (-1)) rz_16 (show rng (-1) from ⟨by decide, by decide⟩)).mp c_17
        exact th_throwNW (text := "no such answer") hx hb hl0 hown hts (by first | exact fun w h => List.mem_cons_of_mem _ (List.mem_append_right _ h) | exact fun w h => List.mem_cons_of_mem _ (List.mem_append_left _ (List.mem_append_right _ h)) | decide +kernel) (by decide +kernel) (by decide +kernel) hXs hS hH (hl.1.trans hml.symm) htab hlocks (List.mem_of_getElem? (i := 8) rfl) dX10_answer_61 dX10_answer_64 dX10_answer_65 dX10_answer_68 dX10_answer_71 (Nat.le_of_ble_eq_true rfl) (Nat.le_of_ble_eq_true rfl) (Nat.le_of_ble_eq_true rfl) (Nat.le_of_ble_eq_true rfl) ⟨hO, hF, ⟨rfl, by omega⟩⟩ (Nat.le_of_ble_eq_true rfl) (Nat.le_of_ble_eq_true rfl)
    · replace c_13 := (I_eq (a := j) (b := (-1)) rj (show rng (-1) from ⟨by decide, by decide⟩)).mp c_13
      refine lv_lload hx hb dX10_answer_41 (lv_at hl 0 rfl) ?_
      refine th_calli (va_runS (As := [.long w_12]) (rest := []) ⟨hx, hb, hml, hown, hts⟩ (j_bitCountL l G y b0 σ E hO w_12) (va_cwS 1 hts gX10_answer_J13_bitCount_95d88 rfl rfl rfl (by decide +kernel) ⟨Nat.le_of_ble_eq_true rfl, Nat.le_of_ble_eq_true rfl⟩) (th_PS hK hH) rfl rfl hl.1 rfl (lv_room (Nat.le_of_ble_eq_true rfl)) dX10_answer_43 ⟨Nat.le_of_ble_eq_true rfl, Nat.le_of_ble_eq_true rfl⟩) hS (fun z_20 σ_s_19 H locs rz_20 hw_18 hH hS => ?_)
      obtain ⟨e9, hw_18⟩ := hw_18
      replace e9 := e9.symm
      subst e9
      refine vx_ret ?_
      refine W.widen (k := 1) (n := 6) (Nat.le_of_ble_eq_true rfl) (Nat.le_of_ble_eq_true rfl) ?_
      exact th_iret hx hb hr hlocks hH hS (z := z_20) rz_20 ⟨hO, hF, by omega⟩ dX10_answer_46

set_option maxHeartbeats 1000000 in
set_option maxRecDepth 100000 in
theorem x_steps (l : Launch) (hl0 : l.stackTraces = false) (G : va_G) (y : Nat → ClassId) (b0 : Nat) (σ : th_M) (E : th_E) (hO : ok y E σ) (a : Nat) (h_a : kd E a = 12) (i : Int) (ri : rng i) (j : Int) (rj : rng j) : vx_Met l yX10_steps wsX10_steps ({ frames := 6, cells := 1, slots := 6, locals := 159 }) (th_PX G y b0 σ [.ref a, .int (I i), .int (I j)]) (th_Qi G b0 (fun r σ1 => ok y E σ1 ∧ fr [] E σ σ1 ∧ (gI σ1 a 1 = gI σ a 1))) (th_XX G b0 (fun X σ1 => ok y E σ1 ∧ fr [] E σ σ1 ∧ (X = nq_NSE ∧ gI σ1 a 1 = gI σ a 1))) 1 6 (th_A b0) := by
  refine vx_ofW (cc := cX10_steps) (maxL := 4) (ret := (some .int)) (by decide) rfl ?_
  intro p e s m args below meth c s₁ B hml htab hv
  obtain ⟨rfl, hH, hK, hXs⟩ := hv
  have hx := B.exec
  have hb := B.bytes
  have hr := B.returns
  have hts := atoms_spec (ws := wsX10_steps) B.pre
  have hown : s.vm.findClass RX10 = some m.cls := findClass_of_methodNamed B.named
  have hlocks := B.notSynchronized
  have h00 : b0 ≤ s.heap.size := hH.1
  have hS : va_S (th_A b0) s.heap s.heap [] := va_S.rf
  have hF : fr [] E σ σ := fr.rf
  have inX10 : ∀ w ∈ wsX100, w ∈ wsX10_steps := by decide +kernel
  have inX4 : ∀ w ∈ wsX40, w ∈ wsX10_steps := by decide +kernel
  have inX6 : ∀ w ∈ wsX60, w ∈ wsX10_steps := by decide +kernel
  have fl0 := hts (.fieldLink RX10 63 "NestQuery" "now" "LNestQuery$State;") (by decide +kernel)
  have hl := lv_entry ([.ref a, .int (I i), .int (I j)]) (n := 4) (Nat.le_of_ble_eq_true rfl)
  rw [lg_entry_eq]
  generalize (lg_sl ([.ref a, .int (I i), .int (I j)]) ++ List.replicate (4 - (lg_sl ([.ref a, .int (I i), .int (I j)])).length) Slot.unset).toArray = ls at hl ⊢
  have hl : lv_has ls 4 [(0, .ref a), (1, .int (I i)), (2, .int (I j))] := hl
  obtain ⟨a10, ea10, ra10, la10, ua10⟩ := hO.gi h_a (by decide) k12_1
  refine lv_aload_n hx hb dX10_steps_0 rfl (lv_at hl 0 rfl) ?_
  refine lv_iload_n hx hb dX10_steps_1 rfl (lv_at hl 1 rfl) ?_
  obtain ⟨_, hc_1⟩ := hO.cell h_a (by decide) (ci := 10) rfl
  refine th_callq (va_runV (As := [.int (I i)]) (rest := []) ⟨hx, hb, hml, hown, hts⟩ (q_pathAt l G y b0 σ E hO a h_a i (show rng i from ri)) (cwV 1 hts gX10_steps_X10_pathAt rfl rfl rfl (by decide +kernel) ⟨Nat.le_of_ble_eq_true rfl, Nat.le_of_ble_eq_true rfl⟩) (th_PV hK hH rfl hc_1) rfl rfl hl.1 rfl (lv_room (Nat.le_of_ble_eq_true rfl)) dX10_steps_2 ⟨Nat.le_of_ble_eq_true rfl, Nat.le_of_ble_eq_true rfl⟩) hS (fun x_4 σ_s_3 H locs hw_2 hH hS => ?_)
  obtain ⟨e9, khw_2, hw_2⟩ := hw_2
  replace e9 := e9.symm
  subst e9
  cases x_4 with
  | none =>
    refine lv_astore_nN (lv' := [(3, .null), (0, .ref a), (1, .int (I i)), (2, .int (I j))]) hx hb dX10_steps_5 rfl hl (by decide) rfl (fun ls hl => ?_)
    refine lv_aload_nN hx hb dX10_steps_6 rfl (lv_at hl 0 rfl) ?_
    refine lv_ifnonnullN hx hb dX10_steps_7 ?_
    exact th_throwNW (text := "no such path is there") hx hb hl0 hown hts (by first | exact fun w h => List.mem_cons_of_mem _ (List.mem_append_right _ h) | exact fun w h => List.mem_cons_of_mem _ (List.mem_append_left _ (List.mem_append_right _ h)) | decide +kernel) (by decide +kernel) (by decide +kernel) hXs hS hH (hl.1.trans hml.symm) htab hlocks (List.mem_of_getElem? (i := 7) rfl) dX10_steps_10 dX10_steps_13 dX10_steps_14 dX10_steps_17 dX10_steps_20 (Nat.le_of_ble_eq_true rfl) (Nat.le_of_ble_eq_true rfl) (Nat.le_of_ble_eq_true rfl) (Nat.le_of_ble_eq_true rfl) ⟨hO, hF, ⟨rfl, by omega⟩⟩ (Nat.le_of_ble_eq_true rfl) (Nat.le_of_ble_eq_true rfl)
  | some b_5 =>
    have hb_6 : kd E b_5 = 4 := khw_2 b_5 rfl
    refine lv_astore_n (lv' := [(3, .ref b_5), (0, .ref a), (1, .int (I i)), (2, .int (I j))]) hx hb dX10_steps_5 rfl hl (by decide) rfl (fun ls hl => ?_)
    refine lv_aload_n hx hb dX10_steps_6 rfl (lv_at hl 0 rfl) ?_
    refine lv_ifnonnull (tgt := 21) hx hb dX10_steps_7 (by decide) ?_
    refine lv_iload_n hx hb dX10_steps_21 rfl (lv_at hl 3 rfl) ?_
    refine lv_iconst (v := I (-1)) hx hb dX10_steps_22 (by decide) ?_
    refine lv_icmp_ne (tgt := 31) hx hb dX10_steps_23 (by decide) (fun c_7 => ?_) (fun c_7 => ?_)
    · replace c_7 := mt (I_eq (a := j) (b := (-1)) rj (show rng (-1) from ⟨by decide, by decide⟩)).mpr c_7
      refine lv_iload_n hx hb dX10_steps_31 rfl (lv_at hl 3 rfl) ?_
      refine lv_if_lt (tgt := 43) hx hb dX10_steps_32 (by decide) (fun c_8 => ?_) (fun c_8 => ?_)
      · replace c_8 := (I_lt (a := j) (b := 0) rj (show rng 0 from ⟨by decide, by decide⟩)).mp c_8
        exact th_throwNW (text := "no such step") hx hb hl0 hown hts (by first | exact fun w h => List.mem_cons_of_mem _ (List.mem_append_right _ h) | exact fun w h => List.mem_cons_of_mem _ (List.mem_append_left _ (List.mem_append_right _ h)) | decide +kernel) (by decide +kernel) (by decide +kernel) hXs hS hH (hl.1.trans hml.symm) htab hlocks (List.mem_of_getElem? (i := 9) rfl) dX10_steps_43 dX10_steps_46 dX10_steps_47 dX10_steps_50 dX10_steps_53 (Nat.le_of_ble_eq_true rfl) (Nat.le_of_ble_eq_true rfl) (Nat.le_of_ble_eq_true rfl) (Nat.le_of_ble_eq_true rfl) ⟨hO, hF, ⟨rfl, by omega⟩⟩ (Nat.le_of_ble_eq_true rfl) (Nat.le_of_ble_eq_true rfl)
      · replace c_8 := mt (I_lt (a := j) (b := 0) rj (show rng 0 from ⟨by decide, by decide⟩)).mpr c_8
        refine lv_iload_n hx hb dX10_steps_35 rfl (lv_at hl 3 rfl) ?_
        refine lv_aload_n hx hb dX10_steps_36 rfl (lv_at hl 0 rfl) ?_
        refine ok.getI hO hb_6 (by decide) k4_3 (fun _ _ he hv kk => th_getN (ci := 4) (C := RX4) (T := TX4) (N := 14) hx hb hts inX4 hown hK hH he rfl 3 (by decide) (nl_1 hK) hv dX10_steps_37 kk) (fun z_9 e_10 rz_9 lz_9 uz_9 => ?_)
        refine lv_icmp_lt (tgt := 54) hx hb dX10_steps_40 (by decide) (fun c_11 => ?_) (fun c_11 => ?_)
        · replace c_11 := (I_lt (a := j) (b := z_9) rj rz_9).mp c_11
          refine lv_aload_n hx hb dX10_steps_54 rfl (lv_at hl 0 rfl) ?_
          refine lv_aload_n hx hb dX10_steps_55 rfl (lv_at hl 1 rfl) ?_
          have hp_12 : kd E (ad E a 9) = 5 := ok.pk hO h_a (by decide) k12_9 rfl
          refine ok.getR hO h_a (by decide) k12_9 (by decide) (fun _ _ he hv kk => th_get (ci := 10) (C := RX10) (T := TX10) (N := 18) hx hb hts inX10 hown hK hH he rfl 9 (by decide) fl0 hv dX10_steps_56 kk) ?_
          have hp_13 : kd E (ad E (ad E a 9) 0) = 1 := ok.pk hO hp_12 (by decide) k5_0 rfl
          refine ok.getR hO hp_12 (by decide) k5_0 (by decide) (fun _ _ he hv kk => th_getN (ci := 6) (C := RX6) (T := TX6) (N := 7) hx hb hts inX6 hown hK hH he rfl 0 (by decide) (nl_13 hK) hv dX10_steps_59 kk) ?_
          refine lv_iload_n hx hb dX10_steps_62 rfl (lv_at hl 3 rfl) ?_
          refine lv_iconst (v := I 1) hx hb dX10_steps_63 (by decide) ?_
          refine lv_iadd hx hb dX10_steps_64 ?_
          refine th_addo (fun z_14 rz_14 hz_14 => ?_)
          obtain ⟨_, hc_15⟩ := hO.cell hb_6 (by decide) (ci := 4) rfl
          refine th_calll (va_runV (As := [.ref (ad E (ad E a 9) 0), .int (I z_14)]) (rest := []) ⟨hx, hb, hml, hown, hts⟩ (p_answersIn l G y b0 σ E hO b_5 hb_6 (ad E (ad E a 9) 0) hp_13 z_14 (show rng z_14 from rz_14)) (cwV 2 hts gX10_steps_X4_answersIn rfl rfl rfl (by decide +kernel) ⟨Nat.le_of_ble_eq_true rfl, Nat.le_of_ble_eq_true rfl⟩) (th_PV hK hH rfl hc_15) rfl rfl hl.1 rfl (lv_room (Nat.le_of_ble_eq_true rfl)) dX10_steps_65 ⟨Nat.le_of_ble_eq_true rfl, Nat.le_of_ble_eq_true rfl⟩) hS (fun w_18 σ_s_17 H locs hw_16 hH hS => ?_)
          obtain ⟨e9, hw_16⟩ := hw_16
          replace e9 := e9.symm
          subst e9
          refine th_calli (va_runS (As := [.long w_18]) (rest := []) ⟨hx, hb, hml, hown, hts⟩ (j_bitCountL l G y b0 σ E hO w_18) (va_cwS 1 hts gX10_steps_J13_bitCount_95d88 rfl rfl rfl (by decide +kernel) ⟨Nat.le_of_ble_eq_true rfl, Nat.le_of_ble_eq_true rfl⟩) (th_PS hK hH) rfl rfl hl.1 rfl (lv_room (Nat.le_of_ble_eq_true rfl)) dX10_steps_68 ⟨Nat.le_of_ble_eq_true rfl, Nat.le_of_ble_eq_true rfl⟩) hS (fun z_21 σ_s_20 H locs rz_21 hw_19 hH hS => ?_)
          obtain ⟨e9, hw_19⟩ := hw_19
          replace e9 := e9.symm
          subst e9
          refine vx_ret ?_
          refine W.widen (k := 1) (n := 6) (Nat.le_of_ble_eq_true rfl) (Nat.le_of_ble_eq_true rfl) ?_
          exact th_iret hx hb hr hlocks hH hS (z := z_21) rz_21 ⟨hO, hF, by omega⟩ dX10_steps_71
        · replace c_11 := mt (I_lt (a := j) (b := z_9) rj rz_9).mpr c_11
          exact th_throwNW (text := "no such step") hx hb hl0 hown hts (by first | exact fun w h => List.mem_cons_of_mem _ (List.mem_append_right _ h) | exact fun w h => List.mem_cons_of_mem _ (List.mem_append_left _ (List.mem_append_right _ h)) | decide +kernel) (by decide +kernel) (by decide +kernel) hXs hS hH (hl.1.trans hml.symm) htab hlocks (List.mem_of_getElem? (i := 9) rfl) dX10_steps_43 dX10_steps_46 dX10_steps_47 dX10_steps_50 dX10_steps_53 (Nat.le_of_ble_eq_true rfl) (Nat.le_of_ble_eq_true rfl) (Nat.le_of_ble_eq_true rfl) (Nat.le_of_ble_eq_true rfl) ⟨hO, hF, ⟨rfl, by omega⟩⟩ (Nat.le_of_ble_eq_true rfl) (Nat.le_of_ble_eq_true rfl)
    · replace c_7 := (I_eq (a := j) (b := (-1)) rj (show rng (-1) from ⟨by decide, by decide⟩)).mp c_7
      refine lv_aload_n hx hb dX10_steps_26 rfl (lv_at hl 0 rfl) ?_
      refine ok.getI hO hb_6 (by decide) k4_3 (fun _ _ he hv kk => th_getN (ci := 4) (C := RX4) (T := TX4) (N := 14) hx hb hts inX4 hown hK hH he rfl 3 (by decide) (nl_1 hK) hv dX10_steps_27 kk) (fun z_22 e_23 rz_22 lz_22 uz_22 => ?_)
      refine vx_ret ?_
      refine W.widen (k := 1) (n := 6) (Nat.le_of_ble_eq_true rfl) (Nat.le_of_ble_eq_true rfl) ?_
      exact th_iret hx hb hr hlocks hH hS (z := z_22) rz_22 ⟨hO, hF, by omega⟩ dX10_steps_30

set_option maxHeartbeats 1000000 in
set_option maxRecDepth 100000 in
theorem x_row (l : Launch) (hl0 : l.stackTraces = false) (G : va_G) (y : Nat → ClassId) (b0 : Nat) (σ : th_M) (E : th_E) (hO : ok y E σ) (a : Nat) (h_a : kd E a = 12) (i : Int) (ri : rng i) (j : Int) (rj : rng j) : vx_Met l yX10_row wsX10_row ({ frames := 6, cells := 1, slots := 6, locals := 100 }) (th_PX G y b0 σ [.ref a, .int (I i), .int (I j)]) (th_Qi G b0 (fun r σ1 => ok y E σ1 ∧ fr [] E σ σ1 ∧ (gI σ1 a 1 = gI σ a 1))) (th_XX G b0 (fun X σ1 => ok y E σ1 ∧ fr [] E σ σ1 ∧ (X = nq_NSE ∧ gI σ1 a 1 = gI σ a 1))) 1 6 (th_A b0) := by
  refine vx_ofW (cc := cX10_row) (maxL := 3) (ret := (some .int)) (by decide) rfl ?_
  intro p e s m args below meth c s₁ B hml htab hv
  obtain ⟨rfl, hH, hK, hXs⟩ := hv
  have hx := B.exec
  have hb := B.bytes
  have hr := B.returns
  have hts := atoms_spec (ws := wsX10_row) B.pre
  have hown : s.vm.findClass RX10 = some m.cls := findClass_of_methodNamed B.named
  have hlocks := B.notSynchronized
  have h00 : b0 ≤ s.heap.size := hH.1
  have hS : va_S (th_A b0) s.heap s.heap [] := va_S.rf
  have hF : fr [] E σ σ := fr.rf
  have inX10 : ∀ w ∈ wsX100, w ∈ wsX10_row := by decide +kernel
  have inX3 : ∀ w ∈ wsX30, w ∈ wsX10_row := by decide +kernel
  have fl0 := hts (.fieldLink RX10 82 "NestQuery" "kept" "LNestQuery$Patch;") (by decide +kernel)
  have hl := lv_entry ([.ref a, .int (I i), .int (I j)]) (n := 3) (Nat.le_of_ble_eq_true rfl)
  rw [lg_entry_eq]
  generalize (lg_sl ([.ref a, .int (I i), .int (I j)]) ++ List.replicate (3 - (lg_sl ([.ref a, .int (I i), .int (I j)])).length) Slot.unset).toArray = ls at hl ⊢
  have hl : lv_has ls 3 [(0, .ref a), (1, .int (I i)), (2, .int (I j))] := hl
  obtain ⟨a10, ea10, ra10, la10, ua10⟩ := hO.gi h_a (by decide) k12_1
  refine lv_iload_n hx hb dX10_row_0 rfl (lv_at hl 1 rfl) ?_
  refine lv_if_lt (tgt := 15) hx hb dX10_row_1 (by decide) (fun c_1 => ?_) (fun c_1 => ?_)
  · replace c_1 := (I_lt (a := i) (b := 0) ri (show rng 0 from ⟨by decide, by decide⟩)).mp c_1
    exact th_throwNW (text := "no such row") hx hb hl0 hown hts (by first | exact fun w h => List.mem_cons_of_mem _ (List.mem_append_right _ h) | exact fun w h => List.mem_cons_of_mem _ (List.mem_append_left _ (List.mem_append_right _ h)) | decide +kernel) (by decide +kernel) (by decide +kernel) hXs hS hH (hl.1.trans hml.symm) htab hlocks (List.mem_of_getElem? (i := 10) rfl) dX10_row_15 dX10_row_18 dX10_row_19 dX10_row_22 dX10_row_25 (Nat.le_of_ble_eq_true rfl) (Nat.le_of_ble_eq_true rfl) (Nat.le_of_ble_eq_true rfl) (Nat.le_of_ble_eq_true rfl) ⟨hO, hF, ⟨rfl, by omega⟩⟩ (Nat.le_of_ble_eq_true rfl) (Nat.le_of_ble_eq_true rfl)
  · replace c_1 := mt (I_lt (a := i) (b := 0) ri (show rng 0 from ⟨by decide, by decide⟩)).mpr c_1
    refine lv_iload_n hx hb dX10_row_4 rfl (lv_at hl 1 rfl) ?_
    refine lv_aload_n hx hb dX10_row_5 rfl (lv_at hl 0 rfl) ?_
    have hp_2 : kd E (ad E a 13) = 7 := ok.pk hO h_a (by decide) k12_13 rfl
    refine ok.getR hO h_a (by decide) k12_13 (by decide) (fun _ _ he hv kk => th_get (ci := 10) (C := RX10) (T := TX10) (N := 18) hx hb hts inX10 hown hK hH he rfl 13 (by decide) fl0 hv dX10_row_6 kk) ?_
    refine ok.getI hO hp_2 (by decide) k7_4 (fun _ _ he hv kk => th_getN (ci := 3) (C := RX3) (T := TX3) (N := 5) hx hb hts inX3 hown hK hH he rfl 4 (by decide) (nl_17 hK) hv dX10_row_9 kk) (fun z_3 e_4 rz_3 lz_3 uz_3 => ?_)
    refine lv_icmp_lt (tgt := 26) hx hb dX10_row_12 (by decide) (fun c_5 => ?_) (fun c_5 => ?_)
    · replace c_5 := (I_lt (a := i) (b := z_3) ri rz_3).mp c_5
      refine lv_iload_n hx hb dX10_row_26 rfl (lv_at hl 2 rfl) ?_
      refine th_case (a := j) (n := 0) (fun c_6_0 => ?_) (fun c_6_0 => ?_)
      · refine th_topeq c_6_0 ?_
        refine lv_tableIn (tgt := 56) hx hb dX10_row_27 (by decide) (by decide) (by rfl) (by decide) ?_
        refine lv_aload_n hx hb dX10_row_56 rfl (lv_at hl 0 rfl) ?_
        refine ok.getR hO h_a (by decide) k12_13 (by decide) (fun _ _ he hv kk => th_get (ci := 10) (C := RX10) (T := TX10) (N := 18) hx hb hts inX10 hown hK hH he rfl 13 (by decide) fl0 hv dX10_row_57 kk) ?_
        refine lv_iload_n hx hb dX10_row_60 rfl (lv_at hl 1 rfl) ?_
        obtain ⟨_, hc_7⟩ := hO.cell hp_2 (by decide) (ci := 3) rfl
        refine th_calli (va_runV (As := [.int (I i)]) (rest := []) ⟨hx, hb, hml, hown, hts⟩ (h_kindOf l G y b0 σ E hO (ad E a 13) hp_2 i (show rng i from ri)) (cwV 1 hts gX10_row_X3_kindOf rfl rfl rfl (by decide +kernel) ⟨Nat.le_of_ble_eq_true rfl, Nat.le_of_ble_eq_true rfl⟩) (th_PV hK hH rfl hc_7) rfl rfl hl.1 rfl (lv_room (Nat.le_of_ble_eq_true rfl)) dX10_row_61 ⟨Nat.le_of_ble_eq_true rfl, Nat.le_of_ble_eq_true rfl⟩) hS (fun z_10 σ_s_9 H locs rz_10 hw_8 hH hS => ?_)
        obtain ⟨e9, hw_8⟩ := hw_8
        replace e9 := e9.symm
        subst e9
        refine vx_ret ?_
        refine W.widen (k := 1) (n := 6) (Nat.le_of_ble_eq_true rfl) (Nat.le_of_ble_eq_true rfl) ?_
        exact th_iret hx hb hr hlocks hH hS (z := z_10) rz_10 ⟨hO, hF, by omega⟩ dX10_row_64
      · refine th_case (a := j) (n := 1) (fun c_6_1 => ?_) (fun c_6_1 => ?_)
        · refine th_topeq c_6_1 ?_
          refine lv_tableIn (tgt := 65) hx hb dX10_row_27 (by decide) (by decide) (by rfl) (by decide) ?_
          refine lv_aload_n hx hb dX10_row_65 rfl (lv_at hl 0 rfl) ?_
          refine ok.getR hO h_a (by decide) k12_13 (by decide) (fun _ _ he hv kk => th_get (ci := 10) (C := RX10) (T := TX10) (N := 18) hx hb hts inX10 hown hK hH he rfl 13 (by decide) fl0 hv dX10_row_66 kk) ?_
          refine lv_iload_n hx hb dX10_row_69 rfl (lv_at hl 1 rfl) ?_
          obtain ⟨_, hc_11⟩ := hO.cell hp_2 (by decide) (ci := 3) rfl
          refine th_calli (va_runV (As := [.int (I i)]) (rest := []) ⟨hx, hb, hml, hown, hts⟩ (h_stepsOf l G y b0 σ E hO (ad E a 13) hp_2 i (show rng i from ri)) (cwV 1 hts gX10_row_X3_stepsOf rfl rfl rfl (by decide +kernel) ⟨Nat.le_of_ble_eq_true rfl, Nat.le_of_ble_eq_true rfl⟩) (th_PV hK hH rfl hc_11) rfl rfl hl.1 rfl (lv_room (Nat.le_of_ble_eq_true rfl)) dX10_row_70 ⟨Nat.le_of_ble_eq_true rfl, Nat.le_of_ble_eq_true rfl⟩) hS (fun z_14 σ_s_13 H locs rz_14 hw_12 hH hS => ?_)
          obtain ⟨e9, hw_12⟩ := hw_12
          replace e9 := e9.symm
          subst e9
          refine vx_ret ?_
          refine W.widen (k := 1) (n := 6) (Nat.le_of_ble_eq_true rfl) (Nat.le_of_ble_eq_true rfl) ?_
          exact th_iret hx hb hr hlocks hH hS (z := z_14) rz_14 ⟨hO, hF, by omega⟩ dX10_row_73
        · refine th_case (a := j) (n := 2) (fun c_6_2 => ?_) (fun c_6_2 => ?_)
          · refine th_topeq c_6_2 ?_
            refine lv_tableIn (tgt := 74) hx hb dX10_row_27 (by decide) (by decide) (by rfl) (by decide) ?_
            refine lv_aload_n hx hb dX10_row_74 rfl (lv_at hl 0 rfl) ?_
            refine ok.getR hO h_a (by decide) k12_13 (by decide) (fun _ _ he hv kk => th_get (ci := 10) (C := RX10) (T := TX10) (N := 18) hx hb hts inX10 hown hK hH he rfl 13 (by decide) fl0 hv dX10_row_75 kk) ?_
            refine lv_iload_n hx hb dX10_row_78 rfl (lv_at hl 1 rfl) ?_
            obtain ⟨_, hc_15⟩ := hO.cell hp_2 (by decide) (ci := 3) rfl
            refine th_calli (va_runV (As := [.int (I i)]) (rest := []) ⟨hx, hb, hml, hown, hts⟩ (h_before l G y b0 σ E hO (ad E a 13) hp_2 i (show rng i from ri)) (cwV 1 hts gX10_row_X3_thingsBefore rfl rfl rfl (by decide +kernel) ⟨Nat.le_of_ble_eq_true rfl, Nat.le_of_ble_eq_true rfl⟩) (th_PV hK hH rfl hc_15) rfl rfl hl.1 rfl (lv_room (Nat.le_of_ble_eq_true rfl)) dX10_row_79 ⟨Nat.le_of_ble_eq_true rfl, Nat.le_of_ble_eq_true rfl⟩) hS (fun z_18 σ_s_17 H locs rz_18 hw_16 hH hS => ?_)
            obtain ⟨e9, hw_16⟩ := hw_16
            replace e9 := e9.symm
            subst e9
            refine vx_ret ?_
            refine W.widen (k := 1) (n := 6) (Nat.le_of_ble_eq_true rfl) (Nat.le_of_ble_eq_true rfl) ?_
            exact th_iret hx hb hr hlocks hH hS (z := z_18) rz_18 ⟨hO, hF, by omega⟩ dX10_row_82
          · refine th_case (a := j) (n := 3) (fun c_6_3 => ?_) (fun c_6_3 => ?_)
            · refine th_topeq c_6_3 ?_
              refine lv_tableIn (tgt := 83) hx hb dX10_row_27 (by decide) (by decide) (by rfl) (by decide) ?_
              refine lv_aload_n hx hb dX10_row_83 rfl (lv_at hl 0 rfl) ?_
              refine ok.getR hO h_a (by decide) k12_13 (by decide) (fun _ _ he hv kk => th_get (ci := 10) (C := RX10) (T := TX10) (N := 18) hx hb hts inX10 hown hK hH he rfl 13 (by decide) fl0 hv dX10_row_84 kk) ?_
              refine lv_iload_n hx hb dX10_row_87 rfl (lv_at hl 1 rfl) ?_
              obtain ⟨_, hc_19⟩ := hO.cell hp_2 (by decide) (ci := 3) rfl
              refine th_calli (va_runV (As := [.int (I i)]) (rest := []) ⟨hx, hb, hml, hown, hts⟩ (h_after l G y b0 σ E hO (ad E a 13) hp_2 i (show rng i from ri)) (cwV 1 hts gX10_row_X3_thingsAfter rfl rfl rfl (by decide +kernel) ⟨Nat.le_of_ble_eq_true rfl, Nat.le_of_ble_eq_true rfl⟩) (th_PV hK hH rfl hc_19) rfl rfl hl.1 rfl (lv_room (Nat.le_of_ble_eq_true rfl)) dX10_row_88 ⟨Nat.le_of_ble_eq_true rfl, Nat.le_of_ble_eq_true rfl⟩) hS (fun z_22 σ_s_21 H locs rz_22 hw_20 hH hS => ?_)
              obtain ⟨e9, hw_20⟩ := hw_20
              replace e9 := e9.symm
              subst e9
              refine vx_ret ?_
              refine W.widen (k := 1) (n := 6) (Nat.le_of_ble_eq_true rfl) (Nat.le_of_ble_eq_true rfl) ?_
              exact th_iret hx hb hr hlocks hH hS (z := z_22) rz_22 ⟨hO, hF, by omega⟩ dX10_row_91
            · refine th_tableOut (tgt := 92) hx hb rj dX10_row_27 (by omega) (by decide) ?_
              exact th_throwNW (text := "no such question about a row") hx hb hl0 hown hts (by first | exact fun w h => List.mem_cons_of_mem _ (List.mem_append_right _ h) | exact fun w h => List.mem_cons_of_mem _ (List.mem_append_left _ (List.mem_append_right _ h)) | decide +kernel) (by decide +kernel) (by decide +kernel) hXs hS hH (hl.1.trans hml.symm) htab hlocks (List.mem_of_getElem? (i := 11) rfl) dX10_row_92 dX10_row_95 dX10_row_96 dX10_row_99 dX10_row_102 (Nat.le_of_ble_eq_true rfl) (Nat.le_of_ble_eq_true rfl) (Nat.le_of_ble_eq_true rfl) (Nat.le_of_ble_eq_true rfl) ⟨hO, hF, ⟨rfl, by omega⟩⟩ (Nat.le_of_ble_eq_true rfl) (Nat.le_of_ble_eq_true rfl)
    · replace c_5 := mt (I_lt (a := i) (b := z_3) ri rz_3).mpr c_5
      exact th_throwNW (text := "no such row") hx hb hl0 hown hts (by first | exact fun w h => List.mem_cons_of_mem _ (List.mem_append_right _ h) | exact fun w h => List.mem_cons_of_mem _ (List.mem_append_left _ (List.mem_append_right _ h)) | decide +kernel) (by decide +kernel) (by decide +kernel) hXs hS hH (hl.1.trans hml.symm) htab hlocks (List.mem_of_getElem? (i := 10) rfl) dX10_row_15 dX10_row_18 dX10_row_19 dX10_row_22 dX10_row_25 (Nat.le_of_ble_eq_true rfl) (Nat.le_of_ble_eq_true rfl) (Nat.le_of_ble_eq_true rfl) (Nat.le_of_ble_eq_true rfl) ⟨hO, hF, ⟨rfl, by omega⟩⟩ (Nat.le_of_ble_eq_true rfl) (Nat.le_of_ble_eq_true rfl)

set_option maxHeartbeats 1000000 in
set_option maxRecDepth 100000 in
theorem x_rowText (l : Launch) (hl0 : l.stackTraces = false) (G : va_G) (y : Nat → ClassId) (b0 : Nat) (σ : th_M) (E : th_E) (hO : ok y E σ) (a : Nat) (h_a : kd E a = 12) (i : Int) (ri : rng i) (j : Int) (rj : rng j) : vx_Met l yX10_rowText wsX10_rowText ({ frames := 82, cells := 1, slots := 6, locals := 2455 }) (th_PX G y b0 σ [.ref a, .int (I i), .int (I j)]) (th_Qi G b0 (fun r σ1 => ok y E σ1 ∧ fr [8] E σ σ1 ∧ (gI σ1 a 1 = gI σ a 1))) (th_XX G b0 (fun X σ1 => ok y E σ1 ∧ fr [8] E σ σ1 ∧ (X = nq_NSE ∧ gI σ1 a 1 = gI σ a 1))) 1 6 (th_A b0) := by
  refine vx_ofW (cc := cX10_rowText) (maxL := 3) (ret := (some .int)) (by decide) rfl ?_
  intro p e s m args below meth c s₁ B hml htab hv
  obtain ⟨rfl, hH, hK, hXs⟩ := hv
  have hx := B.exec
  have hb := B.bytes
  have hr := B.returns
  have hts := atoms_spec (ws := wsX10_rowText) B.pre
  have hown : s.vm.findClass RX10 = some m.cls := findClass_of_methodNamed B.named
  have hlocks := B.notSynchronized
  have h00 : b0 ≤ s.heap.size := hH.1
  have hS : va_S (th_A b0) s.heap s.heap [] := va_S.rf
  have hF : fr [8] E σ σ := fr.rf
  have inX10 : ∀ w ∈ wsX100, w ∈ wsX10_rowText := by decide +kernel
  have inX3 : ∀ w ∈ wsX30, w ∈ wsX10_rowText := by decide +kernel
  have fl0 := hts (.fieldLink RX10 82 "NestQuery" "kept" "LNestQuery$Patch;") (by decide +kernel)
  have fl1 := hts (.fieldLink RX10 92 "NestQuery" "text" "LNestQuery$TextOut;") (by decide +kernel)
  have hl := lv_entry ([.ref a, .int (I i), .int (I j)]) (n := 3) (Nat.le_of_ble_eq_true rfl)
  rw [lg_entry_eq]
  generalize (lg_sl ([.ref a, .int (I i), .int (I j)]) ++ List.replicate (3 - (lg_sl ([.ref a, .int (I i), .int (I j)])).length) Slot.unset).toArray = ls at hl ⊢
  have hl : lv_has ls 3 [(0, .ref a), (1, .int (I i)), (2, .int (I j))] := hl
  obtain ⟨a10, ea10, ra10, la10, ua10⟩ := hO.gi h_a (by decide) k12_1
  refine lv_iload_n hx hb dX10_rowText_0 rfl (lv_at hl 1 rfl) ?_
  refine lv_if_lt (tgt := 15) hx hb dX10_rowText_1 (by decide) (fun c_1 => ?_) (fun c_1 => ?_)
  · replace c_1 := (I_lt (a := i) (b := 0) ri (show rng 0 from ⟨by decide, by decide⟩)).mp c_1
    exact th_throwNW (text := "no such row") hx hb hl0 hown hts (by first | exact fun w h => List.mem_cons_of_mem _ (List.mem_append_right _ h) | exact fun w h => List.mem_cons_of_mem _ (List.mem_append_left _ (List.mem_append_right _ h)) | decide +kernel) (by decide +kernel) (by decide +kernel) hXs hS hH (hl.1.trans hml.symm) htab hlocks (List.mem_of_getElem? (i := 10) rfl) dX10_rowText_15 dX10_rowText_18 dX10_rowText_19 dX10_rowText_22 dX10_rowText_25 (Nat.le_of_ble_eq_true rfl) (Nat.le_of_ble_eq_true rfl) (Nat.le_of_ble_eq_true rfl) (Nat.le_of_ble_eq_true rfl) ⟨hO, hF, ⟨rfl, by omega⟩⟩ (Nat.le_of_ble_eq_true rfl) (Nat.le_of_ble_eq_true rfl)
  · replace c_1 := mt (I_lt (a := i) (b := 0) ri (show rng 0 from ⟨by decide, by decide⟩)).mpr c_1
    refine lv_iload_n hx hb dX10_rowText_4 rfl (lv_at hl 1 rfl) ?_
    refine lv_aload_n hx hb dX10_rowText_5 rfl (lv_at hl 0 rfl) ?_
    have hp_2 : kd E (ad E a 13) = 7 := ok.pk hO h_a (by decide) k12_13 rfl
    refine ok.getR hO h_a (by decide) k12_13 (by decide) (fun _ _ he hv kk => th_get (ci := 10) (C := RX10) (T := TX10) (N := 18) hx hb hts inX10 hown hK hH he rfl 13 (by decide) fl0 hv dX10_rowText_6 kk) ?_
    refine ok.getI hO hp_2 (by decide) k7_4 (fun _ _ he hv kk => th_getN (ci := 3) (C := RX3) (T := TX3) (N := 5) hx hb hts inX3 hown hK hH he rfl 4 (by decide) (nl_17 hK) hv dX10_rowText_9 kk) (fun z_3 e_4 rz_3 lz_3 uz_3 => ?_)
    refine lv_icmp_lt (tgt := 26) hx hb dX10_rowText_12 (by decide) (fun c_5 => ?_) (fun c_5 => ?_)
    · replace c_5 := (I_lt (a := i) (b := z_3) ri rz_3).mp c_5
      refine lv_aload_n hx hb dX10_rowText_26 rfl (lv_at hl 0 rfl) ?_
      refine ok.getR hO h_a (by decide) k12_13 (by decide) (fun _ _ he hv kk => th_get (ci := 10) (C := RX10) (T := TX10) (N := 18) hx hb hts inX10 hown hK hH he rfl 13 (by decide) fl0 hv dX10_rowText_27 kk) ?_
      refine lv_iload_n hx hb dX10_rowText_30 rfl (lv_at hl 1 rfl) ?_
      refine lv_aload_n hx hb dX10_rowText_31 rfl (lv_at hl 0 rfl) ?_
      have hp_6 : kd E (ad E a 15) = 8 := ok.pk hO h_a (by decide) k12_15 rfl
      refine ok.getR hO h_a (by decide) k12_15 (by decide) (fun _ _ he hv kk => th_get (ci := 10) (C := RX10) (T := TX10) (N := 18) hx hb hts inX10 hown hK hH he rfl 15 (by decide) fl1 hv dX10_rowText_32 kk) ?_
      obtain ⟨_, hc_7⟩ := hO.cell hp_2 (by decide) (ci := 3) rfl
      refine th_callv (va_runV (As := [.int (I i), .ref (ad E a 15)]) (rest := []) ⟨hx, hb, hml, hown, hts⟩ (h_tellRow l G y b0 σ E hO (ad E a 13) hp_2 i (show rng i from ri) (ad E a 15) hp_6) (cwV 2 hts gX10_rowText_X3_tellRow rfl rfl rfl (by decide +kernel) ⟨Nat.le_of_ble_eq_true rfl, Nat.le_of_ble_eq_true rfl⟩) (th_PV hK hH rfl hc_7) rfl rfl hl.1 rfl (lv_room (Nat.le_of_ble_eq_true rfl)) dX10_rowText_35 ⟨Nat.le_of_ble_eq_true rfl, Nat.le_of_ble_eq_true rfl⟩) hS (fun σ_s_9 H locs hw_8 hH hS => ?_)
      obtain ⟨hO9, hF9, hw_8⟩ := hw_8
      have e_10 : gI σ_s_9 a 1 = a10 := (fr.ki hO hF9 h_a (by decide) (by decide) _).trans ea10
      have e_11 : gI σ_s_9 (ad E a 13) 4 = z_3 := (fr.ki hO hF9 hp_2 (by decide) (by decide) _).trans e_4
      replace hO := hO9
      replace hF := hF.tu hF9 (by decide)
      refine lv_aload_n hx hb dX10_rowText_38 rfl (lv_at hl 0 rfl) ?_
      refine lv_iload_n hx hb dX10_rowText_39 rfl (lv_at hl 2 rfl) ?_
      obtain ⟨_, hc_12⟩ := hO.cell h_a (by decide) (ci := 10) rfl
      refine th_xcalli (vx_runV (As := [.int (I j)]) (rest := []) ⟨hx, hb, hml, hown, hts⟩ (x_ofText l hl0 G y b0 σ_s_9 E hO a h_a j (show rng j from rj)) (cwV 1 hts gX10_rowText_X10_ofText rfl rfl rfl (by decide +kernel) ⟨Nat.le_of_ble_eq_true rfl, Nat.le_of_ble_eq_true rfl⟩) (th_PXV hK hXs hS hH rfl hc_12) rfl rfl hl.1 rfl (lv_room (Nat.le_of_ble_eq_true rfl)) dX10_rowText_40 ⟨Nat.le_of_ble_eq_true rfl, Nat.le_of_ble_eq_true rfl⟩) hS (fun X9 ce9 q9 σ_s_14 H locs hx_15 hH hS h1 h2 h3 => ?_) (fun Z_hw_13 σ_s_14 H locs rZ_hw_13 hw_13 hH hS => ?_)
      · obtain ⟨hO9, hF9, hx_15⟩ := hx_15
        have hx_15 : X9 = nq_NSE ∧ True := hx_15
        have e_16 : gI σ_s_14 a 1 = a10 := (fr.ki hO hF9 h_a (by decide) (by decide) _).trans e_10
        have e_17 : gI σ_s_14 (ad E a 13) 4 = z_3 := (fr.ki hO hF9 hp_2 (by decide) (by decide) _).trans e_11
        replace hO := hO9
        replace hF := hF.tu hF9 (by decide)
        exact th_xout htab hlocks hS hH ⟨hO, hF, ⟨hx_15.1, by omega⟩⟩ h1 h2 h3 (Nat.le_of_ble_eq_true rfl) (Nat.le_of_ble_eq_true rfl)
      · obtain ⟨hO9, hF9, hw_13⟩ := hw_13
        have e_18 : gI σ_s_14 a 1 = a10 := (fr.ki hO hF9 h_a (by decide) (by decide) _).trans e_10
        have e_19 : gI σ_s_14 (ad E a 13) 4 = z_3 := (fr.ki hO hF9 hp_2 (by decide) (by decide) _).trans e_11
        replace hO := hO9
        replace hF := hF.tu hF9 (by decide)
        refine vx_ret ?_
        exact th_iret hx hb hr hlocks hH hS (z := Z_hw_13) rZ_hw_13 ⟨hO, hF, by omega⟩ dX10_rowText_43
    · replace c_5 := mt (I_lt (a := i) (b := z_3) ri rz_3).mpr c_5
      exact th_throwNW (text := "no such row") hx hb hl0 hown hts (by first | exact fun w h => List.mem_cons_of_mem _ (List.mem_append_right _ h) | exact fun w h => List.mem_cons_of_mem _ (List.mem_append_left _ (List.mem_append_right _ h)) | decide +kernel) (by decide +kernel) (by decide +kernel) hXs hS hH (hl.1.trans hml.symm) htab hlocks (List.mem_of_getElem? (i := 10) rfl) dX10_rowText_15 dX10_rowText_18 dX10_rowText_19 dX10_rowText_22 dX10_rowText_25 (Nat.le_of_ble_eq_true rfl) (Nat.le_of_ble_eq_true rfl) (Nat.le_of_ble_eq_true rfl) (Nat.le_of_ble_eq_true rfl) ⟨hO, hF, ⟨rfl, by omega⟩⟩ (Nat.le_of_ble_eq_true rfl) (Nat.le_of_ble_eq_true rfl)

set_option maxHeartbeats 1000000 in
set_option maxRecDepth 100000 in
theorem x_years (l : Launch) (hl0 : l.stackTraces = false) (G : va_G) (y : Nat → ClassId) (b0 : Nat) (σ : th_M) (E : th_E) (hO : ok y E σ) (a : Nat) (h_a : kd E a = 12) (i : Int) (ri : rng i) (n : Int) (rn : rng n) (j : Int) (rj : rng j) : vx_Met l yX10_years wsX10_years ({ frames := 7, cells := 100, slots := 4900, locals := 236 }) (th_PX G y b0 σ [.ref a, .int (I i), .int (I n), .int (I j)]) (th_Qi G b0 (fun r σ1 => ∃ E1, ext E E1 ∧ ok y E1 σ1 ∧ fr [9, 5, 1, 2, 6] E σ σ1 ∧ (gI σ1 a 1 = gI σ a 1))) (th_XX G b0 (fun X σ1 => ∃ E1, ext E E1 ∧ ok y E1 σ1 ∧ fr [9, 5, 1, 2, 6] E σ σ1 ∧ ((X = nq_NSE ∨ X = nq_IAE) ∧ gI σ1 a 1 = gI σ a 1))) 100 4900 (th_A b0) := by
  refine vx_ofW (cc := cX10_years) (maxL := 6) (ret := (some .int)) (by decide) rfl ?_
  intro p e s m args below meth c s₁ B hml htab hv
  obtain ⟨rfl, hH, hK, hXs⟩ := hv
  have hx := B.exec
  have hb := B.bytes
  have hr := B.returns
  have hts := atoms_spec (ws := wsX10_years) B.pre
  have hown : s.vm.findClass RX10 = some m.cls := findClass_of_methodNamed B.named
  have hlocks := B.notSynchronized
  have h00 : b0 ≤ s.heap.size := hH.1
  have hS : va_S (th_A b0) s.heap s.heap [] := va_S.rf
  have hF : fr [9, 5, 1, 2, 6] E σ σ := fr.rf
  have hX : ext E E := ext.rf
  have inX10 : ∀ w ∈ wsX100, w ∈ wsX10_years := by decide +kernel
  have inX6 : ∀ w ∈ wsX60, w ∈ wsX10_years := by decide +kernel
  have inX9 : ∀ w ∈ wsX90, w ∈ wsX10_years := by decide +kernel
  have fl0 := hts (.fieldLink RX10 103 "NestQuery" "draws" "LNestQuery$Draws;") (by decide +kernel)
  have fl1 := hts (.fieldLink RX10 63 "NestQuery" "now" "LNestQuery$State;") (by decide +kernel)
  have hl := lv_entry ([.ref a, .int (I i), .int (I n), .int (I j)]) (n := 6) (Nat.le_of_ble_eq_true rfl)
  rw [lg_entry_eq]
  generalize (lg_sl ([.ref a, .int (I i), .int (I n), .int (I j)]) ++ List.replicate (6 - (lg_sl ([.ref a, .int (I i), .int (I n), .int (I j)])).length) Slot.unset).toArray = ls at hl ⊢
  have hl : lv_has ls 6 [(0, .ref a), (1, .int (I i)), (2, .int (I n)), (3, .int (I j))] := hl
  obtain ⟨a10, ea10, ra10, la10, ua10⟩ := hO.gi h_a (by decide) k12_1
  refine lv_iload_n hx hb dX10_years_0 rfl (lv_at hl 3 rfl) ?_
  refine lv_if_lt (tgt := 9) hx hb dX10_years_1 (by decide) (fun c_1 => ?_) (fun c_1 => ?_)
  · replace c_1 := (I_lt (a := j) (b := 0) rj (show rng 0 from ⟨by decide, by decide⟩)).mp c_1
    exact th_throwNW (text := "no such question about years") hx hb hl0 hown hts (by first | exact fun w h => List.mem_cons_of_mem _ (List.mem_append_right _ h) | exact fun w h => List.mem_cons_of_mem _ (List.mem_append_left _ (List.mem_append_right _ h)) | decide +kernel) (by decide +kernel) (by decide +kernel) hXs hS hH (hl.1.trans hml.symm) htab hlocks (List.mem_of_getElem? (i := 12) rfl) dX10_years_9 dX10_years_12 dX10_years_13 dX10_years_16 dX10_years_19 (Nat.le_of_ble_eq_true rfl) (Nat.le_of_ble_eq_true rfl) (Nat.le_of_ble_eq_true rfl) (Nat.le_of_ble_eq_true rfl) ⟨E, hX, hO, hF, ⟨by first | exact Or.inl rfl | exact Or.inr rfl, by omega⟩⟩ (Nat.le_of_ble_eq_true rfl) (Nat.le_of_ble_eq_true rfl)
  · replace c_1 := mt (I_lt (a := j) (b := 0) rj (show rng 0 from ⟨by decide, by decide⟩)).mpr c_1
    refine lv_iload_n hx hb dX10_years_4 rfl (lv_at hl 3 rfl) ?_
    refine lv_iconst (v := I 2) hx hb dX10_years_5 (by decide) ?_
    refine lv_icmp_le (tgt := 20) hx hb dX10_years_6 (by decide) (fun c_2 => ?_) (fun c_2 => ?_)
    · replace c_2 := (I_le (a := j) (b := 2) rj (show rng 2 from ⟨by decide, by decide⟩)).mp c_2
      refine lv_iload_n hx hb dX10_years_20 rfl (lv_at hl 2 rfl) ?_
      refine lv_if_lt (tgt := 30) hx hb dX10_years_21 (by decide) (fun c_3 => ?_) (fun c_3 => ?_)
      · replace c_3 := (I_lt (a := n) (b := 0) rn (show rng 0 from ⟨by decide, by decide⟩)).mp c_3
        exact th_throwIW (text := "no such number of years") hx hb hl0 hown hts (by first | exact fun w h => List.mem_cons_of_mem _ (List.mem_append_right _ h) | exact fun w h => List.mem_cons_of_mem _ (List.mem_append_left _ (List.mem_append_right _ h)) | decide +kernel) (by decide +kernel) (by decide +kernel) hXs hS hH (hl.1.trans hml.symm) htab hlocks (List.mem_of_getElem? (i := 13) rfl) dX10_years_30 dX10_years_33 dX10_years_34 dX10_years_37 dX10_years_40 (Nat.le_of_ble_eq_true rfl) (Nat.le_of_ble_eq_true rfl) (Nat.le_of_ble_eq_true rfl) (Nat.le_of_ble_eq_true rfl) ⟨E, hX, hO, hF, ⟨by first | exact Or.inl rfl | exact Or.inr rfl, by omega⟩⟩ (Nat.le_of_ble_eq_true rfl) (Nat.le_of_ble_eq_true rfl)
      · replace c_3 := mt (I_lt (a := n) (b := 0) rn (show rng 0 from ⟨by decide, by decide⟩)).mpr c_3
        refine lv_iload_n hx hb dX10_years_24 rfl (lv_at hl 2 rfl) ?_
        refine lv_bipush (v := I 20) hx hb dX10_years_25 (by decide) ?_
        refine lv_icmp_le (tgt := 41) hx hb dX10_years_27 (by decide) (fun c_4 => ?_) (fun c_4 => ?_)
        · replace c_4 := (I_le (a := n) (b := 20) rn (show rng 20 from ⟨by decide, by decide⟩)).mp c_4
          refine lv_aload_n hx hb dX10_years_41 rfl (lv_at hl 0 rfl) ?_
          have hp_5 : kd E (ad E a 17) = 9 := ok.pk hO h_a (by decide) k12_17 rfl
          refine ok.getR hO h_a (by decide) k12_17 (by decide) (fun _ _ he hv kk => th_get (ci := 10) (C := RX10) (T := TX10) (N := 18) hx hb hts inX10 hown hK hH he rfl 17 (by decide) fl0 hv dX10_years_42 kk) ?_
          refine lv_iload_n hx hb dX10_years_45 rfl (lv_at hl 1 rfl) ?_
          obtain ⟨_, hc_6⟩ := hO.cell hp_5 (by decide) (ci := 2) rfl
          refine th_callv (va_runV (As := [.int (I i)]) (rest := []) ⟨hx, hb, hml, hown, hts⟩ (d_begin l G y b0 σ E hO (ad E a 17) hp_5 i (show rng i from ri)) (cwV 1 hts gX10_years_X2_begin rfl rfl rfl (by decide +kernel) ⟨Nat.le_of_ble_eq_true rfl, Nat.le_of_ble_eq_true rfl⟩) (th_PV hK hH rfl hc_6) rfl rfl hl.1 rfl (lv_room (Nat.le_of_ble_eq_true rfl)) dX10_years_46 ⟨Nat.le_of_ble_eq_true rfl, Nat.le_of_ble_eq_true rfl⟩) hS (fun σ_s_8 H locs hw_7 hH hS => ?_)
          obtain ⟨hO9, hF9, hw_7⟩ := hw_7
          have e_9 : gI σ_s_8 a 1 = a10 := (fr.ki hO hF9 h_a (by decide) (by decide) _).trans ea10
          replace hO := hO9
          replace hF := hF.ex hX hF9 (by decide)
          refine lv_iconst (v := I 0) hx hb dX10_years_49 (by decide) ?_
          refine lv_istore (lv' := [(4, .int (I 0)), (0, .ref a), (1, .int (I i)), (2, .int (I n)), (3, .int (I j))]) hx hb dX10_years_50 hl (by decide) rfl (fun ls hl => ?_)
          refine lv_iconst (v := I 0) hx hb dX10_years_52 (by decide) ?_
          refine lv_istore (lv' := [(5, .int (I 0)), (4, .int (I 0)), (0, .ref a), (1, .int (I i)), (2, .int (I n)), (3, .int (I j))]) hx hb dX10_years_53 hl (by decide) rfl (fun ls hl => ?_)
          replace hl : lv_has ls 6 [(5, .int (I 0)), (4, .int (I 0)), (0, .ref a), (2, .int (I n)), (3, .int (I j))] := lv_sub hl [0, 1, 2, 4, 5] rfl
          refine W.widen (Nat.le_of_ble_eq_true rfl) (Nat.le_of_ble_eq_true rfl) (th_loop2 (α := Int × Int × th_E) (pc := 55) (fun x9 => 0 + 5 * (x9.2.1).toNat) (fun x9 => 0 + 245 * (x9.2.1).toNat) (fun x9 => (20 - x9.2.1).toNat) (fun x9 σ9 H9 l9 ls9 => ext E x9.2.2 ∧ ok y x9.2.2 σ9 ∧ fr [9, 5, 1, 2, 6] E σ σ9 ∧ kd x9.2.2 a = 12 ∧ th_H G b0 σ9 H9 ∧ va_S (th_A b0) s.heap H9 l9 ∧ lv_has ls9 6 [(0, .ref a), (2, .int (I n)), (3, .int (I j)), (4, .int (I x9.1)), (5, .int (I x9.2.1))] ∧ rng x9.1 ∧ rng x9.2.1 ∧ (0 ≤ x9.1) ∧ (x9.1 ≤ 20) ∧ (0 ≤ x9.2.1) ∧ (x9.2.1 ≤ 20) ∧ (x9.1 ≤ x9.2.1) ∧ (gI σ9 a 1 = a10)) ?_ (0, 0, E) σ_s_8 _ _ _ ⟨hX, hO, hF, h_a, hH, hS, lv_sub hl [2, 3, 4, 1, 0] rfl, (show rng 0 from ⟨by decide, by decide⟩), (show rng 0 from ⟨by decide, by decide⟩), by first | omega | (dsimp only; omega), by first | omega | (dsimp only; omega), by first | omega | (dsimp only; omega), by first | omega | (dsimp only; omega), by first | omega | (dsimp only; omega), e_9⟩)
          intro x9 σ_J_22 H locs ls hI9 ihJ_22
          obtain ⟨v4q20, v5q20, Ev21⟩ := x9
          obtain ⟨hX, hO, hF, hp_23, hH, hS, hl, rv4q20, rv5q20, J_22_0, J_22_1, J_22_2, J_22_3, J_22_4, J_22_5⟩ := hI9
          have hX : ext E Ev21 := hX
          have hO : ok y Ev21 σ_J_22 := hO
          have hp_23 : kd Ev21 a = 12 := hp_23
          have hl : lv_has ls 6 [(0, .ref a), (2, .int (I n)), (3, .int (I j)), (4, .int (I v4q20)), (5, .int (I v5q20))] := hl
          have rv4q20 : rng v4q20 := rv4q20
          have rv5q20 : rng v5q20 := rv5q20
          have J_22_0 : 0 ≤ v4q20 := J_22_0
          have J_22_1 : v4q20 ≤ 20 := J_22_1
          have J_22_2 : 0 ≤ v5q20 := J_22_2
          have J_22_3 : v5q20 ≤ 20 := J_22_3
          have J_22_4 : v4q20 ≤ v5q20 := J_22_4
          have J_22_5 : gI σ_J_22 a 1 = a10 := J_22_5
          refine lv_iload hx hb dX10_years_55 (lv_at hl 4 rfl) ?_
          refine lv_iload_n hx hb dX10_years_57 rfl (lv_at hl 1 rfl) ?_
          refine lv_icmp_ge (tgt := 78) hx hb dX10_years_58 (by decide) (fun c_24 => ?_) (fun c_24 => ?_)
          · replace c_24 := (I_le (a := n) (b := v5q20) rn rv5q20).mp c_24
            refine lv_iload_n hx hb dX10_years_78 rfl (lv_at hl 2 rfl) ?_
            refine lv_iconst (v := I 2) hx hb dX10_years_79 (by decide) ?_
            refine lv_icmp_ne (tgt := 86) hx hb dX10_years_80 (by decide) (fun c_25 => ?_) (fun c_25 => ?_)
            · replace c_25 := mt (I_eq (a := j) (b := 2) rj (show rng 2 from ⟨by decide, by decide⟩)).mpr c_25
              refine lv_iload_n hx hb dX10_years_86 rfl (lv_at hl 2 rfl) ?_
              refine lv_if_ne (tgt := 103) hx hb dX10_years_87 (by decide) (fun c_26 => ?_) (fun c_26 => ?_)
              · replace c_26 := mt (I_eq (a := j) (b := 0) rj (show rng 0 from ⟨by decide, by decide⟩)).mpr c_26
                refine lv_aload_n hx hb dX10_years_103 rfl (lv_at hl 0 rfl) ?_
                have hp_27 : kd Ev21 (ad Ev21 a 9) = 5 := ok.pk hO hp_23 (by decide) k12_9 rfl
                refine ok.getR hO hp_23 (by decide) k12_9 (by decide) (fun _ _ he hv kk => th_get (ci := 10) (C := RX10) (T := TX10) (N := 18) hx hb hts inX10 hown hK hH he rfl 9 (by decide) fl1 hv dX10_years_104 kk) ?_
                have hp_28 : kd Ev21 (ad Ev21 (ad Ev21 a 9) 0) = 1 := ok.pk hO hp_27 (by decide) k5_0 rfl
                refine ok.getR hO hp_27 (by decide) k5_0 (by decide) (fun _ _ he hv kk => th_getN (ci := 6) (C := RX6) (T := TX6) (N := 7) hx hb hts inX6 hown hK hH he rfl 0 (by decide) (nl_13 hK) hv dX10_years_107 kk) ?_
                obtain ⟨z_29, e_30, rz_29, lz_29, uz_29⟩ := hO.gi hp_28 (by decide) k1_4
                obtain ⟨_, hc_31⟩ := hO.cell hp_28 (by decide) (ci := 9) rfl
                refine th_calli (va_runV (As := []) (rest := []) ⟨hx, hb, hml, hown, hts⟩ (t_sum l G y b0 σ_J_22 (ad Ev21 (ad Ev21 a 9) 0) (tvE Ev21 σ_J_22 (ad Ev21 (ad Ev21 a 9) 0) 60)  (hO.isT1 hp_28) ) (cwV 0 hts gX10_years_X9_sum rfl rfl rfl (by decide +kernel) ⟨(by first | (simp only [headSpec]; omega) | omega | (dsimp only; omega)), (by first | (simp only [headSpec]; omega) | omega | (dsimp only; omega))⟩) (th_PV hK hH rfl hc_31) rfl rfl hl.1 rfl (lv_room (Nat.le_of_ble_eq_true rfl)) dX10_years_110 ⟨(by first | (simp only [headSpec]; omega) | omega | (dsimp only; omega)), (by first | (simp only [headSpec]; omega) | omega | (dsimp only; omega))⟩) hS (fun z_34 σ_s_33 H locs rz_34 hw_32 hH hS => ?_)
                obtain ⟨e9, hw_32⟩ := hw_32
                replace e9 := e9.symm
                subst e9
                refine W.widen (k := 100) (n := 4900) (by first | omega | (dsimp only; omega)) (by first | omega | (dsimp only; omega)) ?_
                refine vx_ret ?_
                exact th_iret hx hb hr hlocks hH hS (z := z_34) rz_34 ⟨Ev21, hX, hO, hF, by omega⟩ dX10_years_113
              · replace c_26 := (I_eq (a := j) (b := 0) rj (show rng 0 from ⟨by decide, by decide⟩)).mp c_26
                refine lv_aload_n hx hb dX10_years_90 rfl (lv_at hl 0 rfl) ?_
                have hp_35 : kd Ev21 (ad Ev21 a 9) = 5 := ok.pk hO hp_23 (by decide) k12_9 rfl
                refine ok.getR hO hp_23 (by decide) k12_9 (by decide) (fun _ _ he hv kk => th_get (ci := 10) (C := RX10) (T := TX10) (N := 18) hx hb hts inX10 hown hK hH he rfl 9 (by decide) fl1 hv dX10_years_91 kk) ?_
                have hp_36 : kd Ev21 (ad Ev21 (ad Ev21 a 9) 0) = 1 := ok.pk hO hp_35 (by decide) k5_0 rfl
                refine ok.getR hO hp_35 (by decide) k5_0 (by decide) (fun _ _ he hv kk => th_getN (ci := 6) (C := RX6) (T := TX6) (N := 7) hx hb hts inX6 hown hK hH he rfl 0 (by decide) (nl_13 hK) hv dX10_years_94 kk) ?_
                refine ok.getI hO hp_36 (by decide) k1_4 (fun _ _ he hv kk => th_getN (ci := 9) (C := RX9) (T := TX9) (N := 5) hx hb hts inX9 hown hK hH he rfl 4 (by decide) (nl_11 hK) hv dX10_years_97 kk) (fun z_37 e_38 rz_37 lz_37 uz_37 => ?_)
                refine lv_goto (tgt := 113) hx hb dX10_years_100 (by decide) ?_
                refine W.widen (k := 100) (n := 4900) (by first | omega | (dsimp only; omega)) (by first | omega | (dsimp only; omega)) ?_
                refine vx_ret ?_
                exact th_iret hx hb hr hlocks hH hS (z := z_37) rz_37 ⟨Ev21, hX, hO, hF, by omega⟩ dX10_years_113
            · replace c_25 := (I_eq (a := j) (b := 2) rj (show rng 2 from ⟨by decide, by decide⟩)).mp c_25
              refine lv_iload hx hb dX10_years_83 (lv_at hl 3 rfl) ?_
              refine W.widen (k := 100) (n := 4900) (by first | omega | (dsimp only; omega)) (by first | omega | (dsimp only; omega)) ?_
              refine vx_ret ?_
              exact th_iret hx hb hr hlocks hH hS (z := v4q20) rv4q20 ⟨Ev21, hX, hO, hF, by omega⟩ dX10_years_85
          · replace c_24 := mt (I_le (a := n) (b := v5q20) rn rv5q20).mpr c_24
            refine lv_aload_n hx hb dX10_years_61 rfl (lv_at hl 0 rfl) ?_
            obtain ⟨_, hc_39⟩ := hO.cell hp_23 (by decide) (ci := 10) rfl
            refine th_calli (va_runV (As := []) (rest := []) ⟨hx, hb, hml, hown, hts⟩ (q_oneYear l G y b0 σ_J_22 Ev21 hO a hp_23) (cwV 0 hts gX10_years_X10_oneYear rfl rfl rfl (by decide +kernel) ⟨(by first | (simp only [headSpec]; omega) | omega | (dsimp only; omega)), (by first | (simp only [headSpec]; omega) | omega | (dsimp only; omega))⟩) (th_PV hK hH rfl hc_39) rfl rfl hl.1 rfl (lv_room (Nat.le_of_ble_eq_true rfl)) dX10_years_62 ⟨(by first | (simp only [headSpec]; omega) | omega | (dsimp only; omega)), (by first | (simp only [headSpec]; omega) | omega | (dsimp only; omega))⟩) hS (fun z_42 σ_s_41 H locs rz_42 hw_40 hH hS => ?_)
            obtain ⟨E_43, hX9, hO9, hF9, hw_40⟩ := hw_40
            have e_44 : gI σ_s_41 a 1 = a10 := (fr.ki hO hF9 hp_23 (by decide) (by decide) _).trans J_22_5
            replace hO := hO9
            replace hF := hF.ex hX hF9 (by decide)
            replace hX := hX.tr hX9
            have hp_45 : kd E_43 a = 12 := hX9.kd2 hp_23 (by decide)
            refine lv_iconst (v := I (-1)) hx hb dX10_years_65 (by decide) ?_
            refine lv_icmp_eq (tgt := 72) hx hb dX10_years_66 (by decide) (fun c_46 => ?_) (fun c_46 => ?_)
            · replace c_46 := (I_eq (a := z_42) (b := (-1)) rz_42 (show rng (-1) from ⟨by decide, by decide⟩)).mp c_46
              refine lv_iinc (v := I (v5q20 + 1)) (lv' := [(5, .int (I (v5q20 + 1))), (0, .ref a), (2, .int (I n)), (3, .int (I j)), (4, .int (I v4q20))]) hx hb dX10_years_72 hl (k := 4) rfl (I_add _ _) (by decide) rfl (fun ls hl => ?_)
              refine lv_goto (tgt := 55) hx hb dX10_years_75 (by decide) ?_
              exact W.widen (by first | omega | (dsimp only; omega)) (by first | omega | (dsimp only; omega)) (ihJ_22 (v4q20, v5q20 + 1, E_43) σ_s_41 _ _ _ (by first | omega | (dsimp only; omega)) ⟨hX, hO, hF, hp_45, hH, hS, lv_sub hl [1, 2, 3, 4, 0] rfl, rv4q20, ⟨by first | omega | (dsimp only; omega), by first | omega | (dsimp only; omega)⟩, by first | omega | (dsimp only; omega), by first | omega | (dsimp only; omega), by first | omega | (dsimp only; omega), by first | omega | (dsimp only; omega), by first | omega | (dsimp only; omega), e_44⟩)
            · replace c_46 := mt (I_eq (a := z_42) (b := (-1)) rz_42 (show rng (-1) from ⟨by decide, by decide⟩)).mpr c_46
              refine lv_iinc (v := I (v4q20 + 1)) (lv' := [(4, .int (I (v4q20 + 1))), (0, .ref a), (2, .int (I n)), (3, .int (I j)), (5, .int (I v5q20))]) hx hb dX10_years_69 hl (k := 3) rfl (I_add _ _) (by decide) rfl (fun ls hl => ?_)
              refine lv_iinc (v := I (v5q20 + 1)) (lv' := [(5, .int (I (v5q20 + 1))), (4, .int (I (v4q20 + 1))), (0, .ref a), (2, .int (I n)), (3, .int (I j))]) hx hb dX10_years_72 hl (k := 4) rfl (I_add _ _) (by decide) rfl (fun ls hl => ?_)
              refine lv_goto (tgt := 55) hx hb dX10_years_75 (by decide) ?_
              exact W.widen (by first | omega | (dsimp only; omega)) (by first | omega | (dsimp only; omega)) (ihJ_22 (v4q20 + 1, v5q20 + 1, E_43) σ_s_41 _ _ _ (by first | omega | (dsimp only; omega)) ⟨hX, hO, hF, hp_45, hH, hS, lv_sub hl [2, 3, 4, 1, 0] rfl, ⟨by first | omega | (dsimp only; omega), by first | omega | (dsimp only; omega)⟩, ⟨by first | omega | (dsimp only; omega), by first | omega | (dsimp only; omega)⟩, by first | omega | (dsimp only; omega), by first | omega | (dsimp only; omega), by first | omega | (dsimp only; omega), by first | omega | (dsimp only; omega), by first | omega | (dsimp only; omega), e_44⟩)
        · replace c_4 := mt (I_le (a := n) (b := 20) rn (show rng 20 from ⟨by decide, by decide⟩)).mpr c_4
          exact th_throwIW (text := "no such number of years") hx hb hl0 hown hts (by first | exact fun w h => List.mem_cons_of_mem _ (List.mem_append_right _ h) | exact fun w h => List.mem_cons_of_mem _ (List.mem_append_left _ (List.mem_append_right _ h)) | decide +kernel) (by decide +kernel) (by decide +kernel) hXs hS hH (hl.1.trans hml.symm) htab hlocks (List.mem_of_getElem? (i := 13) rfl) dX10_years_30 dX10_years_33 dX10_years_34 dX10_years_37 dX10_years_40 (Nat.le_of_ble_eq_true rfl) (Nat.le_of_ble_eq_true rfl) (Nat.le_of_ble_eq_true rfl) (Nat.le_of_ble_eq_true rfl) ⟨E, hX, hO, hF, ⟨by first | exact Or.inl rfl | exact Or.inr rfl, by omega⟩⟩ (Nat.le_of_ble_eq_true rfl) (Nat.le_of_ble_eq_true rfl)
    · replace c_2 := mt (I_le (a := j) (b := 2) rj (show rng 2 from ⟨by decide, by decide⟩)).mpr c_2
      exact th_throwNW (text := "no such question about years") hx hb hl0 hown hts (by first | exact fun w h => List.mem_cons_of_mem _ (List.mem_append_right _ h) | exact fun w h => List.mem_cons_of_mem _ (List.mem_append_left _ (List.mem_append_right _ h)) | decide +kernel) (by decide +kernel) (by decide +kernel) hXs hS hH (hl.1.trans hml.symm) htab hlocks (List.mem_of_getElem? (i := 12) rfl) dX10_years_9 dX10_years_12 dX10_years_13 dX10_years_16 dX10_years_19 (Nat.le_of_ble_eq_true rfl) (Nat.le_of_ble_eq_true rfl) (Nat.le_of_ble_eq_true rfl) (Nat.le_of_ble_eq_true rfl) ⟨E, hX, hO, hF, ⟨by first | exact Or.inl rfl | exact Or.inr rfl, by omega⟩⟩ (Nat.le_of_ble_eq_true rfl) (Nat.le_of_ble_eq_true rfl)
