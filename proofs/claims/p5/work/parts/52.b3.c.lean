set_option maxHeartbeats 1000000 in
set_option maxRecDepth 100000 in
theorem j_bitCountL (l : Launch) (G : va_G) (y : Nat → ClassId) (b0 : Nat) (σ : th_M) (E : th_E) (hO : ok y E σ) (w : Int64) : Met l yJ13_bitCount_95d88 wsJ13_bitCount_95d88 ({ frames := 0, cells := 0, slots := 0, locals := 0 }) (th_P G y b0 σ [.long w]) (th_Qi G b0 (fun r σ1 => σ1 = σ ∧ (True))) 0 0 (th_A b0) := by
  refine Met.ofW (cc := cJ13_bitCount_95d88) (maxL := 2) (ret := (some .int)) (by decide) rfl ?_
  intro p e s m args below meth c s₁ B hml hv
  obtain ⟨rfl, hH, hK⟩ := hv
  have hx := B.exec
  have hb := B.bytes
  have hr := B.returns
  have hts := atoms_spec (ws := wsJ13_bitCount_95d88) B.pre
  have hown : s.vm.findClass RJ13 = some m.cls := findClass_of_methodNamed B.named
  have hlocks := B.notSynchronized
  have h00 : b0 ≤ s.heap.size := hH.1
  have hS : va_S (th_A b0) s.heap s.heap [] := va_S.rf
  have fl0 := hts (.constantLong RJ13 314 6148914691236517205) (by decide +kernel)
  have fl1 := hts (.constantLong RJ13 316 3689348814741910323) (by decide +kernel)
  have fl2 := hts (.constantLong RJ13 318 1085102592571150095) (by decide +kernel)
  have hl := lv_entry ([.long w]) (n := 2) (Nat.le_of_ble_eq_true rfl)
  rw [lg_entry_eq]
  generalize (lg_sl ([.long w]) ++ List.replicate (2 - (lg_sl ([.long w])).length) Slot.unset).toArray = ls at hl ⊢
  have hl : lv_has ls 2 [(0, .long w)] := hl
  refine lv_lload_n hx hb dJ13_bitCount_95d88_0 rfl (lv_at hl 0 rfl) ?_
  refine lv_lload_n hx hb dJ13_bitCount_95d88_1 rfl (lv_at hl 0 rfl) ?_
  refine lv_iconst (v := I 1) hx hb dJ13_bitCount_95d88_2 (by decide) ?_
  refine lv_lushr hx hb dJ13_bitCount_95d88_3 rfl ?_
  refine lv_topl (fun w_1 _ => ?_)
  refine lv_ldc2 (v := 6148914691236517205) hx hb hown fl0 dJ13_bitCount_95d88_4 ?_
  refine lv_topl (fun w_2 _ => ?_)
  refine lv_land hx hb dJ13_bitCount_95d88_7 ?_
  refine lv_topl (fun w_3 _ => ?_)
  refine lv_lsub hx hb dJ13_bitCount_95d88_8 ?_
  refine lv_topl (fun w_4 _ => ?_)
  refine lv_lstore_n (lv' := [(0, .long w_4)]) hx hb dJ13_bitCount_95d88_9 rfl hl (by decide) rfl (fun ls hl => ?_)
  refine lv_lload_n hx hb dJ13_bitCount_95d88_10 rfl (lv_at hl 0 rfl) ?_
  refine lv_ldc2 (v := 3689348814741910323) hx hb hown fl1 dJ13_bitCount_95d88_11 ?_
  refine lv_topl (fun w_5 _ => ?_)
  refine lv_land hx hb dJ13_bitCount_95d88_14 ?_
  refine lv_topl (fun w_6 _ => ?_)
  refine lv_lload_n hx hb dJ13_bitCount_95d88_15 rfl (lv_at hl 0 rfl) ?_
  refine lv_iconst (v := I 2) hx hb dJ13_bitCount_95d88_16 (by decide) ?_
  refine lv_lushr hx hb dJ13_bitCount_95d88_17 rfl ?_
  refine lv_topl (fun w_7 _ => ?_)
  refine lv_ldc2 (v := 3689348814741910323) hx hb hown fl1 dJ13_bitCount_95d88_18 ?_
  refine lv_topl (fun w_8 _ => ?_)
  refine lv_land hx hb dJ13_bitCount_95d88_21 ?_
  refine lv_topl (fun w_9 _ => ?_)
  refine lv_ladd hx hb dJ13_bitCount_95d88_22 ?_
  refine lv_topl (fun w_10 _ => ?_)
  refine lv_lstore_n (lv' := [(0, .long w_10)]) hx hb dJ13_bitCount_95d88_23 rfl hl (by decide) rfl (fun ls hl => ?_)
  refine lv_lload_n hx hb dJ13_bitCount_95d88_24 rfl (lv_at hl 0 rfl) ?_
  refine lv_lload_n hx hb dJ13_bitCount_95d88_25 rfl (lv_at hl 0 rfl) ?_
  refine lv_iconst (v := I 4) hx hb dJ13_bitCount_95d88_26 (by decide) ?_
  refine lv_lushr hx hb dJ13_bitCount_95d88_27 rfl ?_
  refine lv_topl (fun w_11 _ => ?_)
  refine lv_ladd hx hb dJ13_bitCount_95d88_28 ?_
  refine lv_topl (fun w_12 _ => ?_)
  refine lv_ldc2 (v := 1085102592571150095) hx hb hown fl2 dJ13_bitCount_95d88_29 ?_
  refine lv_topl (fun w_13 _ => ?_)
  refine lv_land hx hb dJ13_bitCount_95d88_32 ?_
  refine lv_topl (fun w_14 _ => ?_)
  refine lv_lstore_n (lv' := [(0, .long w_14)]) hx hb dJ13_bitCount_95d88_33 rfl hl (by decide) rfl (fun ls hl => ?_)
  refine lv_lload_n hx hb dJ13_bitCount_95d88_34 rfl (lv_at hl 0 rfl) ?_
  refine lv_lload_n hx hb dJ13_bitCount_95d88_35 rfl (lv_at hl 0 rfl) ?_
  refine lv_bipush (v := I 8) hx hb dJ13_bitCount_95d88_36 (by decide) ?_
  refine lv_lushr hx hb dJ13_bitCount_95d88_38 rfl ?_
  refine lv_topl (fun w_15 _ => ?_)
  refine lv_ladd hx hb dJ13_bitCount_95d88_39 ?_
  refine lv_topl (fun w_16 _ => ?_)
  refine lv_lstore_n (lv' := [(0, .long w_16)]) hx hb dJ13_bitCount_95d88_40 rfl hl (by decide) rfl (fun ls hl => ?_)
  refine lv_lload_n hx hb dJ13_bitCount_95d88_41 rfl (lv_at hl 0 rfl) ?_
  refine lv_lload_n hx hb dJ13_bitCount_95d88_42 rfl (lv_at hl 0 rfl) ?_
  refine lv_bipush (v := I 16) hx hb dJ13_bitCount_95d88_43 (by decide) ?_
  refine lv_lushr hx hb dJ13_bitCount_95d88_45 rfl ?_
  refine lv_topl (fun w_17 _ => ?_)
  refine lv_ladd hx hb dJ13_bitCount_95d88_46 ?_
  refine lv_topl (fun w_18 _ => ?_)
  refine lv_lstore_n (lv' := [(0, .long w_18)]) hx hb dJ13_bitCount_95d88_47 rfl hl (by decide) rfl (fun ls hl => ?_)
  refine lv_lload_n hx hb dJ13_bitCount_95d88_48 rfl (lv_at hl 0 rfl) ?_
  refine lv_lload_n hx hb dJ13_bitCount_95d88_49 rfl (lv_at hl 0 rfl) ?_
  refine lv_bipush (v := I 32) hx hb dJ13_bitCount_95d88_50 (by decide) ?_
  refine lv_lushr hx hb dJ13_bitCount_95d88_52 rfl ?_
  refine lv_topl (fun w_19 _ => ?_)
  refine lv_ladd hx hb dJ13_bitCount_95d88_53 ?_
  refine lv_topl (fun w_20 _ => ?_)
  refine lv_lstore_n (lv' := [(0, .long w_20)]) hx hb dJ13_bitCount_95d88_54 rfl hl (by decide) rfl (fun ls hl => ?_)
  refine lv_lload_n hx hb dJ13_bitCount_95d88_55 rfl (lv_at hl 0 rfl) ?_
  refine lv_l2i (v := _) hx hb dJ13_bitCount_95d88_56 rfl ?_
  refine th_topi (fun z_21 rz_21 => ?_)
  refine lv_bipush (v := I 127) hx hb dJ13_bitCount_95d88_57 (by decide) ?_
  refine lv_iand hx hb dJ13_bitCount_95d88_59 ?_
  refine th_topi (fun z_22 rz_22 => ?_)
  exact th_iret hx hb hr hlocks hH hS (z := z_22) rz_22 ⟨rfl, trivial⟩ dJ13_bitCount_95d88_60

set_option maxHeartbeats 1000000 in
set_option maxRecDepth 100000 in
theorem j_bitCount (l : Launch) (G : va_G) (y : Nat → ClassId) (b0 : Nat) (σ : th_M) (E : th_E) (hO : ok y E σ) (w : Int) (rw : rng w) : Met l yJ6_bitCount_0f7a4 wsJ6_bitCount_0f7a4 ({ frames := 0, cells := 0, slots := 0, locals := 0 }) (th_P G y b0 σ [.int (I w)]) (th_Qi G b0 (fun r σ1 => σ1 = σ ∧ (True))) 0 0 (th_A b0) := by
  refine Met.ofW (cc := cJ6_bitCount_0f7a4) (maxL := 1) (ret := (some .int)) (by decide) rfl ?_
  intro p e s m args below meth c s₁ B hml hv
  obtain ⟨rfl, hH, hK⟩ := hv
  have hx := B.exec
  have hb := B.bytes
  have hr := B.returns
  have hts := atoms_spec (ws := wsJ6_bitCount_0f7a4) B.pre
  have hown : s.vm.findClass RJ6 = some m.cls := findClass_of_methodNamed B.named
  have hlocks := B.notSynchronized
  have h00 : b0 ≤ s.heap.size := hH.1
  have hS : va_S (th_A b0) s.heap s.heap [] := va_S.rf
  have fl0 := hts (.constant RJ6 265 1431655765) (by decide +kernel)
  have fl1 := hts (.constant RJ6 266 858993459) (by decide +kernel)
  have fl2 := hts (.constant RJ6 267 252645135) (by decide +kernel)
  have hl := lv_entry ([.int (I w)]) (n := 1) (Nat.le_of_ble_eq_true rfl)
  rw [lg_entry_eq]
  generalize (lg_sl ([.int (I w)]) ++ List.replicate (1 - (lg_sl ([.int (I w)])).length) Slot.unset).toArray = ls at hl ⊢
  have hl : lv_has ls 1 [(0, .int (I w))] := hl
  refine lv_iload_n hx hb dJ6_bitCount_0f7a4_0 rfl (lv_at hl 0 rfl) ?_
  refine lv_iload_n hx hb dJ6_bitCount_0f7a4_1 rfl (lv_at hl 0 rfl) ?_
  refine lv_iconst (v := I 1) hx hb dJ6_bitCount_0f7a4_2 (by decide) ?_
  refine lv_iushr hx hb dJ6_bitCount_0f7a4_3 rfl ?_
  refine th_topi (fun z_1 rz_1 => ?_)
  refine lv_ldcw (v := I 1431655765) hx hb hown fl0 dJ6_bitCount_0f7a4_4 ?_
  refine lv_iand hx hb dJ6_bitCount_0f7a4_7 ?_
  refine th_topi (fun z_2 rz_2 => ?_)
  refine lv_isub hx hb dJ6_bitCount_0f7a4_8 ?_
  refine th_subo (fun z_3 rz_3 hz_3 => ?_)
  refine lv_istore_n (lv' := [(0, .int (I z_3))]) hx hb dJ6_bitCount_0f7a4_9 rfl hl (by decide) rfl (fun ls hl => ?_)
  refine lv_iload_n hx hb dJ6_bitCount_0f7a4_10 rfl (lv_at hl 0 rfl) ?_
  refine lv_ldcw (v := I 858993459) hx hb hown fl1 dJ6_bitCount_0f7a4_11 ?_
  refine lv_iand hx hb dJ6_bitCount_0f7a4_14 ?_
  refine th_topi (fun z_4 rz_4 => ?_)
  refine lv_iload_n hx hb dJ6_bitCount_0f7a4_15 rfl (lv_at hl 0 rfl) ?_
  refine lv_iconst (v := I 2) hx hb dJ6_bitCount_0f7a4_16 (by decide) ?_
  refine lv_iushr hx hb dJ6_bitCount_0f7a4_17 rfl ?_
  refine th_topi (fun z_5 rz_5 => ?_)
  refine lv_ldcw (v := I 858993459) hx hb hown fl1 dJ6_bitCount_0f7a4_18 ?_
  refine lv_iand hx hb dJ6_bitCount_0f7a4_21 ?_
  refine th_topi (fun z_6 rz_6 => ?_)
  refine lv_iadd hx hb dJ6_bitCount_0f7a4_22 ?_
  refine th_addo (fun z_7 rz_7 hz_7 => ?_)
  refine lv_istore_n (lv' := [(0, .int (I z_7))]) hx hb dJ6_bitCount_0f7a4_23 rfl hl (by decide) rfl (fun ls hl => ?_)
  refine lv_iload_n hx hb dJ6_bitCount_0f7a4_24 rfl (lv_at hl 0 rfl) ?_
  refine lv_iload_n hx hb dJ6_bitCount_0f7a4_25 rfl (lv_at hl 0 rfl) ?_
  refine lv_iconst (v := I 4) hx hb dJ6_bitCount_0f7a4_26 (by decide) ?_
  refine lv_iushr hx hb dJ6_bitCount_0f7a4_27 rfl ?_
  refine th_topi (fun z_8 rz_8 => ?_)
  refine lv_iadd hx hb dJ6_bitCount_0f7a4_28 ?_
  refine th_addo (fun z_9 rz_9 hz_9 => ?_)
  refine lv_ldcw (v := I 252645135) hx hb hown fl2 dJ6_bitCount_0f7a4_29 ?_
  refine lv_iand hx hb dJ6_bitCount_0f7a4_32 ?_
  refine th_topi (fun z_10 rz_10 => ?_)
  refine lv_istore_n (lv' := [(0, .int (I z_10))]) hx hb dJ6_bitCount_0f7a4_33 rfl hl (by decide) rfl (fun ls hl => ?_)
  refine lv_iload_n hx hb dJ6_bitCount_0f7a4_34 rfl (lv_at hl 0 rfl) ?_
  refine lv_iload_n hx hb dJ6_bitCount_0f7a4_35 rfl (lv_at hl 0 rfl) ?_
  refine lv_bipush (v := I 8) hx hb dJ6_bitCount_0f7a4_36 (by decide) ?_
  refine lv_iushr hx hb dJ6_bitCount_0f7a4_38 rfl ?_
  refine th_topi (fun z_11 rz_11 => ?_)
  refine lv_iadd hx hb dJ6_bitCount_0f7a4_39 ?_
  refine th_addo (fun z_12 rz_12 hz_12 => ?_)
  refine lv_istore_n (lv' := [(0, .int (I z_12))]) hx hb dJ6_bitCount_0f7a4_40 rfl hl (by decide) rfl (fun ls hl => ?_)
  refine lv_iload_n hx hb dJ6_bitCount_0f7a4_41 rfl (lv_at hl 0 rfl) ?_
  refine lv_iload_n hx hb dJ6_bitCount_0f7a4_42 rfl (lv_at hl 0 rfl) ?_
  refine lv_bipush (v := I 16) hx hb dJ6_bitCount_0f7a4_43 (by decide) ?_
  refine lv_iushr hx hb dJ6_bitCount_0f7a4_45 rfl ?_
  refine th_topi (fun z_13 rz_13 => ?_)
  refine lv_iadd hx hb dJ6_bitCount_0f7a4_46 ?_
  refine th_addo (fun z_14 rz_14 hz_14 => ?_)
  refine lv_istore_n (lv' := [(0, .int (I z_14))]) hx hb dJ6_bitCount_0f7a4_47 rfl hl (by decide) rfl (fun ls hl => ?_)
  refine lv_iload_n hx hb dJ6_bitCount_0f7a4_48 rfl (lv_at hl 0 rfl) ?_
  refine lv_bipush (v := I 63) hx hb dJ6_bitCount_0f7a4_49 (by decide) ?_
  refine lv_iand hx hb dJ6_bitCount_0f7a4_51 ?_
  refine th_topi (fun z_15 rz_15 => ?_)
  exact th_iret hx hb hr hlocks hH hS (z := z_15) rz_15 ⟨rfl, trivial⟩ dJ6_bitCount_0f7a4_52

set_option maxHeartbeats 1000000 in
set_option maxRecDepth 100000 in
theorem n_bit (l : Launch) (G : va_G) (y : Nat → ClassId) (b0 : Nat) (σ : th_M) (E : th_E) (hO : ok y E σ) (i : Int) (ri : rng i) : Met l yX10_bit wsX10_bit ({ frames := 0, cells := 0, slots := 0, locals := 0 }) (th_P G y b0 σ [.int (I i)]) (th_Ql G b0 (fun r σ1 => σ1 = σ ∧ (True))) 0 0 (th_A b0) := by
  refine Met.ofW (cc := cX10_bit) (maxL := 1) (ret := (some .long)) (by decide) rfl ?_
  intro p e s m args below meth c s₁ B hml hv
  obtain ⟨rfl, hH, hK⟩ := hv
  have hx := B.exec
  have hb := B.bytes
  have hr := B.returns
  have hts := atoms_spec (ws := wsX10_bit) B.pre
  have hown : s.vm.findClass RX10 = some m.cls := findClass_of_methodNamed B.named
  have hlocks := B.notSynchronized
  have h00 : b0 ≤ s.heap.size := hH.1
  have hS : va_S (th_A b0) s.heap s.heap [] := va_S.rf
  have hl := lv_entry ([.int (I i)]) (n := 1) (Nat.le_of_ble_eq_true rfl)
  rw [lg_entry_eq]
  generalize (lg_sl ([.int (I i)]) ++ List.replicate (1 - (lg_sl ([.int (I i)])).length) Slot.unset).toArray = ls at hl ⊢
  have hl : lv_has ls 1 [(0, .int (I i))] := hl
  refine lv_iload_n hx hb dX10_bit_0 rfl (lv_at hl 0 rfl) ?_
  refine lv_if_lt (tgt := 10) hx hb dX10_bit_1 (by decide) (fun c_1 => ?_) (fun c_1 => ?_)
  · replace c_1 := (I_lt (a := i) (b := 0) ri (show rng 0 from ⟨by decide, by decide⟩)).mp c_1
    refine lv_lconst (v := 0) hx hb dX10_bit_10 (by decide) ?_
    refine lv_goto (tgt := 17) hx hb dX10_bit_11 (by decide) ?_
    exact th_lret hx hb hr hlocks hH hS (z := 0) ⟨rfl, trivial⟩ dX10_bit_17
  · replace c_1 := mt (I_lt (a := i) (b := 0) ri (show rng 0 from ⟨by decide, by decide⟩)).mpr c_1
    refine lv_iload_n hx hb dX10_bit_4 rfl (lv_at hl 0 rfl) ?_
    refine lv_bipush (v := I 60) hx hb dX10_bit_5 (by decide) ?_
    refine lv_icmp_lt (tgt := 14) hx hb dX10_bit_7 (by decide) (fun c_2 => ?_) (fun c_2 => ?_)
    · replace c_2 := (I_lt (a := i) (b := 60) ri (show rng 60 from ⟨by decide, by decide⟩)).mp c_2
      refine lv_lconst (v := 1) hx hb dX10_bit_14 (by decide) ?_
      refine lv_iload_n hx hb dX10_bit_15 rfl (lv_at hl 0 rfl) ?_
      refine lv_lshl hx hb dX10_bit_16 rfl ?_
      refine lv_topl (fun w_3 _ => ?_)
      exact th_lret hx hb hr hlocks hH hS (z := w_3) ⟨rfl, trivial⟩ dX10_bit_17
    · replace c_2 := mt (I_lt (a := i) (b := 60) ri (show rng 60 from ⟨by decide, by decide⟩)).mpr c_2
      refine lv_lconst (v := 0) hx hb dX10_bit_10 (by decide) ?_
      refine lv_goto (tgt := 17) hx hb dX10_bit_11 (by decide) ?_
      exact th_lret hx hb hr hlocks hH hS (z := 0) ⟨rfl, trivial⟩ dX10_bit_17

set_option maxHeartbeats 1000000 in
set_option maxRecDepth 100000 in
theorem n_isIn (l : Launch) (G : va_G) (y : Nat → ClassId) (b0 : Nat) (σ : th_M) (E : th_E) (hO : ok y E σ) (w : Int64) (i : Int) (ri : rng i) : Met l yX10_isIn wsX10_isIn ({ frames := 1, cells := 0, slots := 0, locals := 24 }) (th_P G y b0 σ [.long w, .int (I i)]) (th_Qi G b0 (fun r σ1 => σ1 = σ ∧ (0 ≤ r ∧ r ≤ 1) ∧ (True))) 0 0 (th_A b0) := by
  refine Met.ofW (cc := cX10_isIn) (maxL := 3) (ret := (some .boolean)) (by decide) rfl ?_
  intro p e s m args below meth c s₁ B hml hv
  obtain ⟨rfl, hH, hK⟩ := hv
  have hx := B.exec
  have hb := B.bytes
  have hr := B.returns
  have hts := atoms_spec (ws := wsX10_isIn) B.pre
  have hown : s.vm.findClass RX10 = some m.cls := findClass_of_methodNamed B.named
  have hlocks := B.notSynchronized
  have h00 : b0 ≤ s.heap.size := hH.1
  have hS : va_S (th_A b0) s.heap s.heap [] := va_S.rf
  have hl := lv_entry ([.long w, .int (I i)]) (n := 3) (Nat.le_of_ble_eq_true rfl)
  rw [lg_entry_eq]
  generalize (lg_sl ([.long w, .int (I i)]) ++ List.replicate (3 - (lg_sl ([.long w, .int (I i)])).length) Slot.unset).toArray = ls at hl ⊢
  have hl : lv_has ls 3 [(0, .long w), (2, .int (I i))] := hl
  refine lv_lload_n hx hb dX10_isIn_0 rfl (lv_at hl 0 rfl) ?_
  refine lv_iload_n hx hb dX10_isIn_1 rfl (lv_at hl 1 rfl) ?_
  refine th_calll (va_runS (As := [.int (I i)]) (rest := [.long w]) ⟨hx, hb, hml, hown, hts⟩ (n_bit l G y b0 σ E hO i (show rng i from ri)) (va_cwS 1 hts gX10_isIn_X10_bit rfl rfl rfl (by decide +kernel) ⟨Nat.le_of_ble_eq_true rfl, Nat.le_of_ble_eq_true rfl⟩) (th_PS hK hH) rfl rfl hl.1 rfl (lv_room (Nat.le_of_ble_eq_true rfl)) dX10_isIn_2 ⟨Nat.le_of_ble_eq_true rfl, Nat.le_of_ble_eq_true rfl⟩) hS (fun w_3 σ_s_2 H locs hw_1 hH hS => ?_)
  obtain ⟨e9, hw_1⟩ := hw_1
  replace e9 := e9.symm
  subst e9
  refine lv_land hx hb dX10_isIn_5 ?_
  refine lv_topl (fun w_4 _ => ?_)
  refine lv_lconst (v := 0) hx hb dX10_isIn_6 (by decide) ?_
  refine W.lcmp hx hb dX10_isIn_7 ?_
  refine th_topi (fun z_5 rz_5 => ?_)
  refine lv_if_eq (tgt := 15) hx hb dX10_isIn_8 (by decide) (fun c_6 => ?_) (fun c_6 => ?_)
  · replace c_6 := (I_eq (a := z_5) (b := 0) rz_5 (show rng 0 from ⟨by decide, by decide⟩)).mp c_6
    refine lv_iconst (v := I 0) hx hb dX10_isIn_15 (by decide) ?_
    exact th_zret hx hb hr hlocks hH hS (z := 0) (by omega) ⟨rfl, ⟨by omega, by omega⟩, trivial⟩ dX10_isIn_16
  · replace c_6 := mt (I_eq (a := z_5) (b := 0) rz_5 (show rng 0 from ⟨by decide, by decide⟩)).mpr c_6
    refine lv_iconst (v := I 1) hx hb dX10_isIn_11 (by decide) ?_
    refine lv_goto (tgt := 16) hx hb dX10_isIn_12 (by decide) ?_
    exact th_zret hx hb hr hlocks hH hS (z := 1) (by omega) ⟨rfl, ⟨by omega, by omega⟩, trivial⟩ dX10_isIn_16

set_option maxHeartbeats 1000000 in
set_option maxRecDepth 100000 in
theorem n_nthOf (l : Launch) (G : va_G) (y : Nat → ClassId) (b0 : Nat) (σ : th_M) (E : th_E) (hO : ok y E σ) (w : Int64) (i : Int) (ri : rng i) : Met l yX10_nthOf wsX10_nthOf ({ frames := 2, cells := 0, slots := 0, locals := 50 }) (th_P G y b0 σ [.long w, .int (I i)]) (th_Qi G b0 (fun r σ1 => σ1 = σ ∧ (True))) 0 0 (th_A b0) := by
  refine Met.ofW (cc := cX10_nthOf) (maxL := 5) (ret := (some .int)) (by decide) rfl ?_
  intro p e s m args below meth c s₁ B hml hv
  obtain ⟨rfl, hH, hK⟩ := hv
  have hx := B.exec
  have hb := B.bytes
  have hr := B.returns
  have hts := atoms_spec (ws := wsX10_nthOf) B.pre
  have hown : s.vm.findClass RX10 = some m.cls := findClass_of_methodNamed B.named
  have hlocks := B.notSynchronized
  have h00 : b0 ≤ s.heap.size := hH.1
  have hS : va_S (th_A b0) s.heap s.heap [] := va_S.rf
  have hl := lv_entry ([.long w, .int (I i)]) (n := 5) (Nat.le_of_ble_eq_true rfl)
  rw [lg_entry_eq]
  generalize (lg_sl ([.long w, .int (I i)]) ++ List.replicate (5 - (lg_sl ([.long w, .int (I i)])).length) Slot.unset).toArray = ls at hl ⊢
  have hl : lv_has ls 5 [(0, .long w), (2, .int (I i))] := hl
  refine lv_iconst (v := I 0) hx hb dX10_nthOf_0 (by decide) ?_
  refine lv_istore_n (lv' := [(3, .int (I 0)), (0, .long w), (2, .int (I i))]) hx hb dX10_nthOf_1 rfl hl (by decide) rfl (fun ls hl => ?_)
  refine lv_iconst (v := I 0) hx hb dX10_nthOf_2 (by decide) ?_
  refine lv_istore (lv' := [(4, .int (I 0)), (3, .int (I 0)), (0, .long w), (2, .int (I i))]) hx hb dX10_nthOf_3 hl (by decide) rfl (fun ls hl => ?_)
  refine th_loop (α := Int × Int) (pc := 5) (fun x9 => (60 - x9.2).toNat) (fun x9 σ9 H9 l9 ls9 => σ9 = σ ∧ th_H G b0 σ9 H9 ∧ va_S (th_A b0) s.heap H9 l9 ∧ lv_has ls9 5 [(0, .long w), (2, .int (I i)), (3, .int (I x9.1)), (4, .int (I x9.2))] ∧ rng x9.1 ∧ rng x9.2 ∧ (0 ≤ x9.2) ∧ (x9.2 ≤ 60) ∧ (0 ≤ x9.1) ∧ (x9.1 ≤ 60) ∧ (x9.1 ≤ x9.2)) ?_ (0, 0) σ _ _ _ ⟨rfl, hH, hS, lv_sub hl [2, 3, 1, 0] rfl, (show rng 0 from ⟨by decide, by decide⟩), (show rng 0 from ⟨by decide, by decide⟩), by first | omega | (dsimp only; omega), by first | omega | (dsimp only; omega), by first | omega | (dsimp only; omega), by first | omega | (dsimp only; omega), by first | omega | (dsimp only; omega)⟩
  intro x9 σ_J_9 H locs ls hI9 ihJ_9
  obtain ⟨v3q8, v4q8⟩ := x9
  obtain ⟨eJ_9, hH, hS, hl, rv3q8, rv4q8, J_9_0, J_9_1, J_9_2, J_9_3, J_9_4⟩ := hI9
  replace eJ_9 := eJ_9.symm
  subst eJ_9
  have hl : lv_has ls 5 [(0, .long w), (2, .int (I i)), (3, .int (I v3q8)), (4, .int (I v4q8))] := hl
  have rv3q8 : rng v3q8 := rv3q8
  have rv4q8 : rng v4q8 := rv4q8
  have J_9_0 : 0 ≤ v4q8 := J_9_0
  have J_9_1 : v4q8 ≤ 60 := J_9_1
  have J_9_2 : 0 ≤ v3q8 := J_9_2
  have J_9_3 : v3q8 ≤ 60 := J_9_3
  have J_9_4 : v3q8 ≤ v4q8 := J_9_4
  refine lv_iload hx hb dX10_nthOf_5 (lv_at hl 3 rfl) ?_
  refine lv_bipush (v := I 60) hx hb dX10_nthOf_7 (by decide) ?_
  refine lv_icmp_ge (tgt := 38) hx hb dX10_nthOf_9 (by decide) (fun c_10 => ?_) (fun c_10 => ?_)
  · replace c_10 := (I_le (a := 60) (b := v4q8) (show rng 60 from ⟨by decide, by decide⟩) rv4q8).mp c_10
    refine lv_iconst (v := I (-1)) hx hb dX10_nthOf_38 (by decide) ?_
    exact th_iret hx hb hr hlocks hH hS (z := (-1)) (show rng (-1) from ⟨by decide, by decide⟩) ⟨rfl, trivial⟩ dX10_nthOf_39
  · replace c_10 := mt (I_le (a := 60) (b := v4q8) (show rng 60 from ⟨by decide, by decide⟩) rv4q8).mpr c_10
    refine lv_lload_n hx hb dX10_nthOf_12 rfl (lv_at hl 0 rfl) ?_
    refine lv_iload hx hb dX10_nthOf_13 (lv_at hl 3 rfl) ?_
    refine th_calli (va_runS (As := [.long w, .int (I v4q8)]) (rest := []) ⟨hx, hb, hml, hown, hts⟩ (n_isIn l G y b0 σ E hO w v4q8 (show rng v4q8 from rv4q8)) (va_cwS 2 hts gX10_nthOf_X10_isIn rfl rfl rfl (by decide +kernel) ⟨Nat.le_of_ble_eq_true rfl, Nat.le_of_ble_eq_true rfl⟩) (th_PS hK hH) rfl rfl hl.1 rfl (lv_room (Nat.le_of_ble_eq_true rfl)) dX10_nthOf_15 ⟨Nat.le_of_ble_eq_true rfl, Nat.le_of_ble_eq_true rfl⟩) hS (fun z_13 σ_s_12 H locs rz_13 hw_11 hH hS => ?_)
    obtain ⟨e9, bhw_11, hw_11⟩ := hw_11
    replace e9 := e9.symm
    subst e9
    refine lv_if_eq (tgt := 32) hx hb dX10_nthOf_18 (by decide) (fun c_14 => ?_) (fun c_14 => ?_)
    · replace c_14 := (I_eq (a := z_13) (b := 0) rz_13 (show rng 0 from ⟨by decide, by decide⟩)).mp c_14
      refine lv_iinc (v := I (v4q8 + 1)) (lv' := [(4, .int (I (v4q8 + 1))), (0, .long w), (2, .int (I i)), (3, .int (I v3q8))]) hx hb dX10_nthOf_32 hl (k := 3) rfl (I_add _ _) (by decide) rfl (fun ls hl => ?_)
      refine lv_goto (tgt := 5) hx hb dX10_nthOf_35 (by decide) ?_
      exact ihJ_9 (v3q8, v4q8 + 1) σ _ _ _ (by first | omega | (dsimp only; omega)) ⟨rfl, hH, hS, lv_sub hl [1, 2, 3, 0] rfl, rv3q8, ⟨by first | omega | (dsimp only; omega), by first | omega | (dsimp only; omega)⟩, by first | omega | (dsimp only; omega), by first | omega | (dsimp only; omega), by first | omega | (dsimp only; omega), by first | omega | (dsimp only; omega), by first | omega | (dsimp only; omega)⟩
    · replace c_14 := mt (I_eq (a := z_13) (b := 0) rz_13 (show rng 0 from ⟨by decide, by decide⟩)).mpr c_14
      refine lv_iload_n hx hb dX10_nthOf_21 rfl (lv_at hl 2 rfl) ?_
      refine lv_iload_n hx hb dX10_nthOf_22 rfl (lv_at hl 1 rfl) ?_
      refine lv_icmp_ne (tgt := 29) hx hb dX10_nthOf_23 (by decide) (fun c_15 => ?_) (fun c_15 => ?_)
      · replace c_15 := mt (I_eq (a := v3q8) (b := i) rv3q8 ri).mpr c_15
        refine lv_iinc (v := I (v3q8 + 1)) (lv' := [(3, .int (I (v3q8 + 1))), (0, .long w), (2, .int (I i)), (4, .int (I v4q8))]) hx hb dX10_nthOf_29 hl (k := 2) rfl (I_add _ _) (by decide) rfl (fun ls hl => ?_)
        refine lv_iinc (v := I (v4q8 + 1)) (lv' := [(4, .int (I (v4q8 + 1))), (3, .int (I (v3q8 + 1))), (0, .long w), (2, .int (I i))]) hx hb dX10_nthOf_32 hl (k := 3) rfl (I_add _ _) (by decide) rfl (fun ls hl => ?_)
        refine lv_goto (tgt := 5) hx hb dX10_nthOf_35 (by decide) ?_
        exact ihJ_9 (v3q8 + 1, v4q8 + 1) σ _ _ _ (by first | omega | (dsimp only; omega)) ⟨rfl, hH, hS, lv_sub hl [2, 3, 1, 0] rfl, ⟨by first | omega | (dsimp only; omega), by first | omega | (dsimp only; omega)⟩, ⟨by first | omega | (dsimp only; omega), by first | omega | (dsimp only; omega)⟩, by first | omega | (dsimp only; omega), by first | omega | (dsimp only; omega), by first | omega | (dsimp only; omega), by first | omega | (dsimp only; omega), by first | omega | (dsimp only; omega)⟩
      · replace c_15 := (I_eq (a := v3q8) (b := i) rv3q8 ri).mp c_15
        refine lv_iload hx hb dX10_nthOf_26 (lv_at hl 3 rfl) ?_
        exact th_iret hx hb hr hlocks hH hS (z := v4q8) rv4q8 ⟨rfl, trivial⟩ dX10_nthOf_28

set_option maxHeartbeats 1000000 in
set_option maxRecDepth 100000 in
theorem n_lettersOf (l : Launch) (G : va_G) (y : Nat → ClassId) (b0 : Nat) (σ : th_M) (E : th_E) (hO : ok y E σ) (i : Int) (ri : rng i) : Met l yX10_lettersOf wsX10_lettersOf ({ frames := 0, cells := 0, slots := 0, locals := 0 }) (th_P G y b0 σ [.int (I i)]) (th_Qi G b0 (fun r σ1 => σ1 = σ ∧ (True))) 0 0 (th_A b0) := by
  refine Met.ofW (cc := cX10_lettersOf) (maxL := 4) (ret := (some .int)) (by decide) rfl ?_
  intro p e s m args below meth c s₁ B hml hv
  obtain ⟨rfl, hH, hK⟩ := hv
  have hx := B.exec
  have hb := B.bytes
  have hr := B.returns
  have hts := atoms_spec (ws := wsX10_lettersOf) B.pre
  have hown : s.vm.findClass RX10 = some m.cls := findClass_of_methodNamed B.named
  have hlocks := B.notSynchronized
  have h00 : b0 ≤ s.heap.size := hH.1
  have hS : va_S (th_A b0) s.heap s.heap [] := va_S.rf
  have hl := lv_entry ([.int (I i)]) (n := 4) (Nat.le_of_ble_eq_true rfl)
  rw [lg_entry_eq]
  generalize (lg_sl ([.int (I i)]) ++ List.replicate (4 - (lg_sl ([.int (I i)])).length) Slot.unset).toArray = ls at hl ⊢
  have hl : lv_has ls 4 [(0, .int (I i))] := hl
  refine lv_iconst (v := I 0) hx hb dX10_lettersOf_0 (by decide) ?_
  refine lv_istore_n (lv' := [(1, .int (I 0)), (0, .int (I i))]) hx hb dX10_lettersOf_1 rfl hl (by decide) rfl (fun ls hl => ?_)
  refine lv_iload_n hx hb dX10_lettersOf_2 rfl (lv_at hl 1 rfl) ?_
  refine lv_istore_n (lv' := [(2, .int (I i)), (1, .int (I 0)), (0, .int (I i))]) hx hb dX10_lettersOf_3 rfl hl (by decide) rfl (fun ls hl => ?_)
  refine lv_iconst (v := I 0) hx hb dX10_lettersOf_4 (by decide) ?_
  refine lv_istore_n (lv' := [(3, .int (I 0)), (2, .int (I i)), (1, .int (I 0)), (0, .int (I i))]) hx hb dX10_lettersOf_5 rfl hl (by decide) rfl (fun ls hl => ?_)
  replace hl : lv_has ls 4 [(3, .int (I 0)), (2, .int (I i)), (1, .int (I 0))] := lv_sub hl [0, 1, 2] rfl
  refine th_loop (α := Int × Int × Int) (pc := 6) (fun x9 => (6 - x9.2.2).toNat) (fun x9 σ9 H9 l9 ls9 => σ9 = σ ∧ th_H G b0 σ9 H9 ∧ va_S (th_A b0) s.heap H9 l9 ∧ lv_has ls9 4 [(1, .int (I x9.1)), (2, .int (I x9.2.1)), (3, .int (I x9.2.2))] ∧ rng x9.1 ∧ rng x9.2.1 ∧ rng x9.2.2 ∧ (0 ≤ x9.2.2) ∧ (x9.2.2 ≤ 6) ∧ (0 ≤ x9.1) ∧ (x9.1 ≤ 6) ∧ (x9.1 ≤ x9.2.2)) ?_ (0, i, 0) σ _ _ _ ⟨rfl, hH, hS, lv_sub hl [2, 1, 0] rfl, (show rng 0 from ⟨by decide, by decide⟩), ri, (show rng 0 from ⟨by decide, by decide⟩), by first | omega | (dsimp only; omega), by first | omega | (dsimp only; omega), by first | omega | (dsimp only; omega), by first | omega | (dsimp only; omega), by first | omega | (dsimp only; omega)⟩
  intro x9 σ_J_6 H locs ls hI9 ihJ_6
  obtain ⟨v1q5, v2q5, v3q5⟩ := x9
  obtain ⟨eJ_6, hH, hS, hl, rv1q5, rv2q5, rv3q5, J_6_0, J_6_1, J_6_2, J_6_3, J_6_4⟩ := hI9
  replace eJ_6 := eJ_6.symm
  subst eJ_6
  have hl : lv_has ls 4 [(1, .int (I v1q5)), (2, .int (I v2q5)), (3, .int (I v3q5))] := hl
  have rv1q5 : rng v1q5 := rv1q5
  have rv2q5 : rng v2q5 := rv2q5
  have rv3q5 : rng v3q5 := rv3q5
  have J_6_0 : 0 ≤ v3q5 := J_6_0
  have J_6_1 : v3q5 ≤ 6 := J_6_1
  have J_6_2 : 0 ≤ v1q5 := J_6_2
  have J_6_3 : v1q5 ≤ 6 := J_6_3
  have J_6_4 : v1q5 ≤ v3q5 := J_6_4
  refine lv_iload_n hx hb dX10_lettersOf_6 rfl (lv_at hl 2 rfl) ?_
  refine lv_bipush (v := I 6) hx hb dX10_lettersOf_7 (by decide) ?_
  refine lv_icmp_ge (tgt := 29) hx hb dX10_lettersOf_9 (by decide) (fun c_7 => ?_) (fun c_7 => ?_)
  · replace c_7 := (I_le (a := 6) (b := v3q5) (show rng 6 from ⟨by decide, by decide⟩) rv3q5).mp c_7
    refine lv_iload_n hx hb dX10_lettersOf_29 rfl (lv_at hl 0 rfl) ?_
    exact th_iret hx hb hr hlocks hH hS (z := v1q5) rv1q5 ⟨rfl, trivial⟩ dX10_lettersOf_30
  · replace c_7 := mt (I_le (a := 6) (b := v3q5) (show rng 6 from ⟨by decide, by decide⟩) rv3q5).mpr c_7
    refine lv_iload_n hx hb dX10_lettersOf_12 rfl (lv_at hl 1 rfl) ?_
    refine lv_if_le (tgt := 29) hx hb dX10_lettersOf_13 (by decide) (fun c_8 => ?_) (fun c_8 => ?_)
    · replace c_8 := (I_le (a := v2q5) (b := 0) rv2q5 (show rng 0 from ⟨by decide, by decide⟩)).mp c_8
      refine lv_iload_n hx hb dX10_lettersOf_29 rfl (lv_at hl 0 rfl) ?_
      exact th_iret hx hb hr hlocks hH hS (z := v1q5) rv1q5 ⟨rfl, trivial⟩ dX10_lettersOf_30
    · replace c_8 := mt (I_le (a := v2q5) (b := 0) rv2q5 (show rng 0 from ⟨by decide, by decide⟩)).mpr c_8
      refine lv_iload_n hx hb dX10_lettersOf_16 rfl (lv_at hl 1 rfl) ?_
      refine lv_iconst (v := I 5) hx hb dX10_lettersOf_17 (by decide) ?_
      refine lv_iushr hx hb dX10_lettersOf_18 rfl ?_
      refine th_topi (fun z_9 rz_9 => ?_)
      refine lv_istore_n (lv' := [(2, .int (I z_9)), (1, .int (I v1q5)), (3, .int (I v3q5))]) hx hb dX10_lettersOf_19 rfl hl (by decide) rfl (fun ls hl => ?_)
      refine lv_iinc (v := I (v1q5 + 1)) (lv' := [(1, .int (I (v1q5 + 1))), (2, .int (I z_9)), (3, .int (I v3q5))]) hx hb dX10_lettersOf_20 hl (k := 1) rfl (I_add _ _) (by decide) rfl (fun ls hl => ?_)
      refine lv_iinc (v := I (v3q5 + 1)) (lv' := [(3, .int (I (v3q5 + 1))), (1, .int (I (v1q5 + 1))), (2, .int (I z_9))]) hx hb dX10_lettersOf_23 hl (k := 2) rfl (I_add _ _) (by decide) rfl (fun ls hl => ?_)
      refine lv_goto (tgt := 6) hx hb dX10_lettersOf_26 (by decide) ?_
      exact ihJ_6 (v1q5 + 1, z_9, v3q5 + 1) σ _ _ _ (by first | omega | (dsimp only; omega)) ⟨rfl, hH, hS, lv_sub hl [1, 2, 0] rfl, ⟨by first | omega | (dsimp only; omega), by first | omega | (dsimp only; omega)⟩, rz_9, ⟨by first | omega | (dsimp only; omega), by first | omega | (dsimp only; omega)⟩, by first | omega | (dsimp only; omega), by first | omega | (dsimp only; omega), by first | omega | (dsimp only; omega), by first | omega | (dsimp only; omega), by first | omega | (dsimp only; omega)⟩

set_option maxHeartbeats 1000000 in
set_option maxRecDepth 100000 in
theorem n_isWord (l : Launch) (G : va_G) (y : Nat → ClassId) (b0 : Nat) (σ : th_M) (E : th_E) (hO : ok y E σ) (i : Int) (ri : rng i) : Met l yX10_isWord wsX10_isWord ({ frames := 0, cells := 0, slots := 0, locals := 0 }) (th_P G y b0 σ [.int (I i)]) (th_Qi G b0 (fun r σ1 => σ1 = σ ∧ (0 ≤ r ∧ r ≤ 1) ∧ (True))) 0 0 (th_A b0) := by
  refine Met.ofW (cc := cX10_isWord) (maxL := 4) (ret := (some .boolean)) (by decide) rfl ?_
  intro p e s m args below meth c s₁ B hml hv
  obtain ⟨rfl, hH, hK⟩ := hv
  have hx := B.exec
  have hb := B.bytes
  have hr := B.returns
  have hts := atoms_spec (ws := wsX10_isWord) B.pre
  have hown : s.vm.findClass RX10 = some m.cls := findClass_of_methodNamed B.named
  have hlocks := B.notSynchronized
  have h00 : b0 ≤ s.heap.size := hH.1
  have hS : va_S (th_A b0) s.heap s.heap [] := va_S.rf
  have fl0 := hts (.constant RX10 418 1073741824) (by decide +kernel)
  have hl := lv_entry ([.int (I i)]) (n := 4) (Nat.le_of_ble_eq_true rfl)
  rw [lg_entry_eq]
  generalize (lg_sl ([.int (I i)]) ++ List.replicate (4 - (lg_sl ([.int (I i)])).length) Slot.unset).toArray = ls at hl ⊢
  have hl : lv_has ls 4 [(0, .int (I i))] := hl
  refine lv_iload_n hx hb dX10_isWord_0 rfl (lv_at hl 0 rfl) ?_
  refine lv_iconst (v := I 1) hx hb dX10_isWord_1 (by decide) ?_
  refine lv_icmp_lt (tgt := 12) hx hb dX10_isWord_2 (by decide) (fun c_1 => ?_) (fun c_1 => ?_)
  · replace c_1 := (I_lt (a := i) (b := 1) ri (show rng 1 from ⟨by decide, by decide⟩)).mp c_1
    refine lv_iconst (v := I 0) hx hb dX10_isWord_12 (by decide) ?_
    exact th_zret hx hb hr hlocks hH hS (z := 0) (by omega) ⟨rfl, ⟨by omega, by omega⟩, trivial⟩ dX10_isWord_13
  · replace c_1 := mt (I_lt (a := i) (b := 1) ri (show rng 1 from ⟨by decide, by decide⟩)).mpr c_1
    refine lv_iload_n hx hb dX10_isWord_5 rfl (lv_at hl 0 rfl) ?_
    refine lv_ldcw (v := I 1073741824) hx hb hown fl0 dX10_isWord_6 ?_
    refine lv_icmp_lt (tgt := 14) hx hb dX10_isWord_9 (by decide) (fun c_2 => ?_) (fun c_2 => ?_)
    · replace c_2 := (I_lt (a := i) (b := 1073741824) ri (show rng 1073741824 from ⟨by decide, by decide⟩)).mp c_2
      refine lv_iload_n hx hb dX10_isWord_14 rfl (lv_at hl 0 rfl) ?_
      refine lv_istore_n (lv' := [(1, .int (I i)), (0, .int (I i))]) hx hb dX10_isWord_15 rfl hl (by decide) rfl (fun ls hl => ?_)
      refine lv_iconst (v := I 0) hx hb dX10_isWord_16 (by decide) ?_
      refine lv_istore_n (lv' := [(2, .int (I 0)), (1, .int (I i)), (0, .int (I i))]) hx hb dX10_isWord_17 rfl hl (by decide) rfl (fun ls hl => ?_)
      replace hl : lv_has ls 4 [(2, .int (I 0)), (1, .int (I i))] := lv_sub hl [0, 1] rfl
      refine th_loop (α := Int × Int) (pc := 18) (fun x9 => (6 - x9.2).toNat) (fun x9 σ9 H9 l9 ls9 => σ9 = σ ∧ th_H G b0 σ9 H9 ∧ va_S (th_A b0) s.heap H9 l9 ∧ lv_has ls9 4 [(1, .int (I x9.1)), (2, .int (I x9.2))] ∧ rng x9.1 ∧ rng x9.2 ∧ (0 ≤ x9.2) ∧ (x9.2 ≤ 6)) ?_ (i, 0) σ _ _ _ ⟨rfl, hH, hS, lv_sub hl [1, 0] rfl, ri, (show rng 0 from ⟨by decide, by decide⟩), by first | omega | (dsimp only; omega), by first | omega | (dsimp only; omega)⟩
      intro x9 σ_J_11 H locs ls hI9 ihJ_11
      obtain ⟨v1q10, v2q10⟩ := x9
      obtain ⟨eJ_11, hH, hS, hl, rv1q10, rv2q10, J_11_0, J_11_1⟩ := hI9
      replace eJ_11 := eJ_11.symm
      subst eJ_11
      have hl : lv_has ls 4 [(1, .int (I v1q10)), (2, .int (I v2q10))] := hl
      have rv1q10 : rng v1q10 := rv1q10
      have rv2q10 : rng v2q10 := rv2q10
      have J_11_0 : 0 ≤ v2q10 := J_11_0
      have J_11_1 : v2q10 ≤ 6 := J_11_1
      refine lv_iload_n hx hb dX10_isWord_18 rfl (lv_at hl 1 rfl) ?_
      refine lv_bipush (v := I 6) hx hb dX10_isWord_19 (by decide) ?_
      refine lv_icmp_ge (tgt := 56) hx hb dX10_isWord_21 (by decide) (fun c_12 => ?_) (fun c_12 => ?_)
      · replace c_12 := (I_le (a := 6) (b := v2q10) (show rng 6 from ⟨by decide, by decide⟩) rv2q10).mp c_12
        refine lv_iconst (v := I 1) hx hb dX10_isWord_56 (by decide) ?_
        exact th_zret hx hb hr hlocks hH hS (z := 1) (by omega) ⟨rfl, ⟨by omega, by omega⟩, trivial⟩ dX10_isWord_57
      · replace c_12 := mt (I_le (a := 6) (b := v2q10) (show rng 6 from ⟨by decide, by decide⟩) rv2q10).mpr c_12
        refine lv_iload_n hx hb dX10_isWord_24 rfl (lv_at hl 0 rfl) ?_
        refine lv_if_le (tgt := 56) hx hb dX10_isWord_25 (by decide) (fun c_13 => ?_) (fun c_13 => ?_)
        · replace c_13 := (I_le (a := v1q10) (b := 0) rv1q10 (show rng 0 from ⟨by decide, by decide⟩)).mp c_13
          refine lv_iconst (v := I 1) hx hb dX10_isWord_56 (by decide) ?_
          exact th_zret hx hb hr hlocks hH hS (z := 1) (by omega) ⟨rfl, ⟨by omega, by omega⟩, trivial⟩ dX10_isWord_57
        · replace c_13 := mt (I_le (a := v1q10) (b := 0) rv1q10 (show rng 0 from ⟨by decide, by decide⟩)).mpr c_13
          refine lv_iload_n hx hb dX10_isWord_28 rfl (lv_at hl 0 rfl) ?_
          refine lv_bipush (v := I 31) hx hb dX10_isWord_29 (by decide) ?_
          refine lv_iand hx hb dX10_isWord_31 ?_
          refine th_and31 (fun z_14 rz_14 hz_14 => ?_)
          refine lv_istore_n (lv' := [(3, .int (I z_14)), (1, .int (I v1q10)), (2, .int (I v2q10))]) hx hb dX10_isWord_32 rfl hl (by decide) rfl (fun ls hl => ?_)
          refine lv_iload_n hx hb dX10_isWord_33 rfl (lv_at hl 0 rfl) ?_
          refine lv_iconst (v := I 1) hx hb dX10_isWord_34 (by decide) ?_
          refine lv_icmp_lt (tgt := 44) hx hb dX10_isWord_35 (by decide) (fun c_15 => ?_) (fun c_15 => ?_)
          · replace c_15 := (I_lt (a := z_14) (b := 1) rz_14 (show rng 1 from ⟨by decide, by decide⟩)).mp c_15
            refine lv_iconst (v := I 0) hx hb dX10_isWord_44 (by decide) ?_
            exact th_zret hx hb hr hlocks hH hS (z := 0) (by omega) ⟨rfl, ⟨by omega, by omega⟩, trivial⟩ dX10_isWord_45
          · replace c_15 := mt (I_lt (a := z_14) (b := 1) rz_14 (show rng 1 from ⟨by decide, by decide⟩)).mpr c_15
            refine lv_iload_n hx hb dX10_isWord_38 rfl (lv_at hl 0 rfl) ?_
            refine lv_bipush (v := I 26) hx hb dX10_isWord_39 (by decide) ?_
            refine lv_icmp_le (tgt := 46) hx hb dX10_isWord_41 (by decide) (fun c_16 => ?_) (fun c_16 => ?_)
            · replace c_16 := (I_le (a := z_14) (b := 26) rz_14 (show rng 26 from ⟨by decide, by decide⟩)).mp c_16
              refine lv_iload_n hx hb dX10_isWord_46 rfl (lv_at hl 1 rfl) ?_
              refine lv_iconst (v := I 5) hx hb dX10_isWord_47 (by decide) ?_
              refine lv_iushr hx hb dX10_isWord_48 rfl ?_
              refine th_topi (fun z_17 rz_17 => ?_)
              refine lv_istore_n (lv' := [(1, .int (I z_17)), (3, .int (I z_14)), (2, .int (I v2q10))]) hx hb dX10_isWord_49 rfl hl (by decide) rfl (fun ls hl => ?_)
              refine lv_iinc (v := I (v2q10 + 1)) (lv' := [(2, .int (I (v2q10 + 1))), (1, .int (I z_17)), (3, .int (I z_14))]) hx hb dX10_isWord_50 hl (k := 2) rfl (I_add _ _) (by decide) rfl (fun ls hl => ?_)
              refine lv_goto (tgt := 18) hx hb dX10_isWord_53 (by decide) ?_
              replace hl : lv_has ls 4 [(2, .int (I (v2q10 + 1))), (1, .int (I z_17))] := lv_sub hl [0, 1] rfl
              exact ihJ_11 (z_17, v2q10 + 1) σ _ _ _ (by first | omega | (dsimp only; omega)) ⟨rfl, hH, hS, lv_sub hl [1, 0] rfl, rz_17, ⟨by first | omega | (dsimp only; omega), by first | omega | (dsimp only; omega)⟩, by first | omega | (dsimp only; omega), by first | omega | (dsimp only; omega)⟩
            · replace c_16 := mt (I_le (a := z_14) (b := 26) rz_14 (show rng 26 from ⟨by decide, by decide⟩)).mpr c_16
              refine lv_iconst (v := I 0) hx hb dX10_isWord_44 (by decide) ?_
              exact th_zret hx hb hr hlocks hH hS (z := 0) (by omega) ⟨rfl, ⟨by omega, by omega⟩, trivial⟩ dX10_isWord_45
    · replace c_2 := mt (I_lt (a := i) (b := 1073741824) ri (show rng 1073741824 from ⟨by decide, by decide⟩)).mpr c_2
      refine lv_iconst (v := I 0) hx hb dX10_isWord_12 (by decide) ?_
      exact th_zret hx hb hr hlocks hH hS (z := 0) (by omega) ⟨rfl, ⟨by omega, by omega⟩, trivial⟩ dX10_isWord_13

set_option maxHeartbeats 1000000 in
set_option maxRecDepth 100000 in
theorem n_first (l : Launch) (G : va_G) (y : Nat → ClassId) (b0 : Nat) (σ : th_M) (E : th_E) (hO : ok y E σ) (i : Int) (ri : rng i) : Met l yX10_firstLetterHighest wsX10_firstLetterHighest ({ frames := 0, cells := 0, slots := 0, locals := 0 }) (th_P G y b0 σ [.int (I i)]) (th_Qi G b0 (fun r σ1 => σ1 = σ ∧ (True))) 0 0 (th_A b0) := by
  refine Met.ofW (cc := cX10_firstLetterHighest) (maxL := 3) (ret := (some .int)) (by decide) rfl ?_
  intro p e s m args below meth c s₁ B hml hv
  obtain ⟨rfl, hH, hK⟩ := hv
  have hx := B.exec
  have hb := B.bytes
  have hr := B.returns
  have hts := atoms_spec (ws := wsX10_firstLetterHighest) B.pre
  have hown : s.vm.findClass RX10 = some m.cls := findClass_of_methodNamed B.named
  have hlocks := B.notSynchronized
  have h00 : b0 ≤ s.heap.size := hH.1
  have hS : va_S (th_A b0) s.heap s.heap [] := va_S.rf
  have fl0 := hts (.constant RX10 419 33554432) (by decide +kernel)
  have hl := lv_entry ([.int (I i)]) (n := 3) (Nat.le_of_ble_eq_true rfl)
  rw [lg_entry_eq]
  generalize (lg_sl ([.int (I i)]) ++ List.replicate (3 - (lg_sl ([.int (I i)])).length) Slot.unset).toArray = ls at hl ⊢
  have hl : lv_has ls 3 [(0, .int (I i))] := hl
  refine lv_iload_n hx hb dX10_firstLetterHighest_0 rfl (lv_at hl 0 rfl) ?_
  refine lv_istore_n (lv' := [(1, .int (I i)), (0, .int (I i))]) hx hb dX10_firstLetterHighest_1 rfl hl (by decide) rfl (fun ls hl => ?_)
  refine lv_iconst (v := I 0) hx hb dX10_firstLetterHighest_2 (by decide) ?_
  refine lv_istore_n (lv' := [(2, .int (I 0)), (1, .int (I i)), (0, .int (I i))]) hx hb dX10_firstLetterHighest_3 rfl hl (by decide) rfl (fun ls hl => ?_)
  replace hl : lv_has ls 3 [(2, .int (I 0)), (1, .int (I i))] := lv_sub hl [0, 1] rfl
  refine th_loop (α := Int × Int) (pc := 4) (fun x9 => (6 - x9.2).toNat) (fun x9 σ9 H9 l9 ls9 => σ9 = σ ∧ th_H G b0 σ9 H9 ∧ va_S (th_A b0) s.heap H9 l9 ∧ lv_has ls9 3 [(1, .int (I x9.1)), (2, .int (I x9.2))] ∧ rng x9.1 ∧ rng x9.2 ∧ (0 ≤ x9.2) ∧ (x9.2 ≤ 6)) ?_ (i, 0) σ _ _ _ ⟨rfl, hH, hS, lv_sub hl [1, 0] rfl, ri, (show rng 0 from ⟨by decide, by decide⟩), by first | omega | (dsimp only; omega), by first | omega | (dsimp only; omega)⟩
  intro x9 σ_J_6 H locs ls hI9 ihJ_6
  obtain ⟨v1q5, v2q5⟩ := x9
  obtain ⟨eJ_6, hH, hS, hl, rv1q5, rv2q5, J_6_0, J_6_1⟩ := hI9
  replace eJ_6 := eJ_6.symm
  subst eJ_6
  have hl : lv_has ls 3 [(1, .int (I v1q5)), (2, .int (I v2q5))] := hl
  have rv1q5 : rng v1q5 := rv1q5
  have rv2q5 : rng v2q5 := rv2q5
  have J_6_0 : 0 ≤ v2q5 := J_6_0
  have J_6_1 : v2q5 ≤ 6 := J_6_1
  refine lv_iload_n hx hb dX10_firstLetterHighest_4 rfl (lv_at hl 1 rfl) ?_
  refine lv_bipush (v := I 6) hx hb dX10_firstLetterHighest_5 (by decide) ?_
  refine lv_icmp_ge (tgt := 27) hx hb dX10_firstLetterHighest_7 (by decide) (fun c_7 => ?_) (fun c_7 => ?_)
  · replace c_7 := (I_le (a := 6) (b := v2q5) (show rng 6 from ⟨by decide, by decide⟩) rv2q5).mp c_7
    refine lv_iload_n hx hb dX10_firstLetterHighest_27 rfl (lv_at hl 0 rfl) ?_
    exact th_iret hx hb hr hlocks hH hS (z := v1q5) rv1q5 ⟨rfl, trivial⟩ dX10_firstLetterHighest_28
  · replace c_7 := mt (I_le (a := 6) (b := v2q5) (show rng 6 from ⟨by decide, by decide⟩) rv2q5).mpr c_7
    refine lv_iload_n hx hb dX10_firstLetterHighest_10 rfl (lv_at hl 0 rfl) ?_
    refine lv_ldcw (v := I 33554432) hx hb hown fl0 dX10_firstLetterHighest_11 ?_
    refine lv_icmp_ge (tgt := 27) hx hb dX10_firstLetterHighest_14 (by decide) (fun c_8 => ?_) (fun c_8 => ?_)
    · replace c_8 := (I_le (a := 33554432) (b := v1q5) (show rng 33554432 from ⟨by decide, by decide⟩) rv1q5).mp c_8
      refine lv_iload_n hx hb dX10_firstLetterHighest_27 rfl (lv_at hl 0 rfl) ?_
      exact th_iret hx hb hr hlocks hH hS (z := v1q5) rv1q5 ⟨rfl, trivial⟩ dX10_firstLetterHighest_28
    · replace c_8 := mt (I_le (a := 33554432) (b := v1q5) (show rng 33554432 from ⟨by decide, by decide⟩) rv1q5).mpr c_8
      refine lv_iload_n hx hb dX10_firstLetterHighest_17 rfl (lv_at hl 0 rfl) ?_
      refine lv_iconst (v := I 5) hx hb dX10_firstLetterHighest_18 (by decide) ?_
      refine lv_ishl hx hb dX10_firstLetterHighest_19 ?_
      refine th_topi (fun z_9 rz_9 => ?_)
      refine lv_istore_n (lv' := [(1, .int (I z_9)), (2, .int (I v2q5))]) hx hb dX10_firstLetterHighest_20 rfl hl (by decide) rfl (fun ls hl => ?_)
      refine lv_iinc (v := I (v2q5 + 1)) (lv' := [(2, .int (I (v2q5 + 1))), (1, .int (I z_9))]) hx hb dX10_firstLetterHighest_21 hl (k := 1) rfl (I_add _ _) (by decide) rfl (fun ls hl => ?_)
      refine lv_goto (tgt := 4) hx hb dX10_firstLetterHighest_24 (by decide) ?_
      exact ihJ_6 (z_9, v2q5 + 1) σ _ _ _ (by first | omega | (dsimp only; omega)) ⟨rfl, hH, hS, lv_sub hl [1, 0] rfl, rz_9, ⟨by first | omega | (dsimp only; omega), by first | omega | (dsimp only; omega)⟩, by first | omega | (dsimp only; omega), by first | omega | (dsimp only; omega)⟩

set_option maxHeartbeats 1000000 in
set_option maxRecDepth 100000 in
theorem t1_depthAt (l : Launch) (G : va_G) (y : Nat → ClassId) (b0 : Nat) (σ : th_M) (E : th_E) (hO : ok y E σ) (a : Nat) (h_a : kd E a = 1) (i : Int) (ri : rng i) : Met l yX9_depthAt wsX9_depthAt ({ frames := 0, cells := 0, slots := 0, locals := 0 }) (th_P G y b0 σ [.ref a, .int (I i)]) (th_Qi G b0 (fun r σ1 => σ1 = σ ∧ (r ≤ 7 ∧ ((0 ≤ i ∧ i < gI σ a 4) ∨ (r = -1 ∧ ¬ (0 ≤ i ∧ i < gI σ a 4)))))) 0 0 (th_A b0) := by
  refine Met.ofW (cc := cX9_depthAt) (maxL := 2) (ret := (some .int)) (by decide) rfl ?_
  intro p e s m args below meth c s₁ B hml hv
  obtain ⟨rfl, hH, hK⟩ := hv
  have hx := B.exec
  have hb := B.bytes
  have hr := B.returns
  have hts := atoms_spec (ws := wsX9_depthAt) B.pre
  have hown : s.vm.findClass RX9 = some m.cls := findClass_of_methodNamed B.named
  have hlocks := B.notSynchronized
  have h00 : b0 ≤ s.heap.size := hH.1
  have hS : va_S (th_A b0) s.heap s.heap [] := va_S.rf
  have inX9 : ∀ w ∈ wsX90, w ∈ wsX9_depthAt := by decide +kernel
  have fl0 := hts (.fieldLink RX9 24 "NestQuery$Tree" "size" "I") (by decide +kernel)
  have fl1 := hts (.fieldLink RX9 21 "NestQuery$Tree" "depths" "[I") (by decide +kernel)
  have hl := lv_entry ([.ref a, .int (I i)]) (n := 2) (Nat.le_of_ble_eq_true rfl)
  rw [lg_entry_eq]
  generalize (lg_sl ([.ref a, .int (I i)]) ++ List.replicate (2 - (lg_sl ([.ref a, .int (I i)])).length) Slot.unset).toArray = ls at hl ⊢
  have hl : lv_has ls 2 [(0, .ref a), (1, .int (I i))] := hl
  obtain ⟨a40, ea40, ra40, la40, ua40⟩ := hO.gi h_a (by decide) k1_4
  refine lv_iload_n hx hb dX9_depthAt_0 rfl (lv_at hl 1 rfl) ?_
  refine lv_if_lt (tgt := 12) hx hb dX9_depthAt_1 (by decide) (fun c_1 => ?_) (fun c_1 => ?_)
  · replace c_1 := (I_lt (a := i) (b := 0) ri (show rng 0 from ⟨by decide, by decide⟩)).mp c_1
    refine lv_iconst (v := I (-1)) hx hb dX9_depthAt_12 (by decide) ?_
    refine lv_goto (tgt := 22) hx hb dX9_depthAt_13 (by decide) ?_
    exact th_iret hx hb hr hlocks hH hS (z := (-1)) (show rng (-1) from ⟨by decide, by decide⟩) ⟨rfl, by omega⟩ dX9_depthAt_22
  · replace c_1 := mt (I_lt (a := i) (b := 0) ri (show rng 0 from ⟨by decide, by decide⟩)).mpr c_1
    refine lv_iload_n hx hb dX9_depthAt_4 rfl (lv_at hl 1 rfl) ?_
    refine lv_aload_n hx hb dX9_depthAt_5 rfl (lv_at hl 0 rfl) ?_
    refine ok.getIc hO h_a (by decide) k1_4 ea40 (fun _ _ he hv kk => th_get (ci := 9) (C := RX9) (T := TX9) (N := 5) hx hb hts inX9 hown hK hH he rfl 4 (by decide) fl0 hv dX9_depthAt_6 kk) ?_
    refine lv_icmp_lt (tgt := 16) hx hb dX9_depthAt_9 (by decide) (fun c_2 => ?_) (fun c_2 => ?_)
    · replace c_2 := (I_lt (a := i) (b := a40) ri ra40).mp c_2
      refine lv_aload_n hx hb dX9_depthAt_16 rfl (lv_at hl 0 rfl) ?_
      refine ok.getR hO h_a (by decide) k1_3 (by decide) (fun _ _ he hv kk => th_get (ci := 9) (C := RX9) (T := TX9) (N := 5) hx hb hts inX9 hown hK hH he rfl 3 (by decide) fl1 hv dX9_depthAt_17 kk) ?_
      refine lv_iload_n hx hb dX9_depthAt_20 rfl (lv_at hl 1 rfl) ?_
      refine ok_iald hx hb hK hH hO h_a (by decide) k1_3 isA7 ri (by omega) (by omega) dX9_depthAt_21 (fun z_3 ez_3 rz_3 el9 => ?_)
      have uz_3 := el9.1 rfl
      exact th_iret hx hb hr hlocks hH hS (z := z_3) rz_3 ⟨rfl, by omega⟩ dX9_depthAt_22
    · replace c_2 := mt (I_lt (a := i) (b := a40) ri ra40).mpr c_2
      refine lv_iconst (v := I (-1)) hx hb dX9_depthAt_12 (by decide) ?_
      refine lv_goto (tgt := 22) hx hb dX9_depthAt_13 (by decide) ?_
      exact th_iret hx hb hr hlocks hH hS (z := (-1)) (show rng (-1) from ⟨by decide, by decide⟩) ⟨rfl, by omega⟩ dX9_depthAt_22

set_option maxHeartbeats 1000000 in
set_option maxRecDepth 100000 in
theorem d_begin (l : Launch) (G : va_G) (y : Nat → ClassId) (b0 : Nat) (σ : th_M) (E : th_E) (hO : ok y E σ) (a : Nat) (h_a : kd E a = 9) (i : Int) (ri : rng i) : Met l yX2_begin wsX2_begin ({ frames := 0, cells := 0, slots := 0, locals := 0 }) (th_P G y b0 σ [.ref a, .int (I i)]) (th_Qv G b0 (fun σ1 => ok y E σ1 ∧ fr [9] E σ σ1 ∧ (True))) 0 0 (th_A b0) := by
  refine Met.ofW (cc := cX2_begin) (maxL := 2) (ret := none) (by decide) rfl ?_
  intro p e s m args below meth c s₁ B hml hv
  obtain ⟨rfl, hH, hK⟩ := hv
  have hx := B.exec
  have hb := B.bytes
  have hr := B.returns
  have hts := atoms_spec (ws := wsX2_begin) B.pre
  have hown : s.vm.findClass RX2 = some m.cls := findClass_of_methodNamed B.named
  have hlocks := B.notSynchronized
  have h00 : b0 ≤ s.heap.size := hH.1
  have hS : va_S (th_A b0) s.heap s.heap [] := va_S.rf
  have hF : fr [9] E σ σ := fr.rf
  have inX2 : ∀ w ∈ wsX20, w ∈ wsX2_begin := by decide +kernel
  have fl0 := hts (.fieldLink RX2 7 "NestQuery$Draws" "seed" "I") (by decide +kernel)
  have hl := lv_entry ([.ref a, .int (I i)]) (n := 2) (Nat.le_of_ble_eq_true rfl)
  rw [lg_entry_eq]
  generalize (lg_sl ([.ref a, .int (I i)]) ++ List.replicate (2 - (lg_sl ([.ref a, .int (I i)])).length) Slot.unset).toArray = ls at hl ⊢
  have hl : lv_has ls 2 [(0, .ref a), (1, .int (I i))] := hl
  refine lv_aload_n hx hb dX2_begin_0 rfl (lv_at hl 0 rfl) ?_
  refine lv_iload_n hx hb dX2_begin_1 rfl (lv_at hl 1 rfl) ?_
  refine ok.putI hO h_a (by decide) k9_0 ri (by omega) (by omega) (fun _ he hl9 kk => th_put (ci := 2) (v := .int (I i)) (ty := .int) (C := RX2) (T := TX2) (N := 1) hx hb hts inX2 tyX2 tyX2_ok nmX2 hown hK hH hS h00 he rfl 0 (by decide) fl0 rfl (by decide +kernel) rfl rfl hl9 dX2_begin_2 kk) (fun σ_s_1 H locs hO hF9 hg9 hi9 ha9 hH hS => ?_)
  replace hF := hF.tu hF9 (by decide)
  have e_2 := hg9
  exact th_vret hx hb hr hlocks hH hS ⟨hO, hF, trivial⟩ dX2_begin_5

set_option maxHeartbeats 1000000 in
set_option maxRecDepth 100000 in
theorem d_next (l : Launch) (G : va_G) (y : Nat → ClassId) (b0 : Nat) (σ : th_M) (E : th_E) (hO : ok y E σ) (a : Nat) (h_a : kd E a = 9) (i : Int) (ri : rng i) : Met l yX2_next wsX2_next ({ frames := 0, cells := 0, slots := 0, locals := 0 }) (th_P G y b0 σ [.ref a, .int (I i)]) (th_Qi G b0 (fun r σ1 => ok y E σ1 ∧ fr [9] E σ σ1 ∧ (True))) 0 0 (th_A b0) := by
  refine Met.ofW (cc := cX2_next) (maxL := 2) (ret := (some .int)) (by decide) rfl ?_
  intro p e s m args below meth c s₁ B hml hv
  obtain ⟨rfl, hH, hK⟩ := hv
  have hx := B.exec
  have hb := B.bytes
  have hr := B.returns
  have hts := atoms_spec (ws := wsX2_next) B.pre
  have hown : s.vm.findClass RX2 = some m.cls := findClass_of_methodNamed B.named
  have hlocks := B.notSynchronized
  have h00 : b0 ≤ s.heap.size := hH.1
  have hS : va_S (th_A b0) s.heap s.heap [] := va_S.rf
  have hF : fr [9] E σ σ := fr.rf
  have inX2 : ∀ w ∈ wsX20, w ∈ wsX2_next := by decide +kernel
  have fl0 := hts (.fieldLink RX2 7 "NestQuery$Draws" "seed" "I") (by decide +kernel)
  have fl1 := hts (.constant RX2 13 1103515245) (by decide +kernel)
  have hl := lv_entry ([.ref a, .int (I i)]) (n := 2) (Nat.le_of_ble_eq_true rfl)
  rw [lg_entry_eq]
  generalize (lg_sl ([.ref a, .int (I i)]) ++ List.replicate (2 - (lg_sl ([.ref a, .int (I i)])).length) Slot.unset).toArray = ls at hl ⊢
  have hl : lv_has ls 2 [(0, .ref a), (1, .int (I i))] := hl
  refine lv_aload_n hx hb dX2_next_0 rfl (lv_at hl 0 rfl) ?_
  refine lv_aload_n hx hb dX2_next_1 rfl (lv_at hl 0 rfl) ?_
  refine ok.getI hO h_a (by decide) k9_0 (fun _ _ he hv kk => th_get (ci := 2) (C := RX2) (T := TX2) (N := 1) hx hb hts inX2 hown hK hH he rfl 0 (by decide) fl0 hv dX2_next_2 kk) (fun z_1 e_2 rz_1 lz_1 uz_1 => ?_)
  refine lv_ldc (v := I 1103515245) hx hb hown fl1 dX2_next_5 ?_
  refine lv_imul hx hb dX2_next_7 ?_
  refine nq_top (I_mul _ _) ?_
  refine lv_sipush (v := I 12345) hx hb dX2_next_8 (by decide) ?_
  refine lv_iadd hx hb dX2_next_11 ?_
  refine th_addo (fun z_3 rz_3 hz_3 => ?_)
  refine ok.putI hO h_a (by decide) k9_0 rz_3 (by omega) (by omega) (fun _ he hl9 kk => th_put (ci := 2) (v := .int (I z_3)) (ty := .int) (C := RX2) (T := TX2) (N := 1) hx hb hts inX2 tyX2 tyX2_ok nmX2 hown hK hH hS h00 he rfl 0 (by decide) fl0 rfl (by decide +kernel) rfl rfl hl9 dX2_next_12 kk) (fun σ_s_4 H locs hO hF9 hg9 hi9 ha9 hH hS => ?_)
  replace hF := hF.tu hF9 (by decide)
  have e_5 := hg9
  refine lv_iload_n hx hb dX2_next_15 rfl (lv_at hl 1 rfl) ?_
  refine lv_iconst (v := I 1) hx hb dX2_next_16 (by decide) ?_
  refine lv_icmp_ge (tgt := 24) hx hb dX2_next_17 (by decide) (fun c_6 => ?_) (fun c_6 => ?_)
  · replace c_6 := (I_le (a := 1) (b := i) (show rng 1 from ⟨by decide, by decide⟩) ri).mp c_6
    refine lv_aload_n hx hb dX2_next_24 rfl (lv_at hl 0 rfl) ?_
    refine ok.getIc hO h_a (by decide) k9_0 e_5 (fun _ _ he hv kk => th_get (ci := 2) (C := RX2) (T := TX2) (N := 1) hx hb hts inX2 hown hK hH he rfl 0 (by decide) fl0 hv dX2_next_25 kk) ?_
    refine lv_bipush (v := I 16) hx hb dX2_next_28 (by decide) ?_
    refine lv_iushr hx hb dX2_next_30 rfl ?_
    refine th_topi (fun z_7 rz_7 => ?_)
    refine lv_sipush (v := I 32767) hx hb dX2_next_31 (by decide) ?_
    refine lv_iand hx hb dX2_next_34 ?_
    refine th_and32767 (fun z_8 rz_8 hz_8 => ?_)
    refine lv_iload_n hx hb dX2_next_35 rfl (lv_at hl 1 rfl) ?_
    refine lv_irem hx hb dX2_next_36 (I_ne0 ri (by omega)) ?_
    refine th_topi (fun z_9 rz_9 => ?_)
    exact th_iret hx hb hr hlocks hH hS (z := z_9) rz_9 ⟨hO, hF, trivial⟩ dX2_next_37
  · replace c_6 := mt (I_le (a := 1) (b := i) (show rng 1 from ⟨by decide, by decide⟩) ri).mpr c_6
    refine lv_iconst (v := I 0) hx hb dX2_next_20 (by decide) ?_
    refine lv_goto (tgt := 37) hx hb dX2_next_21 (by decide) ?_
    exact th_iret hx hb hr hlocks hH hS (z := 0) (show rng 0 from ⟨by decide, by decide⟩) ⟨hO, hF, trivial⟩ dX2_next_37

set_option maxHeartbeats 1000000 in
set_option maxRecDepth 100000 in
theorem k_addToken (l : Launch) (G : va_G) (y : Nat → ClassId) (b0 : Nat) (σ : th_M) (E : th_E) (hO : ok y E σ) (a : Nat) (h_a : kd E a = 3) (w1 : Int) (rw1 : rng w1) (w2 : Int) (rw2 : rng w2) (w3 : Int) (rw3 : rng w3) (w4 : Int) (rw4 : rng w4) : Met l yX8_addToken wsX8_addToken ({ frames := 0, cells := 0, slots := 0, locals := 0 }) (th_P G y b0 σ [.ref a, .int (I w1), .int (I w2), .int (I w3), .int (I w4)]) (th_Qv G b0 (fun σ1 => ok y E σ1 ∧ fr [3] E σ σ1 ∧ (True))) 0 0 (th_A b0) := by
  refine Met.ofW (cc := cX8_addToken) (maxL := 5) (ret := none) (by decide) rfl ?_
  intro p e s m args below meth c s₁ B hml hv
  obtain ⟨rfl, hH, hK⟩ := hv
  have hx := B.exec
  have hb := B.bytes
  have hr := B.returns
  have hts := atoms_spec (ws := wsX8_addToken) B.pre
  have hown : s.vm.findClass RX8 = some m.cls := findClass_of_methodNamed B.named
  have hlocks := B.notSynchronized
  have h00 : b0 ≤ s.heap.size := hH.1
  have hS : va_S (th_A b0) s.heap s.heap [] := va_S.rf
  have hF : fr [3] E σ σ := fr.rf
  have inX8 : ∀ w ∈ wsX80, w ∈ wsX8_addToken := by decide +kernel
  have fl0 := hts (.fieldLink RX8 37 "NestQuery$Tokens" "found" "I") (by decide +kernel)
  have fl1 := hts (.fieldLink RX8 11 "NestQuery$Tokens" "kinds" "[I") (by decide +kernel)
  have fl2 := hts (.fieldLink RX8 15 "NestQuery$Tokens" "starts" "[I") (by decide +kernel)
  have fl3 := hts (.fieldLink RX8 18 "NestQuery$Tokens" "values" "[I") (by decide +kernel)
  have fl4 := hts (.fieldLink RX8 21 "NestQuery$Tokens" "lengths" "[I") (by decide +kernel)
  have hl := lv_entry ([.ref a, .int (I w1), .int (I w2), .int (I w3), .int (I w4)]) (n := 5) (Nat.le_of_ble_eq_true rfl)
  rw [lg_entry_eq]
  generalize (lg_sl ([.ref a, .int (I w1), .int (I w2), .int (I w3), .int (I w4)]) ++ List.replicate (5 - (lg_sl ([.ref a, .int (I w1), .int (I w2), .int (I w3), .int (I w4)])).length) Slot.unset).toArray = ls at hl ⊢
  have hl : lv_has ls 5 [(0, .ref a), (1, .int (I w1)), (2, .int (I w2)), (3, .int (I w3)), (4, .int (I w4))] := hl
  refine lv_aload_n hx hb dX8_addToken_0 rfl (lv_at hl 0 rfl) ?_
  refine ok.getI hO h_a (by decide) k3_4 (fun _ _ he hv kk => th_get (ci := 8) (C := RX8) (T := TX8) (N := 9) hx hb hts inX8 hown hK hH he rfl 4 (by decide) fl0 hv dX8_addToken_1 kk) (fun z_1 e_2 rz_1 lz_1 uz_1 => ?_)
  refine lv_if_lt (tgt := 68) hx hb dX8_addToken_4 (by decide) (fun c_3 => ?_) (fun c_3 => ?_)
  · replace c_3 := (I_lt (a := z_1) (b := 0) rz_1 (show rng 0 from ⟨by decide, by decide⟩)).mp c_3
    exact th_vret hx hb hr hlocks hH hS ⟨hO, hF, trivial⟩ dX8_addToken_68
  · replace c_3 := mt (I_lt (a := z_1) (b := 0) rz_1 (show rng 0 from ⟨by decide, by decide⟩)).mpr c_3
    refine lv_aload_n hx hb dX8_addToken_7 rfl (lv_at hl 0 rfl) ?_
    refine ok.getIc hO h_a (by decide) k3_4 e_2 (fun _ _ he hv kk => th_get (ci := 8) (C := RX8) (T := TX8) (N := 9) hx hb hts inX8 hown hK hH he rfl 4 (by decide) fl0 hv dX8_addToken_8 kk) ?_
    refine lv_sipush (v := I 401) hx hb dX8_addToken_11 (by decide) ?_
    refine lv_icmp_ge (tgt := 68) hx hb dX8_addToken_14 (by decide) (fun c_4 => ?_) (fun c_4 => ?_)
    · replace c_4 := (I_le (a := 401) (b := z_1) (show rng 401 from ⟨by decide, by decide⟩) rz_1).mp c_4
      exact th_vret hx hb hr hlocks hH hS ⟨hO, hF, trivial⟩ dX8_addToken_68
    · replace c_4 := mt (I_le (a := 401) (b := z_1) (show rng 401 from ⟨by decide, by decide⟩) rz_1).mpr c_4
      refine lv_aload_n hx hb dX8_addToken_17 rfl (lv_at hl 0 rfl) ?_
      refine ok.getR hO h_a (by decide) k3_0 (by decide) (fun _ _ he hv kk => th_get (ci := 8) (C := RX8) (T := TX8) (N := 9) hx hb hts inX8 hown hK hH he rfl 0 (by decide) fl1 hv dX8_addToken_18 kk) ?_
      refine lv_aload_n hx hb dX8_addToken_21 rfl (lv_at hl 0 rfl) ?_
      refine ok.getIc hO h_a (by decide) k3_4 e_2 (fun _ _ he hv kk => th_get (ci := 8) (C := RX8) (T := TX8) (N := 9) hx hb hts inX8 hown hK hH he rfl 4 (by decide) fl0 hv dX8_addToken_22 kk) ?_
      refine lv_iload_n hx hb dX8_addToken_25 rfl (lv_at hl 1 rfl) ?_
      refine ok_iast hx hb hK hH hS h00 hO h_a (by decide) k3_0 isA1 rz_1 (by omega) (by omega) rw1 el1 dX8_addToken_26 (fun σ_s_5 H locs hO hF9 hi9 ha9 hH hS => ?_)
      replace hF := hF.tu hF9 (by decide)
      have e_6 : gI σ_s_5 a 4 = z_1 := (hi9 _ _).trans e_2
      refine lv_aload_n hx hb dX8_addToken_27 rfl (lv_at hl 0 rfl) ?_
      refine ok.getR hO h_a (by decide) k3_1 (by decide) (fun _ _ he hv kk => th_get (ci := 8) (C := RX8) (T := TX8) (N := 9) hx hb hts inX8 hown hK hH he rfl 1 (by decide) fl2 hv dX8_addToken_28 kk) ?_
      refine lv_aload_n hx hb dX8_addToken_31 rfl (lv_at hl 0 rfl) ?_
      refine ok.getIc hO h_a (by decide) k3_4 e_6 (fun _ _ he hv kk => th_get (ci := 8) (C := RX8) (T := TX8) (N := 9) hx hb hts inX8 hown hK hH he rfl 4 (by decide) fl0 hv dX8_addToken_32 kk) ?_
      refine lv_iload_n hx hb dX8_addToken_35 rfl (lv_at hl 2 rfl) ?_
      refine ok_iast hx hb hK hH hS h00 hO h_a (by decide) k3_1 isA1 rz_1 (by omega) (by omega) rw2 el1 dX8_addToken_36 (fun σ_s_7 H locs hO hF9 hi9 ha9 hH hS => ?_)
      replace hF := hF.tu hF9 (by decide)
      have e_8 : gI σ_s_7 a 4 = z_1 := (hi9 _ _).trans e_6
      refine lv_aload_n hx hb dX8_addToken_37 rfl (lv_at hl 0 rfl) ?_
      refine ok.getR hO h_a (by decide) k3_2 (by decide) (fun _ _ he hv kk => th_get (ci := 8) (C := RX8) (T := TX8) (N := 9) hx hb hts inX8 hown hK hH he rfl 2 (by decide) fl3 hv dX8_addToken_38 kk) ?_
      refine lv_aload_n hx hb dX8_addToken_41 rfl (lv_at hl 0 rfl) ?_
      refine ok.getIc hO h_a (by decide) k3_4 e_8 (fun _ _ he hv kk => th_get (ci := 8) (C := RX8) (T := TX8) (N := 9) hx hb hts inX8 hown hK hH he rfl 4 (by decide) fl0 hv dX8_addToken_42 kk) ?_
      refine lv_iload_n hx hb dX8_addToken_45 rfl (lv_at hl 3 rfl) ?_
      refine ok_iast hx hb hK hH hS h00 hO h_a (by decide) k3_2 isA1 rz_1 (by omega) (by omega) rw3 el1 dX8_addToken_46 (fun σ_s_9 H locs hO hF9 hi9 ha9 hH hS => ?_)
      replace hF := hF.tu hF9 (by decide)
      have e_10 : gI σ_s_9 a 4 = z_1 := (hi9 _ _).trans e_8
      refine lv_aload_n hx hb dX8_addToken_47 rfl (lv_at hl 0 rfl) ?_
      refine ok.getR hO h_a (by decide) k3_3 (by decide) (fun _ _ he hv kk => th_get (ci := 8) (C := RX8) (T := TX8) (N := 9) hx hb hts inX8 hown hK hH he rfl 3 (by decide) fl4 hv dX8_addToken_48 kk) ?_
      refine lv_aload_n hx hb dX8_addToken_51 rfl (lv_at hl 0 rfl) ?_
      refine ok.getIc hO h_a (by decide) k3_4 e_10 (fun _ _ he hv kk => th_get (ci := 8) (C := RX8) (T := TX8) (N := 9) hx hb hts inX8 hown hK hH he rfl 4 (by decide) fl0 hv dX8_addToken_52 kk) ?_
      refine lv_iload hx hb dX8_addToken_55 (lv_at hl 4 rfl) ?_
      refine ok_iast hx hb hK hH hS h00 hO h_a (by decide) k3_3 isA1 rz_1 (by omega) (by omega) rw4 el1 dX8_addToken_57 (fun σ_s_11 H locs hO hF9 hi9 ha9 hH hS => ?_)
      replace hF := hF.tu hF9 (by decide)
      have e_12 : gI σ_s_11 a 4 = z_1 := (hi9 _ _).trans e_10
      refine lv_aload_n hx hb dX8_addToken_58 rfl (lv_at hl 0 rfl) ?_
      refine lv_dup hx hb dX8_addToken_59 rfl ?_
      refine ok.getIc hO h_a (by decide) k3_4 e_12 (fun _ _ he hv kk => th_get (ci := 8) (C := RX8) (T := TX8) (N := 9) hx hb hts inX8 hown hK hH he rfl 4 (by decide) fl0 hv dX8_addToken_60 kk) ?_
      refine lv_iconst (v := I 1) hx hb dX8_addToken_63 (by decide) ?_
      refine lv_iadd hx hb dX8_addToken_64 ?_
      refine nq_top (I_add _ _) ?_
      refine ok.putI hO h_a (by decide) k3_4 ⟨by omega, by omega⟩ (by omega) (by omega) (fun _ he hl9 kk => th_put (ci := 8) (v := .int (I (z_1 + 1))) (ty := .int) (C := RX8) (T := TX8) (N := 9) hx hb hts inX8 tyX8 tyX8_ok nmX8 hown hK hH hS h00 he rfl 4 (by decide) fl0 rfl (by decide +kernel) rfl rfl hl9 dX8_addToken_65 kk) (fun σ_s_13 H locs hO hF9 hg9 hi9 ha9 hH hS => ?_)
      replace hF := hF.tu hF9 (by decide)
      have e_14 := hg9
      exact th_vret hx hb hr hlocks hH hS ⟨hO, hF, trivial⟩ dX8_addToken_68

set_option maxHeartbeats 1000000 in
set_option maxRecDepth 100000 in
theorem k_isLetter (l : Launch) (G : va_G) (y : Nat → ClassId) (b0 : Nat) (σ : th_M) (E : th_E) (hO : ok y E σ) (i : Int) (ri : rng i) : Met l yX8_isLetter wsX8_isLetter ({ frames := 0, cells := 0, slots := 0, locals := 0 }) (th_P G y b0 σ [.int (I i)]) (th_Qi G b0 (fun r σ1 => σ1 = σ ∧ (0 ≤ r ∧ r ≤ 1) ∧ (r = 0 ∨ (97 ≤ i ∧ i ≤ 122)))) 0 0 (th_A b0) := by
  refine Met.ofW (cc := cX8_isLetter) (maxL := 1) (ret := (some .boolean)) (by decide) rfl ?_
  intro p e s m args below meth c s₁ B hml hv
  obtain ⟨rfl, hH, hK⟩ := hv
  have hx := B.exec
  have hb := B.bytes
  have hr := B.returns
  have hts := atoms_spec (ws := wsX8_isLetter) B.pre
  have hown : s.vm.findClass RX8 = some m.cls := findClass_of_methodNamed B.named
  have hlocks := B.notSynchronized
  have h00 : b0 ≤ s.heap.size := hH.1
  have hS : va_S (th_A b0) s.heap s.heap [] := va_S.rf
  have hl := lv_entry ([.int (I i)]) (n := 1) (Nat.le_of_ble_eq_true rfl)
  rw [lg_entry_eq]
  generalize (lg_sl ([.int (I i)]) ++ List.replicate (1 - (lg_sl ([.int (I i)])).length) Slot.unset).toArray = ls at hl ⊢
  have hl : lv_has ls 1 [(0, .int (I i))] := hl
  refine lv_iload_n hx hb dX8_isLetter_0 rfl (lv_at hl 0 rfl) ?_
  refine lv_bipush (v := I 97) hx hb dX8_isLetter_1 (by decide) ?_
  refine lv_icmp_lt (tgt := 16) hx hb dX8_isLetter_3 (by decide) (fun c_1 => ?_) (fun c_1 => ?_)
  · replace c_1 := (I_lt (a := i) (b := 97) ri (show rng 97 from ⟨by decide, by decide⟩)).mp c_1
    refine lv_iconst (v := I 0) hx hb dX8_isLetter_16 (by decide) ?_
    exact th_zret hx hb hr hlocks hH hS (z := 0) (by omega) ⟨rfl, ⟨by omega, by omega⟩, by omega⟩ dX8_isLetter_17
  · replace c_1 := mt (I_lt (a := i) (b := 97) ri (show rng 97 from ⟨by decide, by decide⟩)).mpr c_1
    refine lv_iload_n hx hb dX8_isLetter_6 rfl (lv_at hl 0 rfl) ?_
    refine lv_bipush (v := I 122) hx hb dX8_isLetter_7 (by decide) ?_
    refine lv_icmp_gt (tgt := 16) hx hb dX8_isLetter_9 (by decide) (fun c_2 => ?_) (fun c_2 => ?_)
    · replace c_2 := (I_lt (a := 122) (b := i) (show rng 122 from ⟨by decide, by decide⟩) ri).mp c_2
      refine lv_iconst (v := I 0) hx hb dX8_isLetter_16 (by decide) ?_
      exact th_zret hx hb hr hlocks hH hS (z := 0) (by omega) ⟨rfl, ⟨by omega, by omega⟩, by omega⟩ dX8_isLetter_17
    · replace c_2 := mt (I_lt (a := 122) (b := i) (show rng 122 from ⟨by decide, by decide⟩) ri).mpr c_2
      refine lv_iconst (v := I 1) hx hb dX8_isLetter_12 (by decide) ?_
      refine lv_goto (tgt := 17) hx hb dX8_isLetter_13 (by decide) ?_
      exact th_zret hx hb hr hlocks hH hS (z := 1) (by omega) ⟨rfl, ⟨by omega, by omega⟩, by omega⟩ dX8_isLetter_17

set_option maxHeartbeats 1000000 in
set_option maxRecDepth 100000 in
theorem k_isDigit (l : Launch) (G : va_G) (y : Nat → ClassId) (b0 : Nat) (σ : th_M) (E : th_E) (hO : ok y E σ) (i : Int) (ri : rng i) : Met l yX8_isDigit wsX8_isDigit ({ frames := 0, cells := 0, slots := 0, locals := 0 }) (th_P G y b0 σ [.int (I i)]) (th_Qi G b0 (fun r σ1 => σ1 = σ ∧ (0 ≤ r ∧ r ≤ 1) ∧ (r = 0 ∨ (48 ≤ i ∧ i ≤ 57)))) 0 0 (th_A b0) := by
  refine Met.ofW (cc := cX8_isDigit) (maxL := 1) (ret := (some .boolean)) (by decide) rfl ?_
  intro p e s m args below meth c s₁ B hml hv
  obtain ⟨rfl, hH, hK⟩ := hv
  have hx := B.exec
  have hb := B.bytes
  have hr := B.returns
  have hts := atoms_spec (ws := wsX8_isDigit) B.pre
  have hown : s.vm.findClass RX8 = some m.cls := findClass_of_methodNamed B.named
  have hlocks := B.notSynchronized
  have h00 : b0 ≤ s.heap.size := hH.1
  have hS : va_S (th_A b0) s.heap s.heap [] := va_S.rf
  have hl := lv_entry ([.int (I i)]) (n := 1) (Nat.le_of_ble_eq_true rfl)
  rw [lg_entry_eq]
  generalize (lg_sl ([.int (I i)]) ++ List.replicate (1 - (lg_sl ([.int (I i)])).length) Slot.unset).toArray = ls at hl ⊢
  have hl : lv_has ls 1 [(0, .int (I i))] := hl
  refine lv_iload_n hx hb dX8_isDigit_0 rfl (lv_at hl 0 rfl) ?_
  refine lv_bipush (v := I 48) hx hb dX8_isDigit_1 (by decide) ?_
  refine lv_icmp_lt (tgt := 16) hx hb dX8_isDigit_3 (by decide) (fun c_1 => ?_) (fun c_1 => ?_)
  · replace c_1 := (I_lt (a := i) (b := 48) ri (show rng 48 from ⟨by decide, by decide⟩)).mp c_1
    refine lv_iconst (v := I 0) hx hb dX8_isDigit_16 (by decide) ?_
    exact th_zret hx hb hr hlocks hH hS (z := 0) (by omega) ⟨rfl, ⟨by omega, by omega⟩, by omega⟩ dX8_isDigit_17
  · replace c_1 := mt (I_lt (a := i) (b := 48) ri (show rng 48 from ⟨by decide, by decide⟩)).mpr c_1
    refine lv_iload_n hx hb dX8_isDigit_6 rfl (lv_at hl 0 rfl) ?_
    refine lv_bipush (v := I 57) hx hb dX8_isDigit_7 (by decide) ?_
    refine lv_icmp_gt (tgt := 16) hx hb dX8_isDigit_9 (by decide) (fun c_2 => ?_) (fun c_2 => ?_)
    · replace c_2 := (I_lt (a := 57) (b := i) (show rng 57 from ⟨by decide, by decide⟩) ri).mp c_2
      refine lv_iconst (v := I 0) hx hb dX8_isDigit_16 (by decide) ?_
      exact th_zret hx hb hr hlocks hH hS (z := 0) (by omega) ⟨rfl, ⟨by omega, by omega⟩, by omega⟩ dX8_isDigit_17
    · replace c_2 := mt (I_lt (a := 57) (b := i) (show rng 57 from ⟨by decide, by decide⟩) ri).mpr c_2
      refine lv_iconst (v := I 1) hx hb dX8_isDigit_12 (by decide) ?_
      refine lv_goto (tgt := 17) hx hb dX8_isDigit_13 (by decide) ?_
      exact th_zret hx hb hr hlocks hH hS (z := 1) (by omega) ⟨rfl, ⟨by omega, by omega⟩, by omega⟩ dX8_isDigit_17

set_option maxHeartbeats 1000000 in
set_option maxRecDepth 100000 in
theorem k_findWord (l : Launch) (G : va_G) (y : Nat → ClassId) (b0 : Nat) (σ : th_M) (E : th_E) (hO : ok y E σ) (a : Nat) (h_a : kd E a = 3) (q : Nat) (h_q : kd E q = 12) (st : Int) (rst : rng st) (l_st : 0 ≤ st) (u_st : st ≤ 400) (ln : Int) (rln : rng ln) (l_ln : 0 ≤ ln) (u_ln : ln ≤ 400) : Met l yX8_findWord wsX8_findWord ({ frames := 1, cells := 0, slots := 0, locals := 40 }) (th_P G y b0 σ [.ref a, .ref (ad E q 0), .int (I st), .int (I ln)]) (th_Qi G b0 (fun r σ1 => ok y E σ1 ∧ fr [3] E σ σ1 ∧ (0 ≤ r ∧ r ≤ 400))) 0 0 (th_A b0) := by
  refine Met.ofW (cc := cX8_findWord) (maxL := 6) (ret := (some .int)) (by decide) rfl ?_
  intro p e s m args below meth c s₁ B hml hv
  obtain ⟨rfl, hH, hK⟩ := hv
  have hx := B.exec
  have hb := B.bytes
  have hr := B.returns
  have hts := atoms_spec (ws := wsX8_findWord) B.pre
  have hown : s.vm.findClass RX8 = some m.cls := findClass_of_methodNamed B.named
  have hlocks := B.notSynchronized
  have h00 : b0 ≤ s.heap.size := hH.1
  have hS : va_S (th_A b0) s.heap s.heap [] := va_S.rf
  have hF : fr [3] E σ σ := fr.rf
  have fl0 := hts (.methodLink RX8 34 Lib.Math.max.name) (by decide +kernel)
  have fl1 := hts (.static Lib.Math.max.name) (by decide +kernel)
  have fl2 := hts (.initialized "java/lang/Math") (by decide +kernel)
  have fl3 := hts (.code Lib.Math.max.name Lib.Math.max.code 2 (some .int)) (by decide +kernel)
  have hl := lv_entry ([.ref a, .ref (ad E q 0), .int (I st), .int (I ln)]) (n := 6) (Nat.le_of_ble_eq_true rfl)
  rw [lg_entry_eq]
  generalize (lg_sl ([.ref a, .ref (ad E q 0), .int (I st), .int (I ln)]) ++ List.replicate (6 - (lg_sl ([.ref a, .ref (ad E q 0), .int (I st), .int (I ln)])).length) Slot.unset).toArray = ls at hl ⊢
  have hl : lv_has ls 6 [(0, .ref a), (1, .ref (ad E q 0)), (2, .int (I st)), (3, .int (I ln))] := hl
  refine lv_iconst (v := I 0) hx hb dX8_findWord_0 (by decide) ?_
  refine lv_istore (lv' := [(4, .int (I 0)), (0, .ref a), (1, .ref (ad E q 0)), (2, .int (I st)), (3, .int (I ln))]) hx hb dX8_findWord_1 hl (by decide) rfl (fun ls hl => ?_)
  refine lv_iconst (v := I 0) hx hb dX8_findWord_3 (by decide) ?_
  refine lv_iload_n hx hb dX8_findWord_4 rfl (lv_at hl 3 rfl) ?_
  refine va_mmax hx hb (by rw [hml]; exact hl.1.symm) hown fl0 fl1 fl2 fl3 (Nat.le_of_ble_eq_true rfl) (Nat.le_of_ble_eq_true rfl) (Nat.zero_le _) (Nat.zero_le _) dX8_findWord_5 ?_
  refine th_mmax (show rng 0 from ⟨by decide, by decide⟩) rst (fun z_1 rz_1 hz_1 => ?_)
  refine lv_istore (lv' := [(5, .int (I z_1)), (4, .int (I 0)), (0, .ref a), (1, .ref (ad E q 0)), (2, .int (I st)), (3, .int (I ln))]) hx hb dX8_findWord_8 hl (by decide) rfl (fun ls hl => ?_)
  refine th_loop (α := Int × Int) (pc := 10) (fun x9 => (400 - x9.2).toNat) (fun x9 σ9 H9 l9 ls9 => σ9 = σ ∧ th_H G b0 σ9 H9 ∧ va_S (th_A b0) s.heap H9 l9 ∧ lv_has ls9 6 [(0, .ref a), (1, .ref (ad E q 0)), (2, .int (I st)), (3, .int (I ln)), (4, .int (I x9.1)), (5, .int (I x9.2))] ∧ rng x9.1 ∧ rng x9.2 ∧ (0 ≤ x9.2) ∧ (x9.2 ≤ 400)) ?_ (0, z_1) σ _ _ _ ⟨rfl, hH, hS, lv_sub hl [2, 3, 4, 5, 1, 0] rfl, (show rng 0 from ⟨by decide, by decide⟩), rz_1, by first | omega | (dsimp only; omega), by first | omega | (dsimp only; omega)⟩
  intro x9 σ_J_16 H locs ls hI9 ihJ_16
  obtain ⟨v4q15, v5q15⟩ := x9
  obtain ⟨eJ_16, hH, hS, hl, rv4q15, rv5q15, J_16_0, J_16_1⟩ := hI9
  replace eJ_16 := eJ_16.symm
  subst eJ_16
  have hl : lv_has ls 6 [(0, .ref a), (1, .ref (ad E q 0)), (2, .int (I st)), (3, .int (I ln)), (4, .int (I v4q15)), (5, .int (I v5q15))] := hl
  have rv4q15 : rng v4q15 := rv4q15
  have rv5q15 : rng v5q15 := rv5q15
  have J_16_0 : 0 ≤ v5q15 := J_16_0
  have J_16_1 : v5q15 ≤ 400 := J_16_1
  refine lv_iload hx hb dX8_findWord_10 (lv_at hl 5 rfl) ?_
  refine lv_iload_n hx hb dX8_findWord_12 rfl (lv_at hl 3 rfl) ?_
  refine lv_icmp_ge (tgt := 55) hx hb dX8_findWord_13 (by decide) (fun c_17 => ?_) (fun c_17 => ?_)
  · replace c_17 := (I_le (a := ln) (b := v5q15) rln rv5q15).mp c_17
    refine lv_aload_n hx hb dX8_findWord_55 rfl (lv_at hl 0 rfl) ?_
    refine lv_sipush (v := I 256) hx hb dX8_findWord_56 (by decide) ?_
    refine lv_iload_n hx hb dX8_findWord_59 rfl (lv_at hl 2 rfl) ?_
    refine lv_iload hx hb dX8_findWord_60 (lv_at hl 4 rfl) ?_
    refine lv_iload hx hb dX8_findWord_62 (lv_at hl 5 rfl) ?_
    refine lv_iload_n hx hb dX8_findWord_64 rfl (lv_at hl 2 rfl) ?_
    refine lv_isub hx hb dX8_findWord_65 ?_
    refine nq_top (I_sub _ _) ?_
    obtain ⟨_, hc_18⟩ := hO.cell h_a (by decide) (ci := 8) rfl
    refine th_callv (va_runV (As := [.int (I 256), .int (I st), .int (I v4q15), .int (I (v5q15 - st))]) (rest := []) ⟨hx, hb, hml, hown, hts⟩ (k_addToken l G y b0 σ E hO a h_a 256 (show rng 256 from (show rng 256 from ⟨by decide, by decide⟩)) st (show rng st from rst) v4q15 (show rng v4q15 from rv4q15) (v5q15 - st) (show rng (v5q15 - st) from ⟨by omega, by omega⟩)) (cwV 4 hts gX8_findWord_X8_addToken rfl rfl rfl (by decide +kernel) ⟨Nat.le_of_ble_eq_true rfl, Nat.le_of_ble_eq_true rfl⟩) (th_PV hK hH rfl hc_18) rfl rfl hl.1 rfl (lv_room (Nat.le_of_ble_eq_true rfl)) dX8_findWord_66 ⟨Nat.le_of_ble_eq_true rfl, Nat.le_of_ble_eq_true rfl⟩) hS (fun σ_s_20 H locs hw_19 hH hS => ?_)
    obtain ⟨hO9, hF9, hw_19⟩ := hw_19
    replace hO := hO9
    replace hF := hF.tu hF9 (by decide)
    refine lv_iload hx hb dX8_findWord_69 (lv_at hl 5 rfl) ?_
    exact th_iret hx hb hr hlocks hH hS (z := v5q15) rv5q15 ⟨hO, hF, by omega⟩ dX8_findWord_71
  · replace c_17 := mt (I_le (a := ln) (b := v5q15) rln rv5q15).mpr c_17
    refine lv_iload hx hb dX8_findWord_16 (lv_at hl 5 rfl) ?_
    refine lv_aload_n hx hb dX8_findWord_18 rfl (lv_at hl 1 rfl) ?_
    refine ok_alen hx hb hK hH hO h_q (by decide) k12_0 isA1 (by decide) dX8_findWord_19 ?_
    refine lv_icmp_ge (tgt := 55) hx hb dX8_findWord_20 (by decide) (fun c_21 => ?_) (fun c_21 => ?_)
    · replace c_21 := (I_le (a := 400) (b := v5q15) (show rng 400 from ⟨by decide, by decide⟩) rv5q15).mp c_21
      refine lv_aload_n hx hb dX8_findWord_55 rfl (lv_at hl 0 rfl) ?_
      refine lv_sipush (v := I 256) hx hb dX8_findWord_56 (by decide) ?_
      refine lv_iload_n hx hb dX8_findWord_59 rfl (lv_at hl 2 rfl) ?_
      refine lv_iload hx hb dX8_findWord_60 (lv_at hl 4 rfl) ?_
      refine lv_iload hx hb dX8_findWord_62 (lv_at hl 5 rfl) ?_
      refine lv_iload_n hx hb dX8_findWord_64 rfl (lv_at hl 2 rfl) ?_
      refine lv_isub hx hb dX8_findWord_65 ?_
      refine nq_top (I_sub _ _) ?_
      obtain ⟨_, hc_22⟩ := hO.cell h_a (by decide) (ci := 8) rfl
      refine th_callv (va_runV (As := [.int (I 256), .int (I st), .int (I v4q15), .int (I (v5q15 - st))]) (rest := []) ⟨hx, hb, hml, hown, hts⟩ (k_addToken l G y b0 σ E hO a h_a 256 (show rng 256 from (show rng 256 from ⟨by decide, by decide⟩)) st (show rng st from rst) v4q15 (show rng v4q15 from rv4q15) (v5q15 - st) (show rng (v5q15 - st) from ⟨by omega, by omega⟩)) (cwV 4 hts gX8_findWord_X8_addToken rfl rfl rfl (by decide +kernel) ⟨Nat.le_of_ble_eq_true rfl, Nat.le_of_ble_eq_true rfl⟩) (th_PV hK hH rfl hc_22) rfl rfl hl.1 rfl (lv_room (Nat.le_of_ble_eq_true rfl)) dX8_findWord_66 ⟨Nat.le_of_ble_eq_true rfl, Nat.le_of_ble_eq_true rfl⟩) hS (fun σ_s_24 H locs hw_23 hH hS => ?_)
      obtain ⟨hO9, hF9, hw_23⟩ := hw_23
      replace hO := hO9
      replace hF := hF.tu hF9 (by decide)
      refine lv_iload hx hb dX8_findWord_69 (lv_at hl 5 rfl) ?_
      exact th_iret hx hb hr hlocks hH hS (z := v5q15) rv5q15 ⟨hO, hF, by omega⟩ dX8_findWord_71
    · replace c_21 := mt (I_le (a := 400) (b := v5q15) (show rng 400 from ⟨by decide, by decide⟩) rv5q15).mpr c_21
      refine lv_aload_n hx hb dX8_findWord_23 rfl (lv_at hl 1 rfl) ?_
      refine lv_iload hx hb dX8_findWord_24 (lv_at hl 5 rfl) ?_
      refine ok_iald hx hb hK hH hO h_q (by decide) k12_0 isA1 rv5q15 (by omega) (by omega) dX8_findWord_26 (fun z_25 ez_25 rz_25 el9 => ?_)
      refine th_calli (va_runS (As := [.int (I z_25)]) (rest := []) ⟨hx, hb, hml, hown, hts⟩ (k_isLetter l G y b0 σ E hO z_25 (show rng z_25 from rz_25)) (va_cwS 1 hts gX8_findWord_X8_isLetter rfl rfl rfl (by decide +kernel) ⟨Nat.le_of_ble_eq_true rfl, Nat.le_of_ble_eq_true rfl⟩) (th_PS hK hH) rfl rfl hl.1 rfl (lv_room (Nat.le_of_ble_eq_true rfl)) dX8_findWord_27 ⟨Nat.le_of_ble_eq_true rfl, Nat.le_of_ble_eq_true rfl⟩) hS (fun z_28 σ_s_27 H locs rz_28 hw_26 hH hS => ?_)
      obtain ⟨e9, bhw_26, hw_26⟩ := hw_26
      replace e9 := e9.symm
      subst e9
      have hw_26 : z_28 = 0 ∨ (97 ≤ z_25 ∧ z_25 ≤ 122) := hw_26
      refine lv_if_eq (tgt := 55) hx hb dX8_findWord_30 (by decide) (fun c_29 => ?_) (fun c_29 => ?_)
      · replace c_29 := (I_eq (a := z_28) (b := 0) rz_28 (show rng 0 from ⟨by decide, by decide⟩)).mp c_29
        refine lv_aload_n hx hb dX8_findWord_55 rfl (lv_at hl 0 rfl) ?_
        refine lv_sipush (v := I 256) hx hb dX8_findWord_56 (by decide) ?_
        refine lv_iload_n hx hb dX8_findWord_59 rfl (lv_at hl 2 rfl) ?_
        refine lv_iload hx hb dX8_findWord_60 (lv_at hl 4 rfl) ?_
        refine lv_iload hx hb dX8_findWord_62 (lv_at hl 5 rfl) ?_
        refine lv_iload_n hx hb dX8_findWord_64 rfl (lv_at hl 2 rfl) ?_
        refine lv_isub hx hb dX8_findWord_65 ?_
        refine nq_top (I_sub _ _) ?_
        obtain ⟨_, hc_30⟩ := hO.cell h_a (by decide) (ci := 8) rfl
        refine th_callv (va_runV (As := [.int (I 256), .int (I st), .int (I v4q15), .int (I (v5q15 - st))]) (rest := []) ⟨hx, hb, hml, hown, hts⟩ (k_addToken l G y b0 σ E hO a h_a 256 (show rng 256 from (show rng 256 from ⟨by decide, by decide⟩)) st (show rng st from rst) v4q15 (show rng v4q15 from rv4q15) (v5q15 - st) (show rng (v5q15 - st) from ⟨by omega, by omega⟩)) (cwV 4 hts gX8_findWord_X8_addToken rfl rfl rfl (by decide +kernel) ⟨Nat.le_of_ble_eq_true rfl, Nat.le_of_ble_eq_true rfl⟩) (th_PV hK hH rfl hc_30) rfl rfl hl.1 rfl (lv_room (Nat.le_of_ble_eq_true rfl)) dX8_findWord_66 ⟨Nat.le_of_ble_eq_true rfl, Nat.le_of_ble_eq_true rfl⟩) hS (fun σ_s_32 H locs hw_31 hH hS => ?_)
        obtain ⟨hO9, hF9, hw_31⟩ := hw_31
        replace hO := hO9
        replace hF := hF.tu hF9 (by decide)
        refine lv_iload hx hb dX8_findWord_69 (lv_at hl 5 rfl) ?_
        exact th_iret hx hb hr hlocks hH hS (z := v5q15) rv5q15 ⟨hO, hF, by omega⟩ dX8_findWord_71
      · replace c_29 := mt (I_eq (a := z_28) (b := 0) rz_28 (show rng 0 from ⟨by decide, by decide⟩)).mpr c_29
        refine lv_iload hx hb dX8_findWord_33 (lv_at hl 4 rfl) ?_
        refine lv_iconst (v := I 5) hx hb dX8_findWord_35 (by decide) ?_
        refine lv_ishl hx hb dX8_findWord_36 ?_
        refine th_topi (fun z_33 rz_33 => ?_)
        refine lv_aload_n hx hb dX8_findWord_37 rfl (lv_at hl 1 rfl) ?_
        refine lv_iload hx hb dX8_findWord_38 (lv_at hl 5 rfl) ?_
        refine ok_iald hx hb hK hH hO h_q (by decide) k12_0 isA1 rv5q15 (by omega) (by omega) dX8_findWord_40 (fun z_34 ez_34 rz_34 el9 => ?_)
        refine lv_bipush (v := I 97) hx hb dX8_findWord_41 (by decide) ?_
        refine lv_isub hx hb dX8_findWord_43 ?_
        refine th_subo (fun z_35 rz_35 hz_35 => ?_)
        refine lv_iconst (v := I 1) hx hb dX8_findWord_44 (by decide) ?_
        refine lv_iadd hx hb dX8_findWord_45 ?_
        refine th_addo (fun z_36 rz_36 hz_36 => ?_)
        refine lv_ior hx hb dX8_findWord_46 ?_
        refine th_topi (fun z_37 rz_37 => ?_)
        refine lv_istore (lv' := [(4, .int (I z_37)), (0, .ref a), (1, .ref (ad E q 0)), (2, .int (I st)), (3, .int (I ln)), (5, .int (I v5q15))]) hx hb dX8_findWord_47 hl (by decide) rfl (fun ls hl => ?_)
        refine lv_iinc (v := I (v5q15 + 1)) (lv' := [(5, .int (I (v5q15 + 1))), (4, .int (I z_37)), (0, .ref a), (1, .ref (ad E q 0)), (2, .int (I st)), (3, .int (I ln))]) hx hb dX8_findWord_49 hl (k := 5) rfl (I_add _ _) (by decide) rfl (fun ls hl => ?_)
        refine lv_goto (tgt := 10) hx hb dX8_findWord_52 (by decide) ?_
        exact ihJ_16 (z_37, v5q15 + 1) σ _ _ _ (by first | omega | (dsimp only; omega)) ⟨rfl, hH, hS, lv_sub hl [2, 3, 4, 5, 1, 0] rfl, rz_37, ⟨by first | omega | (dsimp only; omega), by first | omega | (dsimp only; omega)⟩, by first | omega | (dsimp only; omega), by first | omega | (dsimp only; omega)⟩

set_option maxHeartbeats 1000000 in
set_option maxRecDepth 100000 in
theorem k_findDigits (l : Launch) (G : va_G) (y : Nat → ClassId) (b0 : Nat) (σ : th_M) (E : th_E) (hO : ok y E σ) (a : Nat) (h_a : kd E a = 3) (q : Nat) (h_q : kd E q = 12) (st : Int) (rst : rng st) (l_st : 0 ≤ st) (u_st : st ≤ 400) (ln : Int) (rln : rng ln) (l_ln : 0 ≤ ln) (u_ln : ln ≤ 400) : Met l yX8_findDigits wsX8_findDigits ({ frames := 1, cells := 0, slots := 0, locals := 40 }) (th_P G y b0 σ [.ref a, .ref (ad E q 0), .int (I st), .int (I ln)]) (th_Qi G b0 (fun r σ1 => ok y E σ1 ∧ fr [3] E σ σ1 ∧ (0 ≤ r ∧ r ≤ 400))) 0 0 (th_A b0) := by
  refine Met.ofW (cc := cX8_findDigits) (maxL := 6) (ret := (some .int)) (by decide) rfl ?_
  intro p e s m args below meth c s₁ B hml hv
  obtain ⟨rfl, hH, hK⟩ := hv
  have hx := B.exec
  have hb := B.bytes
  have hr := B.returns
  have hts := atoms_spec (ws := wsX8_findDigits) B.pre
  have hown : s.vm.findClass RX8 = some m.cls := findClass_of_methodNamed B.named
  have hlocks := B.notSynchronized
  have h00 : b0 ≤ s.heap.size := hH.1
  have hS : va_S (th_A b0) s.heap s.heap [] := va_S.rf
  have hF : fr [3] E σ σ := fr.rf
  have fl0 := hts (.methodLink RX8 34 Lib.Math.max.name) (by decide +kernel)
  have fl1 := hts (.static Lib.Math.max.name) (by decide +kernel)
  have fl2 := hts (.initialized "java/lang/Math") (by decide +kernel)
  have fl3 := hts (.code Lib.Math.max.name Lib.Math.max.code 2 (some .int)) (by decide +kernel)
  have hl := lv_entry ([.ref a, .ref (ad E q 0), .int (I st), .int (I ln)]) (n := 6) (Nat.le_of_ble_eq_true rfl)
  rw [lg_entry_eq]
  generalize (lg_sl ([.ref a, .ref (ad E q 0), .int (I st), .int (I ln)]) ++ List.replicate (6 - (lg_sl ([.ref a, .ref (ad E q 0), .int (I st), .int (I ln)])).length) Slot.unset).toArray = ls at hl ⊢
  have hl : lv_has ls 6 [(0, .ref a), (1, .ref (ad E q 0)), (2, .int (I st)), (3, .int (I ln))] := hl
  refine lv_iconst (v := I 0) hx hb dX8_findDigits_0 (by decide) ?_
  refine lv_istore (lv' := [(4, .int (I 0)), (0, .ref a), (1, .ref (ad E q 0)), (2, .int (I st)), (3, .int (I ln))]) hx hb dX8_findDigits_1 hl (by decide) rfl (fun ls hl => ?_)
  refine lv_iconst (v := I 0) hx hb dX8_findDigits_3 (by decide) ?_
  refine lv_iload_n hx hb dX8_findDigits_4 rfl (lv_at hl 3 rfl) ?_
  refine va_mmax hx hb (by rw [hml]; exact hl.1.symm) hown fl0 fl1 fl2 fl3 (Nat.le_of_ble_eq_true rfl) (Nat.le_of_ble_eq_true rfl) (Nat.zero_le _) (Nat.zero_le _) dX8_findDigits_5 ?_
  refine th_mmax (show rng 0 from ⟨by decide, by decide⟩) rst (fun z_1 rz_1 hz_1 => ?_)
  refine lv_istore (lv' := [(5, .int (I z_1)), (4, .int (I 0)), (0, .ref a), (1, .ref (ad E q 0)), (2, .int (I st)), (3, .int (I ln))]) hx hb dX8_findDigits_8 hl (by decide) rfl (fun ls hl => ?_)
  refine th_loop (α := Int × Int) (pc := 10) (fun x9 => (400 - x9.2).toNat) (fun x9 σ9 H9 l9 ls9 => σ9 = σ ∧ th_H G b0 σ9 H9 ∧ va_S (th_A b0) s.heap H9 l9 ∧ lv_has ls9 6 [(0, .ref a), (1, .ref (ad E q 0)), (2, .int (I st)), (3, .int (I ln)), (4, .int (I x9.1)), (5, .int (I x9.2))] ∧ rng x9.1 ∧ rng x9.2 ∧ (0 ≤ x9.2) ∧ (x9.2 ≤ 400)) ?_ (0, z_1) σ _ _ _ ⟨rfl, hH, hS, lv_sub hl [2, 3, 4, 5, 1, 0] rfl, (show rng 0 from ⟨by decide, by decide⟩), rz_1, by first | omega | (dsimp only; omega), by first | omega | (dsimp only; omega)⟩
  intro x9 σ_J_14 H locs ls hI9 ihJ_14
  obtain ⟨v4q13, v5q13⟩ := x9
  obtain ⟨eJ_14, hH, hS, hl, rv4q13, rv5q13, J_14_0, J_14_1⟩ := hI9
  replace eJ_14 := eJ_14.symm
  subst eJ_14
  have hl : lv_has ls 6 [(0, .ref a), (1, .ref (ad E q 0)), (2, .int (I st)), (3, .int (I ln)), (4, .int (I v4q13)), (5, .int (I v5q13))] := hl
  have rv4q13 : rng v4q13 := rv4q13
  have rv5q13 : rng v5q13 := rv5q13
  have J_14_0 : 0 ≤ v5q13 := J_14_0
  have J_14_1 : v5q13 ≤ 400 := J_14_1
  refine lv_iload hx hb dX8_findDigits_10 (lv_at hl 5 rfl) ?_
  refine lv_iload_n hx hb dX8_findDigits_12 rfl (lv_at hl 3 rfl) ?_
  refine lv_icmp_ge (tgt := 54) hx hb dX8_findDigits_13 (by decide) (fun c_15 => ?_) (fun c_15 => ?_)
  · replace c_15 := (I_le (a := ln) (b := v5q13) rln rv5q13).mp c_15
    refine lv_aload_n hx hb dX8_findDigits_54 rfl (lv_at hl 0 rfl) ?_
    refine lv_sipush (v := I 257) hx hb dX8_findDigits_55 (by decide) ?_
    refine lv_iload_n hx hb dX8_findDigits_58 rfl (lv_at hl 2 rfl) ?_
    refine lv_iload hx hb dX8_findDigits_59 (lv_at hl 4 rfl) ?_
    refine lv_iload hx hb dX8_findDigits_61 (lv_at hl 5 rfl) ?_
    refine lv_iload_n hx hb dX8_findDigits_63 rfl (lv_at hl 2 rfl) ?_
    refine lv_isub hx hb dX8_findDigits_64 ?_
    refine nq_top (I_sub _ _) ?_
    obtain ⟨_, hc_16⟩ := hO.cell h_a (by decide) (ci := 8) rfl
    refine th_callv (va_runV (As := [.int (I 257), .int (I st), .int (I v4q13), .int (I (v5q13 - st))]) (rest := []) ⟨hx, hb, hml, hown, hts⟩ (k_addToken l G y b0 σ E hO a h_a 257 (show rng 257 from (show rng 257 from ⟨by decide, by decide⟩)) st (show rng st from rst) v4q13 (show rng v4q13 from rv4q13) (v5q13 - st) (show rng (v5q13 - st) from ⟨by omega, by omega⟩)) (cwV 4 hts gX8_findDigits_X8_addToken rfl rfl rfl (by decide +kernel) ⟨Nat.le_of_ble_eq_true rfl, Nat.le_of_ble_eq_true rfl⟩) (th_PV hK hH rfl hc_16) rfl rfl hl.1 rfl (lv_room (Nat.le_of_ble_eq_true rfl)) dX8_findDigits_65 ⟨Nat.le_of_ble_eq_true rfl, Nat.le_of_ble_eq_true rfl⟩) hS (fun σ_s_18 H locs hw_17 hH hS => ?_)
    obtain ⟨hO9, hF9, hw_17⟩ := hw_17
    replace hO := hO9
    replace hF := hF.tu hF9 (by decide)
    refine lv_iload hx hb dX8_findDigits_68 (lv_at hl 5 rfl) ?_
    exact th_iret hx hb hr hlocks hH hS (z := v5q13) rv5q13 ⟨hO, hF, by omega⟩ dX8_findDigits_70
  · replace c_15 := mt (I_le (a := ln) (b := v5q13) rln rv5q13).mpr c_15
    refine lv_iload hx hb dX8_findDigits_16 (lv_at hl 5 rfl) ?_
    refine lv_aload_n hx hb dX8_findDigits_18 rfl (lv_at hl 1 rfl) ?_
    refine ok_alen hx hb hK hH hO h_q (by decide) k12_0 isA1 (by decide) dX8_findDigits_19 ?_
    refine lv_icmp_ge (tgt := 54) hx hb dX8_findDigits_20 (by decide) (fun c_19 => ?_) (fun c_19 => ?_)
    · replace c_19 := (I_le (a := 400) (b := v5q13) (show rng 400 from ⟨by decide, by decide⟩) rv5q13).mp c_19
      refine lv_aload_n hx hb dX8_findDigits_54 rfl (lv_at hl 0 rfl) ?_
      refine lv_sipush (v := I 257) hx hb dX8_findDigits_55 (by decide) ?_
      refine lv_iload_n hx hb dX8_findDigits_58 rfl (lv_at hl 2 rfl) ?_
      refine lv_iload hx hb dX8_findDigits_59 (lv_at hl 4 rfl) ?_
      refine lv_iload hx hb dX8_findDigits_61 (lv_at hl 5 rfl) ?_
      refine lv_iload_n hx hb dX8_findDigits_63 rfl (lv_at hl 2 rfl) ?_
      refine lv_isub hx hb dX8_findDigits_64 ?_
      refine nq_top (I_sub _ _) ?_
      obtain ⟨_, hc_20⟩ := hO.cell h_a (by decide) (ci := 8) rfl
      refine th_callv (va_runV (As := [.int (I 257), .int (I st), .int (I v4q13), .int (I (v5q13 - st))]) (rest := []) ⟨hx, hb, hml, hown, hts⟩ (k_addToken l G y b0 σ E hO a h_a 257 (show rng 257 from (show rng 257 from ⟨by decide, by decide⟩)) st (show rng st from rst) v4q13 (show rng v4q13 from rv4q13) (v5q13 - st) (show rng (v5q13 - st) from ⟨by omega, by omega⟩)) (cwV 4 hts gX8_findDigits_X8_addToken rfl rfl rfl (by decide +kernel) ⟨Nat.le_of_ble_eq_true rfl, Nat.le_of_ble_eq_true rfl⟩) (th_PV hK hH rfl hc_20) rfl rfl hl.1 rfl (lv_room (Nat.le_of_ble_eq_true rfl)) dX8_findDigits_65 ⟨Nat.le_of_ble_eq_true rfl, Nat.le_of_ble_eq_true rfl⟩) hS (fun σ_s_22 H locs hw_21 hH hS => ?_)
      obtain ⟨hO9, hF9, hw_21⟩ := hw_21
      replace hO := hO9
      replace hF := hF.tu hF9 (by decide)
      refine lv_iload hx hb dX8_findDigits_68 (lv_at hl 5 rfl) ?_
      exact th_iret hx hb hr hlocks hH hS (z := v5q13) rv5q13 ⟨hO, hF, by omega⟩ dX8_findDigits_70
    · replace c_19 := mt (I_le (a := 400) (b := v5q13) (show rng 400 from ⟨by decide, by decide⟩) rv5q13).mpr c_19
      refine lv_aload_n hx hb dX8_findDigits_23 rfl (lv_at hl 1 rfl) ?_
      refine lv_iload hx hb dX8_findDigits_24 (lv_at hl 5 rfl) ?_
      refine ok_iald hx hb hK hH hO h_q (by decide) k12_0 isA1 rv5q13 (by omega) (by omega) dX8_findDigits_26 (fun z_23 ez_23 rz_23 el9 => ?_)
      refine th_calli (va_runS (As := [.int (I z_23)]) (rest := []) ⟨hx, hb, hml, hown, hts⟩ (k_isDigit l G y b0 σ E hO z_23 (show rng z_23 from rz_23)) (va_cwS 1 hts gX8_findDigits_X8_isDigit rfl rfl rfl (by decide +kernel) ⟨Nat.le_of_ble_eq_true rfl, Nat.le_of_ble_eq_true rfl⟩) (th_PS hK hH) rfl rfl hl.1 rfl (lv_room (Nat.le_of_ble_eq_true rfl)) dX8_findDigits_27 ⟨Nat.le_of_ble_eq_true rfl, Nat.le_of_ble_eq_true rfl⟩) hS (fun z_26 σ_s_25 H locs rz_26 hw_24 hH hS => ?_)
      obtain ⟨e9, bhw_24, hw_24⟩ := hw_24
      replace e9 := e9.symm
      subst e9
      have hw_24 : z_26 = 0 ∨ (48 ≤ z_23 ∧ z_23 ≤ 57) := hw_24
      refine lv_if_eq (tgt := 54) hx hb dX8_findDigits_30 (by decide) (fun c_27 => ?_) (fun c_27 => ?_)
      · replace c_27 := (I_eq (a := z_26) (b := 0) rz_26 (show rng 0 from ⟨by decide, by decide⟩)).mp c_27
        refine lv_aload_n hx hb dX8_findDigits_54 rfl (lv_at hl 0 rfl) ?_
        refine lv_sipush (v := I 257) hx hb dX8_findDigits_55 (by decide) ?_
        refine lv_iload_n hx hb dX8_findDigits_58 rfl (lv_at hl 2 rfl) ?_
        refine lv_iload hx hb dX8_findDigits_59 (lv_at hl 4 rfl) ?_
        refine lv_iload hx hb dX8_findDigits_61 (lv_at hl 5 rfl) ?_
        refine lv_iload_n hx hb dX8_findDigits_63 rfl (lv_at hl 2 rfl) ?_
        refine lv_isub hx hb dX8_findDigits_64 ?_
        refine nq_top (I_sub _ _) ?_
        obtain ⟨_, hc_28⟩ := hO.cell h_a (by decide) (ci := 8) rfl
        refine th_callv (va_runV (As := [.int (I 257), .int (I st), .int (I v4q13), .int (I (v5q13 - st))]) (rest := []) ⟨hx, hb, hml, hown, hts⟩ (k_addToken l G y b0 σ E hO a h_a 257 (show rng 257 from (show rng 257 from ⟨by decide, by decide⟩)) st (show rng st from rst) v4q13 (show rng v4q13 from rv4q13) (v5q13 - st) (show rng (v5q13 - st) from ⟨by omega, by omega⟩)) (cwV 4 hts gX8_findDigits_X8_addToken rfl rfl rfl (by decide +kernel) ⟨Nat.le_of_ble_eq_true rfl, Nat.le_of_ble_eq_true rfl⟩) (th_PV hK hH rfl hc_28) rfl rfl hl.1 rfl (lv_room (Nat.le_of_ble_eq_true rfl)) dX8_findDigits_65 ⟨Nat.le_of_ble_eq_true rfl, Nat.le_of_ble_eq_true rfl⟩) hS (fun σ_s_30 H locs hw_29 hH hS => ?_)
        obtain ⟨hO9, hF9, hw_29⟩ := hw_29
        replace hO := hO9
        replace hF := hF.tu hF9 (by decide)
        refine lv_iload hx hb dX8_findDigits_68 (lv_at hl 5 rfl) ?_
        exact th_iret hx hb hr hlocks hH hS (z := v5q13) rv5q13 ⟨hO, hF, by omega⟩ dX8_findDigits_70
      · replace c_27 := mt (I_eq (a := z_26) (b := 0) rz_26 (show rng 0 from ⟨by decide, by decide⟩)).mpr c_27
        refine lv_iload hx hb dX8_findDigits_33 (lv_at hl 4 rfl) ?_
        refine lv_bipush (v := I 10) hx hb dX8_findDigits_35 (by decide) ?_
        refine lv_imul hx hb dX8_findDigits_37 ?_
        refine nq_top (I_mul _ _) ?_
        refine lv_aload_n hx hb dX8_findDigits_38 rfl (lv_at hl 1 rfl) ?_
        refine lv_iload hx hb dX8_findDigits_39 (lv_at hl 5 rfl) ?_
        refine ok_iald hx hb hK hH hO h_q (by decide) k12_0 isA1 rv5q13 (by omega) (by omega) dX8_findDigits_41 (fun z_31 ez_31 rz_31 el9 => ?_)
        refine lv_iadd hx hb dX8_findDigits_42 ?_
        refine th_addo (fun z_32 rz_32 hz_32 => ?_)
        refine lv_bipush (v := I 48) hx hb dX8_findDigits_43 (by decide) ?_
        refine lv_isub hx hb dX8_findDigits_45 ?_
        refine th_subo (fun z_33 rz_33 hz_33 => ?_)
        refine lv_istore (lv' := [(4, .int (I z_33)), (0, .ref a), (1, .ref (ad E q 0)), (2, .int (I st)), (3, .int (I ln)), (5, .int (I v5q13))]) hx hb dX8_findDigits_46 hl (by decide) rfl (fun ls hl => ?_)
        refine lv_iinc (v := I (v5q13 + 1)) (lv' := [(5, .int (I (v5q13 + 1))), (4, .int (I z_33)), (0, .ref a), (1, .ref (ad E q 0)), (2, .int (I st)), (3, .int (I ln))]) hx hb dX8_findDigits_48 hl (k := 5) rfl (I_add _ _) (by decide) rfl (fun ls hl => ?_)
        refine lv_goto (tgt := 10) hx hb dX8_findDigits_51 (by decide) ?_
        exact ihJ_14 (z_33, v5q13 + 1) σ _ _ _ (by first | omega | (dsimp only; omega)) ⟨rfl, hH, hS, lv_sub hl [2, 3, 4, 5, 1, 0] rfl, rz_33, ⟨by first | omega | (dsimp only; omega), by first | omega | (dsimp only; omega)⟩, by first | omega | (dsimp only; omega), by first | omega | (dsimp only; omega)⟩

set_option maxHeartbeats 1000000 in
set_option maxRecDepth 100000 in
theorem k_begin (l : Launch) (G : va_G) (y : Nat → ClassId) (b0 : Nat) (σ : th_M) (E : th_E) (hO : ok y E σ) (a : Nat) (h_a : kd E a = 3) (q : Nat) (h_q : kd E q = 12) (n : Int) (rn : rng n) : Met l yX8_begin wsX8_begin ({ frames := 2, cells := 0, slots := 0, locals := 69 }) (th_P G y b0 σ [.ref a, .ref (ad E q 0), .int (I n)]) (th_Qv G b0 (fun σ1 => ok y E σ1 ∧ fr [3] E σ σ1 ∧ (True))) 0 0 (th_A b0) := by
  refine Met.ofW (cc := cX8_begin) (maxL := 8) (ret := none) (by decide) rfl ?_
  intro p e s m args below meth c s₁ B hml hv
  obtain ⟨rfl, hH, hK⟩ := hv
  have hx := B.exec
  have hb := B.bytes
  have hr := B.returns
  have hts := atoms_spec (ws := wsX8_begin) B.pre
  have hown : s.vm.findClass RX8 = some m.cls := findClass_of_methodNamed B.named
  have hlocks := B.notSynchronized
  have h00 : b0 ≤ s.heap.size := hH.1
  have hS : va_S (th_A b0) s.heap s.heap [] := va_S.rf
  have hF : fr [3] E σ σ := fr.rf
  have inX8 : ∀ w ∈ wsX80, w ∈ wsX8_begin := by decide +kernel
  have fl0 := hts (.methodLink RX8 28 Lib.Math.min.name) (by decide +kernel)
  have fl1 := hts (.static Lib.Math.min.name) (by decide +kernel)
  have fl2 := hts (.initialized "java/lang/Math") (by decide +kernel)
  have fl3 := hts (.code Lib.Math.min.name Lib.Math.min.code 2 (some .int)) (by decide +kernel)
  have fl4 := hts (.methodLink RX8 34 Lib.Math.max.name) (by decide +kernel)
  have fl5 := hts (.static Lib.Math.max.name) (by decide +kernel)
  have fl6 := hts (.code Lib.Math.max.name Lib.Math.max.code 2 (some .int)) (by decide +kernel)
  have fl7 := hts (.fieldLink RX8 37 "NestQuery$Tokens" "found" "I") (by decide +kernel)
  have fl8 := hts (.fieldLink RX8 58 "NestQuery$Tokens" "fault" "I") (by decide +kernel)
  have fl9 := hts (.fieldLink RX8 24 "NestQuery$Tokens" "faultPlace" "I") (by decide +kernel)
  have fl10 := hts (.fieldLink RX8 61 "NestQuery$Tokens" "at" "I") (by decide +kernel)
  have fl11 := hts (.fieldLink RX8 11 "NestQuery$Tokens" "kinds" "[I") (by decide +kernel)
  have fl12 := hts (.fieldLink RX8 64 "NestQuery$Tokens" "kind" "I") (by decide +kernel)
  have hl := lv_entry ([.ref a, .ref (ad E q 0), .int (I n)]) (n := 8) (Nat.le_of_ble_eq_true rfl)
  rw [lg_entry_eq]
  generalize (lg_sl ([.ref a, .ref (ad E q 0), .int (I n)]) ++ List.replicate (8 - (lg_sl ([.ref a, .ref (ad E q 0), .int (I n)])).length) Slot.unset).toArray = ls at hl ⊢
  have hl : lv_has ls 8 [(0, .ref a), (1, .ref (ad E q 0)), (2, .int (I n))] := hl
  refine lv_iconst (v := I 0) hx hb dX8_begin_0 (by decide) ?_
  refine lv_iload_n hx hb dX8_begin_1 rfl (lv_at hl 2 rfl) ?_
  refine lv_aload_n hx hb dX8_begin_2 rfl (lv_at hl 1 rfl) ?_
  refine ok_alen hx hb hK hH hO h_q (by decide) k12_0 isA1 (by decide) dX8_begin_3 ?_
  refine va_mmin hx hb (by rw [hml]; exact hl.1.symm) hown fl0 fl1 fl2 fl3 (Nat.le_of_ble_eq_true rfl) (Nat.le_of_ble_eq_true rfl) (Nat.zero_le _) (Nat.zero_le _) dX8_begin_4 ?_
  refine th_mmin rn (show rng 400 from ⟨by decide, by decide⟩) (fun z_1 rz_1 hz_1 => ?_)
  refine va_mmax hx hb (by rw [hml]; exact hl.1.symm) hown fl4 fl5 fl2 fl6 (Nat.le_of_ble_eq_true rfl) (Nat.le_of_ble_eq_true rfl) (Nat.zero_le _) (Nat.zero_le _) dX8_begin_7 ?_
  refine th_mmax (show rng 0 from ⟨by decide, by decide⟩) rz_1 (fun z_2 rz_2 hz_2 => ?_)
  refine lv_istore_n (lv' := [(3, .int (I z_2)), (0, .ref a), (1, .ref (ad E q 0)), (2, .int (I n))]) hx hb dX8_begin_10 rfl hl (by decide) rfl (fun ls hl => ?_)
  refine lv_aload_n hx hb dX8_begin_11 rfl (lv_at hl 1 rfl) ?_
  refine lv_iconst (v := I 0) hx hb dX8_begin_12 (by decide) ?_
  refine ok.putI hO h_a (by decide) k3_4 (show rng 0 from ⟨by decide, by decide⟩) (by omega) (by omega) (fun _ he hl9 kk => th_put (ci := 8) (v := .int (I 0)) (ty := .int) (C := RX8) (T := TX8) (N := 9) hx hb hts inX8 tyX8 tyX8_ok nmX8 hown hK hH hS h00 he rfl 4 (by decide) fl7 rfl (by decide +kernel) rfl rfl hl9 dX8_begin_13 kk) (fun σ_s_3 H locs hO hF9 hg9 hi9 ha9 hH hS => ?_)
  replace hF := hF.tu hF9 (by decide)
  have e_4 := hg9
  refine lv_iconst (v := I 0) hx hb dX8_begin_16 (by decide) ?_
  refine lv_istore (lv' := [(4, .int (I 0)), (3, .int (I z_2)), (0, .ref a), (1, .ref (ad E q 0)), (2, .int (I n))]) hx hb dX8_begin_17 hl (by decide) rfl (fun ls hl => ?_)
  refine lv_iconst (v := I 0) hx hb dX8_begin_19 (by decide) ?_
  refine lv_istore (lv' := [(5, .int (I 0)), (4, .int (I 0)), (3, .int (I z_2)), (0, .ref a), (1, .ref (ad E q 0)), (2, .int (I n))]) hx hb dX8_begin_20 hl (by decide) rfl (fun ls hl => ?_)
  replace hl : lv_has ls 8 [(5, .int (I 0)), (4, .int (I 0)), (3, .int (I z_2)), (0, .ref a), (1, .ref (ad E q 0))] := lv_sub hl [0, 1, 2, 3, 4] rfl
  refine th_loop (α := Int × Int) (pc := 22) (fun x9 => (401 - x9.2).toNat) (fun x9 σ9 H9 l9 ls9 => ok y E σ9 ∧ fr [3] E σ σ9 ∧ th_H G b0 σ9 H9 ∧ va_S (th_A b0) s.heap H9 l9 ∧ lv_has ls9 8 [(0, .ref a), (1, .ref (ad E q 0)), (3, .int (I z_2)), (4, .int (I x9.1)), (5, .int (I x9.2))] ∧ rng x9.1 ∧ rng x9.2 ∧ (0 ≤ x9.1) ∧ (x9.1 ≤ 402) ∧ (0 ≤ x9.2) ∧ (x9.2 ≤ 401)) ?_ (0, 0) σ_s_3 _ _ _ ⟨hO, hF, hH, hS, lv_sub hl [3, 4, 2, 1, 0] rfl, (show rng 0 from ⟨by decide, by decide⟩), (show rng 0 from ⟨by decide, by decide⟩), by first | omega | (dsimp only; omega), by first | omega | (dsimp only; omega), by first | omega | (dsimp only; omega), by first | omega | (dsimp only; omega)⟩
  intro x9 σ_J_252 H locs ls hI9 ihJ_252
  obtain ⟨v4q251, v5q251⟩ := x9
  obtain ⟨hO, hF, hH, hS, hl, rv4q251, rv5q251, J_252_0, J_252_1, J_252_2, J_252_3⟩ := hI9
  have hl : lv_has ls 8 [(0, .ref a), (1, .ref (ad E q 0)), (3, .int (I z_2)), (4, .int (I v4q251)), (5, .int (I v5q251))] := hl
  have rv4q251 : rng v4q251 := rv4q251
  have rv5q251 : rng v5q251 := rv5q251
  have J_252_0 : 0 ≤ v4q251 := J_252_0
  have J_252_1 : v4q251 ≤ 402 := J_252_1
  have J_252_2 : 0 ≤ v5q251 := J_252_2
  have J_252_3 : v5q251 ≤ 401 := J_252_3
  refine lv_iload hx hb dX8_begin_22 (lv_at hl 4 rfl) ?_
  refine lv_iload_n hx hb dX8_begin_24 rfl (lv_at hl 2 rfl) ?_
  refine th_join (α := Unit) (J := 186) (stk := fun x9 => []) (fun x9 σ9 H9 l9 ls9 => σ9 = σ_J_252 ∧ th_H G b0 σ9 H9 ∧ va_S (th_A b0) s.heap H9 l9 ∧ lv_has ls9 8 [(0, .ref a), (3, .int (I z_2))]) ?_ (fun jK_314 => ?_)
  · intro x9 σ_K_314 H locs ls hI9
    obtain ⟨eK_314, hH, hS, hl⟩ := hI9
    replace eK_314 := eK_314.symm
    subst eK_314
    have hl : lv_has ls 8 [(0, .ref a), (3, .int (I z_2))] := hl
    refine lv_aload_n hx hb dX8_begin_186 rfl (lv_at hl 0 rfl) ?_
    refine lv_sipush (v := I 259) hx hb dX8_begin_187 (by decide) ?_
    refine lv_iload_n hx hb dX8_begin_190 rfl (lv_at hl 1 rfl) ?_
    refine lv_iconst (v := I 0) hx hb dX8_begin_191 (by decide) ?_
    refine lv_iconst (v := I 0) hx hb dX8_begin_192 (by decide) ?_
    obtain ⟨_, hc_315⟩ := hO.cell h_a (by decide) (ci := 8) rfl
    refine th_callv (va_runV (As := [.int (I 259), .int (I z_2), .int (I 0), .int (I 0)]) (rest := []) ⟨hx, hb, hml, hown, hts⟩ (k_addToken l G y b0 σ_J_252 E hO a h_a 259 (show rng 259 from (show rng 259 from ⟨by decide, by decide⟩)) z_2 (show rng z_2 from rz_2) 0 (show rng 0 from (show rng 0 from ⟨by decide, by decide⟩)) 0 (show rng 0 from (show rng 0 from ⟨by decide, by decide⟩))) (cwV 4 hts gX8_begin_X8_addToken rfl rfl rfl (by decide +kernel) ⟨Nat.le_of_ble_eq_true rfl, Nat.le_of_ble_eq_true rfl⟩) (th_PV hK hH rfl hc_315) rfl rfl hl.1 rfl (lv_room (Nat.le_of_ble_eq_true rfl)) dX8_begin_193 ⟨Nat.le_of_ble_eq_true rfl, Nat.le_of_ble_eq_true rfl⟩) hS (fun σ_s_317 H locs hw_316 hH hS => ?_)
    obtain ⟨hO9, hF9, hw_316⟩ := hw_316
    replace hO := hO9
    replace hF := hF.tu hF9 (by decide)
    refine lv_aload_n hx hb dX8_begin_196 rfl (lv_at hl 0 rfl) ?_
    refine lv_iconst (v := I 0) hx hb dX8_begin_197 (by decide) ?_
    refine ok.putI hO h_a (by decide) k3_7 (show rng 0 from ⟨by decide, by decide⟩) (by omega) (by omega) (fun _ he hl9 kk => th_put (ci := 8) (v := .int (I 0)) (ty := .int) (C := RX8) (T := TX8) (N := 9) hx hb hts inX8 tyX8 tyX8_ok nmX8 hown hK hH hS h00 he rfl 7 (by decide) fl8 rfl (by decide +kernel) rfl rfl hl9 dX8_begin_198 kk) (fun σ_s_318 H locs hO hF9 hg9 hi9 ha9 hH hS => ?_)
    replace hF := hF.tu hF9 (by decide)
    have e_319 := hg9
    refine lv_aload_n hx hb dX8_begin_201 rfl (lv_at hl 0 rfl) ?_
    refine lv_iconst (v := I (-1)) hx hb dX8_begin_202 (by decide) ?_
    refine ok.putI hO h_a (by decide) k3_8 (show rng (-1) from ⟨by decide, by decide⟩) (by omega) (by omega) (fun _ he hl9 kk => th_put (ci := 8) (v := .int (I (-1))) (ty := .int) (C := RX8) (T := TX8) (N := 9) hx hb hts inX8 tyX8 tyX8_ok nmX8 hown hK hH hS h00 he rfl 8 (by decide) fl9 rfl (by decide +kernel) rfl rfl hl9 dX8_begin_203 kk) (fun σ_s_320 H locs hO hF9 hg9 hi9 ha9 hH hS => ?_)
    replace hF := hF.tu hF9 (by decide)
    have e_321 : gI σ_s_320 a 7 = 0 := (hi9 _ _ (Or.inr (by decide))).trans e_319
    have e_322 := hg9
    refine lv_aload_n hx hb dX8_begin_206 rfl (lv_at hl 0 rfl) ?_
    refine lv_iconst (v := I 0) hx hb dX8_begin_207 (by decide) ?_
    refine ok.putI hO h_a (by decide) k3_5 (show rng 0 from ⟨by decide, by decide⟩) (by omega) (by omega) (fun _ he hl9 kk => th_put (ci := 8) (v := .int (I 0)) (ty := .int) (C := RX8) (T := TX8) (N := 9) hx hb hts inX8 tyX8 tyX8_ok nmX8 hown hK hH hS h00 he rfl 5 (by decide) fl10 rfl (by decide +kernel) rfl rfl hl9 dX8_begin_208 kk) (fun σ_s_323 H locs hO hF9 hg9 hi9 ha9 hH hS => ?_)
    replace hF := hF.tu hF9 (by decide)
    have e_324 : gI σ_s_323 a 7 = 0 := (hi9 _ _ (Or.inr (by decide))).trans e_321
    have e_325 : gI σ_s_323 a 8 = (-1) := (hi9 _ _ (Or.inr (by decide))).trans e_322
    have e_326 := hg9
    refine lv_aload_n hx hb dX8_begin_211 rfl (lv_at hl 0 rfl) ?_
    refine lv_aload_n hx hb dX8_begin_212 rfl (lv_at hl 0 rfl) ?_
    refine ok.getR hO h_a (by decide) k3_0 (by decide) (fun _ _ he hv kk => th_get (ci := 8) (C := RX8) (T := TX8) (N := 9) hx hb hts inX8 hown hK hH he rfl 0 (by decide) fl11 hv dX8_begin_213 kk) ?_
    refine lv_iconst (v := I 0) hx hb dX8_begin_216 (by decide) ?_
    refine ok_iald hx hb hK hH hO h_a (by decide) k3_0 isA1 (show rng 0 from ⟨by decide, by decide⟩) (by omega) (by omega) dX8_begin_217 (fun z_327 ez_327 rz_327 el9 => ?_)
    refine ok.putI hO h_a (by decide) k3_6 rz_327 (by omega) (by omega) (fun _ he hl9 kk => th_put (ci := 8) (v := .int (I z_327)) (ty := .int) (C := RX8) (T := TX8) (N := 9) hx hb hts inX8 tyX8 tyX8_ok nmX8 hown hK hH hS h00 he rfl 6 (by decide) fl12 rfl (by decide +kernel) rfl rfl hl9 dX8_begin_218 kk) (fun σ_s_328 H locs hO hF9 hg9 hi9 ha9 hH hS => ?_)
    replace hF := hF.tu hF9 (by decide)
    have e_329 : gI σ_s_328 a 7 = 0 := (hi9 _ _ (Or.inr (by decide))).trans e_324
    have e_330 : gI σ_s_328 a 8 = (-1) := (hi9 _ _ (Or.inr (by decide))).trans e_325
    have e_331 : gI σ_s_328 a 5 = 0 := (hi9 _ _ (Or.inr (by decide))).trans e_326
    have e_332 := hg9
    exact th_vret hx hb hr hlocks hH hS ⟨hO, hF, trivial⟩ dX8_begin_221
  · refine lv_icmp_gt (tgt := 186) hx hb dX8_begin_25 (by decide) (fun c_333 => ?_) (fun c_333 => ?_)
    · replace c_333 := (I_lt (a := z_2) (b := v5q251) rz_2 rv5q251).mp c_333
      replace hl : lv_has ls 8 [(0, .ref a), (3, .int (I z_2))] := lv_sub hl [0, 2] rfl
      exact jK_314 () σ_J_252 _ _ _ ⟨rfl, hH, hS, lv_sub hl [0, 1] rfl⟩
    · replace c_333 := mt (I_lt (a := z_2) (b := v5q251) rz_2 rv5q251).mpr c_333
      refine lv_iload hx hb dX8_begin_28 (lv_at hl 3 rfl) ?_
      refine lv_iload_n hx hb dX8_begin_30 rfl (lv_at hl 2 rfl) ?_
      refine lv_icmp_ge (tgt := 186) hx hb dX8_begin_31 (by decide) (fun c_334 => ?_) (fun c_334 => ?_)
      · replace c_334 := (I_le (a := z_2) (b := v4q251) rz_2 rv4q251).mp c_334
        replace hl : lv_has ls 8 [(0, .ref a), (3, .int (I z_2))] := lv_sub hl [0, 2] rfl
        exact jK_314 () σ_J_252 _ _ _ ⟨rfl, hH, hS, lv_sub hl [0, 1] rfl⟩
      · replace c_334 := mt (I_le (a := z_2) (b := v4q251) rz_2 rv4q251).mpr c_334
        refine lv_aload_n hx hb dX8_begin_34 rfl (lv_at hl 1 rfl) ?_
        refine lv_iload hx hb dX8_begin_35 (lv_at hl 3 rfl) ?_
        refine ok_iald hx hb hK hH hO h_q (by decide) k12_0 isA1 rv4q251 (by omega) (by omega) dX8_begin_37 (fun z_335 ez_335 rz_335 el9 => ?_)
        refine lv_istore (lv' := [(6, .int (I z_335)), (0, .ref a), (1, .ref (ad E q 0)), (3, .int (I z_2)), (4, .int (I v4q251)), (5, .int (I v5q251))]) hx hb dX8_begin_38 hl (by decide) rfl (fun ls hl => ?_)
        refine lv_iload hx hb dX8_begin_40 (lv_at hl 0 rfl) ?_
        refine lv_bipush (v := I 32) hx hb dX8_begin_42 (by decide) ?_
        refine lv_icmp_eq (tgt := 54) hx hb dX8_begin_44 (by decide) (fun c_336 => ?_) (fun c_336 => ?_)
        · replace c_336 := (I_eq (a := z_335) (b := 32) rz_335 (show rng 32 from ⟨by decide, by decide⟩)).mp c_336
          refine lv_iinc (v := I (v4q251 + 1)) (lv' := [(4, .int (I (v4q251 + 1))), (6, .int (I z_335)), (0, .ref a), (1, .ref (ad E q 0)), (3, .int (I z_2)), (5, .int (I v5q251))]) hx hb dX8_begin_54 hl (k := 4) rfl (I_add _ _) (by decide) rfl (fun ls hl => ?_)
          refine lv_goto (tgt := 180) hx hb dX8_begin_57 (by decide) ?_
          refine lv_iinc (v := I (v5q251 + 1)) (lv' := [(5, .int (I (v5q251 + 1))), (4, .int (I (v4q251 + 1))), (6, .int (I z_335)), (0, .ref a), (1, .ref (ad E q 0)), (3, .int (I z_2))]) hx hb dX8_begin_180 hl (k := 5) rfl (I_add _ _) (by decide) rfl (fun ls hl => ?_)
          refine lv_goto (tgt := 22) hx hb dX8_begin_183 (by decide) ?_
          replace hl : lv_has ls 8 [(5, .int (I (v5q251 + 1))), (4, .int (I (v4q251 + 1))), (0, .ref a), (1, .ref (ad E q 0)), (3, .int (I z_2))] := lv_sub hl [0, 1, 3, 4, 5] rfl
          exact ihJ_252 (v4q251 + 1, v5q251 + 1) σ_J_252 _ _ _ (by first | omega | (dsimp only; omega)) ⟨hO, hF, hH, hS, lv_sub hl [2, 3, 4, 1, 0] rfl, ⟨by first | omega | (dsimp only; omega), by first | omega | (dsimp only; omega)⟩, ⟨by first | omega | (dsimp only; omega), by first | omega | (dsimp only; omega)⟩, by first | omega | (dsimp only; omega), by first | omega | (dsimp only; omega), by first | omega | (dsimp only; omega), by first | omega | (dsimp only; omega)⟩
        · replace c_336 := mt (I_eq (a := z_335) (b := 32) rz_335 (show rng 32 from ⟨by decide, by decide⟩)).mpr c_336
          refine lv_iload hx hb dX8_begin_47 (lv_at hl 0 rfl) ?_
          refine lv_bipush (v := I 10) hx hb dX8_begin_49 (by decide) ?_
          refine lv_icmp_ne (tgt := 60) hx hb dX8_begin_51 (by decide) (fun c_337 => ?_) (fun c_337 => ?_)
          · replace c_337 := mt (I_eq (a := z_335) (b := 10) rz_335 (show rng 10 from ⟨by decide, by decide⟩)).mpr c_337
            refine lv_iload hx hb dX8_begin_60 (lv_at hl 0 rfl) ?_
            refine th_calli (va_runS (As := [.int (I z_335)]) (rest := []) ⟨hx, hb, hml, hown, hts⟩ (k_isLetter l G y b0 σ_J_252 E hO z_335 (show rng z_335 from rz_335)) (va_cwS 1 hts gX8_begin_X8_isLetter rfl rfl rfl (by decide +kernel) ⟨Nat.le_of_ble_eq_true rfl, Nat.le_of_ble_eq_true rfl⟩) (th_PS hK hH) rfl rfl hl.1 rfl (lv_room (Nat.le_of_ble_eq_true rfl)) dX8_begin_62 ⟨Nat.le_of_ble_eq_true rfl, Nat.le_of_ble_eq_true rfl⟩) hS (fun z_340 σ_s_339 H locs rz_340 hw_338 hH hS => ?_)
            obtain ⟨e9, bhw_338, hw_338⟩ := hw_338
            replace e9 := e9.symm
            subst e9
            have hw_338 : z_340 = 0 ∨ (97 ≤ z_335 ∧ z_335 ≤ 122) := hw_338
            refine lv_if_eq (tgt := 81) hx hb dX8_begin_65 (by decide) (fun c_341 => ?_) (fun c_341 => ?_)
            · replace c_341 := (I_eq (a := z_340) (b := 0) rz_340 (show rng 0 from ⟨by decide, by decide⟩)).mp c_341
              refine lv_iload hx hb dX8_begin_81 (lv_at hl 0 rfl) ?_
              refine th_calli (va_runS (As := [.int (I z_335)]) (rest := []) ⟨hx, hb, hml, hown, hts⟩ (k_isDigit l G y b0 σ_J_252 E hO z_335 (show rng z_335 from rz_335)) (va_cwS 1 hts gX8_begin_X8_isDigit rfl rfl rfl (by decide +kernel) ⟨Nat.le_of_ble_eq_true rfl, Nat.le_of_ble_eq_true rfl⟩) (th_PS hK hH) rfl rfl hl.1 rfl (lv_room (Nat.le_of_ble_eq_true rfl)) dX8_begin_83 ⟨Nat.le_of_ble_eq_true rfl, Nat.le_of_ble_eq_true rfl⟩) hS (fun z_344 σ_s_343 H locs rz_344 hw_342 hH hS => ?_)
              obtain ⟨e9, bhw_342, hw_342⟩ := hw_342
              replace e9 := e9.symm
              subst e9
              have hw_342 : z_344 = 0 ∨ (48 ≤ z_335 ∧ z_335 ≤ 57) := hw_342
              refine lv_if_eq (tgt := 102) hx hb dX8_begin_86 (by decide) (fun c_345 => ?_) (fun c_345 => ?_)
              · replace c_345 := (I_eq (a := z_344) (b := 0) rz_344 (show rng 0 from ⟨by decide, by decide⟩)).mp c_345
                refine lv_iload hx hb dX8_begin_102 (lv_at hl 0 rfl) ?_
                refine lv_bipush (v := I 46) hx hb dX8_begin_104 (by decide) ?_
                refine th_join (α := Unit) (J := 132) (stk := fun x9 => []) (fun x9 σ9 H9 l9 ls9 => σ9 = σ_J_252 ∧ th_H G b0 σ9 H9 ∧ va_S (th_A b0) s.heap H9 l9 ∧ lv_has ls9 8 [(0, .ref a), (1, .ref (ad E q 0)), (3, .int (I z_2)), (4, .int (I v4q251)), (5, .int (I v5q251)), (6, .int (I z_335))]) ?_ (fun jK_362 => ?_)
                · intro x9 σ_K_362 H locs ls hI9
                  obtain ⟨eK_362, hH, hS, hl⟩ := hI9
                  replace eK_362 := eK_362.symm
                  subst eK_362
                  have hl : lv_has ls 8 [(0, .ref a), (1, .ref (ad E q 0)), (3, .int (I z_2)), (4, .int (I v4q251)), (5, .int (I v5q251)), (6, .int (I z_335))] := hl
                  refine lv_iconst (v := I 0) hx hb dX8_begin_132 (by decide) ?_
                  refine lv_istore (lv' := [(7, .int (I 0)), (0, .ref a), (1, .ref (ad E q 0)), (3, .int (I z_2)), (4, .int (I v4q251)), (5, .int (I v5q251)), (6, .int (I z_335))]) hx hb dX8_begin_133 hl (by decide) rfl (fun ls hl => ?_)
                  refine lv_aload_n hx hb dX8_begin_135 rfl (lv_at hl 1 rfl) ?_
                  refine lv_iload hx hb dX8_begin_136 (lv_at hl 0 rfl) ?_
                  refine lv_if_eq (tgt := 147) hx hb dX8_begin_138 (by decide) (fun _ => ?_) (fun c_364 => absurd (by decide) c_364)
                  refine lv_iload hx hb dX8_begin_147 (lv_at hl 6 rfl) ?_
                  refine lv_iload hx hb dX8_begin_149 (lv_at hl 4 rfl) ?_
                  refine lv_iconst (v := I 0) hx hb dX8_begin_151 (by decide) ?_
                  refine lv_iload hx hb dX8_begin_152 (lv_at hl 0 rfl) ?_
                  refine lv_if_eq (tgt := 161) hx hb dX8_begin_154 (by decide) (fun _ => ?_) (fun c_365 => absurd (by decide) c_365)
                  refine lv_iconst (v := I 1) hx hb dX8_begin_161 (by decide) ?_
                  obtain ⟨_, hc_366⟩ := hO.cell h_a (by decide) (ci := 8) rfl
                  refine th_callv (va_runV (As := [.int (I z_335), .int (I v4q251), .int (I 0), .int (I 1)]) (rest := []) ⟨hx, hb, hml, hown, hts⟩ (k_addToken l G y b0 σ_J_252 E hO a h_a z_335 (show rng z_335 from rz_335) v4q251 (show rng v4q251 from rv4q251) 0 (show rng 0 from (show rng 0 from ⟨by decide, by decide⟩)) 1 (show rng 1 from (show rng 1 from ⟨by decide, by decide⟩))) (cwV 4 hts gX8_begin_X8_addToken rfl rfl rfl (by decide +kernel) ⟨Nat.le_of_ble_eq_true rfl, Nat.le_of_ble_eq_true rfl⟩) (th_PV hK hH rfl hc_366) rfl rfl hl.1 rfl (lv_room (Nat.le_of_ble_eq_true rfl)) dX8_begin_162 ⟨Nat.le_of_ble_eq_true rfl, Nat.le_of_ble_eq_true rfl⟩) hS (fun σ_s_368 H locs hw_367 hH hS => ?_)
                  obtain ⟨hO9, hF9, hw_367⟩ := hw_367
                  replace hO := hO9
                  replace hF := hF.tu hF9 (by decide)
                  refine lv_iload hx hb dX8_begin_165 (lv_at hl 4 rfl) ?_
                  refine lv_iload hx hb dX8_begin_167 (lv_at hl 0 rfl) ?_
                  refine lv_if_eq (tgt := 176) hx hb dX8_begin_169 (by decide) (fun _ => ?_) (fun c_369 => absurd (by decide) c_369)
                  refine lv_iconst (v := I 1) hx hb dX8_begin_176 (by decide) ?_
                  refine lv_iadd hx hb dX8_begin_177 ?_
                  refine nq_top (I_add _ _) ?_
                  refine lv_istore (lv' := [(4, .int (I (v4q251 + 1))), (7, .int (I 0)), (0, .ref a), (1, .ref (ad E q 0)), (3, .int (I z_2)), (5, .int (I v5q251)), (6, .int (I z_335))]) hx hb dX8_begin_178 hl (by decide) rfl (fun ls hl => ?_)
                  refine lv_iinc (v := I (v5q251 + 1)) (lv' := [(5, .int (I (v5q251 + 1))), (4, .int (I (v4q251 + 1))), (7, .int (I 0)), (0, .ref a), (1, .ref (ad E q 0)), (3, .int (I z_2)), (6, .int (I z_335))]) hx hb dX8_begin_180 hl (k := 5) rfl (I_add _ _) (by decide) rfl (fun ls hl => ?_)
                  refine lv_goto (tgt := 22) hx hb dX8_begin_183 (by decide) ?_
                  replace hl : lv_has ls 8 [(5, .int (I (v5q251 + 1))), (4, .int (I (v4q251 + 1))), (0, .ref a), (1, .ref (ad E q 0)), (3, .int (I z_2))] := lv_sub hl [0, 1, 3, 4, 5] rfl
                  exact ihJ_252 (v4q251 + 1, v5q251 + 1) σ_s_368 _ _ _ (by first | omega | (dsimp only; omega)) ⟨hO, hF, hH, hS, lv_sub hl [2, 3, 4, 1, 0] rfl, ⟨by first | omega | (dsimp only; omega), by first | omega | (dsimp only; omega)⟩, ⟨by first | omega | (dsimp only; omega), by first | omega | (dsimp only; omega)⟩, by first | omega | (dsimp only; omega), by first | omega | (dsimp only; omega), by first | omega | (dsimp only; omega), by first | omega | (dsimp only; omega)⟩
                · refine lv_icmp_ne (tgt := 132) hx hb dX8_begin_106 (by decide) (fun c_374 => ?_) (fun c_374 => ?_)
                  · replace c_374 := mt (I_eq (a := z_335) (b := 46) rz_335 (show rng 46 from ⟨by decide, by decide⟩)).mpr c_374
                    exact jK_362 () σ_J_252 _ _ _ ⟨rfl, hH, hS, lv_sub hl [1, 2, 3, 4, 5, 0] rfl⟩
                  · replace c_374 := (I_eq (a := z_335) (b := 46) rz_335 (show rng 46 from ⟨by decide, by decide⟩)).mp c_374
                    refine lv_iload hx hb dX8_begin_109 (lv_at hl 4 rfl) ?_
                    refine lv_iconst (v := I 1) hx hb dX8_begin_111 (by decide) ?_
                    refine lv_iadd hx hb dX8_begin_112 ?_
                    refine nq_top (I_add _ _) ?_
                    refine lv_iload_n hx hb dX8_begin_113 rfl (lv_at hl 3 rfl) ?_
                    refine lv_icmp_ge (tgt := 132) hx hb dX8_begin_114 (by decide) (fun c_375 => ?_) (fun c_375 => ?_)
                    · replace c_375 := (I_le (a := z_2) (b := v4q251 + 1) rz_2 ⟨by omega, by omega⟩).mp c_375
                      exact jK_362 () σ_J_252 _ _ _ ⟨rfl, hH, hS, lv_sub hl [1, 2, 3, 4, 5, 0] rfl⟩
                    · replace c_375 := mt (I_le (a := z_2) (b := v4q251 + 1) rz_2 ⟨by omega, by omega⟩).mpr c_375
                      refine lv_aload_n hx hb dX8_begin_117 rfl (lv_at hl 2 rfl) ?_
                      refine lv_iload hx hb dX8_begin_118 (lv_at hl 4 rfl) ?_
                      refine lv_iconst (v := I 1) hx hb dX8_begin_120 (by decide) ?_
                      refine lv_iadd hx hb dX8_begin_121 ?_
                      refine nq_top (I_add _ _) ?_
                      refine ok_iald hx hb hK hH hO h_q (by decide) k12_0 isA1 ⟨by omega, by omega⟩ (by omega) (by omega) dX8_begin_122 (fun z_376 ez_376 rz_376 el9 => ?_)
                      refine lv_bipush (v := I 46) hx hb dX8_begin_123 (by decide) ?_
                      refine lv_icmp_ne (tgt := 132) hx hb dX8_begin_125 (by decide) (fun c_377 => ?_) (fun c_377 => ?_)
                      · replace c_377 := mt (I_eq (a := z_376) (b := 46) rz_376 (show rng 46 from ⟨by decide, by decide⟩)).mpr c_377
                        exact jK_362 () σ_J_252 _ _ _ ⟨rfl, hH, hS, lv_sub hl [1, 2, 3, 4, 5, 0] rfl⟩
                      · replace c_377 := (I_eq (a := z_376) (b := 46) rz_376 (show rng 46 from ⟨by decide, by decide⟩)).mp c_377
                        refine lv_iconst (v := I 1) hx hb dX8_begin_128 (by decide) ?_
                        refine lv_goto (tgt := 133) hx hb dX8_begin_129 (by decide) ?_
                        refine lv_istore (lv' := [(7, .int (I 1)), (6, .int (I z_335)), (0, .ref a), (1, .ref (ad E q 0)), (3, .int (I z_2)), (4, .int (I v4q251)), (5, .int (I v5q251))]) hx hb dX8_begin_133 hl (by decide) rfl (fun ls hl => ?_)
                        refine lv_aload_n hx hb dX8_begin_135 rfl (lv_at hl 2 rfl) ?_
                        refine lv_iload hx hb dX8_begin_136 (lv_at hl 0 rfl) ?_
                        refine lv_if_eq (tgt := 147) hx hb dX8_begin_138 (by decide) (fun c_379 => absurd c_379 (by decide)) (fun _ => ?_)
                        refine lv_sipush (v := I 258) hx hb dX8_begin_141 (by decide) ?_
                        refine lv_goto (tgt := 149) hx hb dX8_begin_144 (by decide) ?_
                        refine lv_iload hx hb dX8_begin_149 (lv_at hl 5 rfl) ?_
                        refine lv_iconst (v := I 0) hx hb dX8_begin_151 (by decide) ?_
                        refine lv_iload hx hb dX8_begin_152 (lv_at hl 0 rfl) ?_
                        refine lv_if_eq (tgt := 161) hx hb dX8_begin_154 (by decide) (fun c_380 => absurd c_380 (by decide)) (fun _ => ?_)
                        refine lv_iconst (v := I 2) hx hb dX8_begin_157 (by decide) ?_
                        refine lv_goto (tgt := 162) hx hb dX8_begin_158 (by decide) ?_
                        obtain ⟨_, hc_381⟩ := hO.cell h_a (by decide) (ci := 8) rfl
                        refine th_callv (va_runV (As := [.int (I 258), .int (I v4q251), .int (I 0), .int (I 2)]) (rest := []) ⟨hx, hb, hml, hown, hts⟩ (k_addToken l G y b0 σ_J_252 E hO a h_a 258 (show rng 258 from (show rng 258 from ⟨by decide, by decide⟩)) v4q251 (show rng v4q251 from rv4q251) 0 (show rng 0 from (show rng 0 from ⟨by decide, by decide⟩)) 2 (show rng 2 from (show rng 2 from ⟨by decide, by decide⟩))) (cwV 4 hts gX8_begin_X8_addToken rfl rfl rfl (by decide +kernel) ⟨Nat.le_of_ble_eq_true rfl, Nat.le_of_ble_eq_true rfl⟩) (th_PV hK hH rfl hc_381) rfl rfl hl.1 rfl (lv_room (Nat.le_of_ble_eq_true rfl)) dX8_begin_162 ⟨Nat.le_of_ble_eq_true rfl, Nat.le_of_ble_eq_true rfl⟩) hS (fun σ_s_383 H locs hw_382 hH hS => ?_)
                        obtain ⟨hO9, hF9, hw_382⟩ := hw_382
                        replace hO := hO9
                        replace hF := hF.tu hF9 (by decide)
                        refine lv_iload hx hb dX8_begin_165 (lv_at hl 5 rfl) ?_
                        refine lv_iload hx hb dX8_begin_167 (lv_at hl 0 rfl) ?_
                        refine lv_if_eq (tgt := 176) hx hb dX8_begin_169 (by decide) (fun c_384 => absurd c_384 (by decide)) (fun _ => ?_)
                        refine lv_iconst (v := I 2) hx hb dX8_begin_172 (by decide) ?_
                        refine lv_goto (tgt := 177) hx hb dX8_begin_173 (by decide) ?_
                        refine lv_iadd hx hb dX8_begin_177 ?_
                        refine nq_top (I_add _ _) ?_
                        refine lv_istore (lv' := [(4, .int (I (v4q251 + 2))), (7, .int (I 1)), (6, .int (I z_335)), (0, .ref a), (1, .ref (ad E q 0)), (3, .int (I z_2)), (5, .int (I v5q251))]) hx hb dX8_begin_178 hl (by decide) rfl (fun ls hl => ?_)
                        refine lv_iinc (v := I (v5q251 + 1)) (lv' := [(5, .int (I (v5q251 + 1))), (4, .int (I (v4q251 + 2))), (7, .int (I 1)), (6, .int (I z_335)), (0, .ref a), (1, .ref (ad E q 0)), (3, .int (I z_2))]) hx hb dX8_begin_180 hl (k := 6) rfl (I_add _ _) (by decide) rfl (fun ls hl => ?_)
                        refine lv_goto (tgt := 22) hx hb dX8_begin_183 (by decide) ?_
                        replace hl : lv_has ls 8 [(5, .int (I (v5q251 + 1))), (4, .int (I (v4q251 + 2))), (0, .ref a), (1, .ref (ad E q 0)), (3, .int (I z_2))] := lv_sub hl [0, 1, 4, 5, 6] rfl
                        exact ihJ_252 (v4q251 + 2, v5q251 + 1) σ_s_383 _ _ _ (by first | omega | (dsimp only; omega)) ⟨hO, hF, hH, hS, lv_sub hl [2, 3, 4, 1, 0] rfl, ⟨by first | omega | (dsimp only; omega), by first | omega | (dsimp only; omega)⟩, ⟨by first | omega | (dsimp only; omega), by first | omega | (dsimp only; omega)⟩, by first | omega | (dsimp only; omega), by first | omega | (dsimp only; omega), by first | omega | (dsimp only; omega), by first | omega | (dsimp only; omega)⟩
              · replace c_345 := mt (I_eq (a := z_344) (b := 0) rz_344 (show rng 0 from ⟨by decide, by decide⟩)).mpr c_345
                refine lv_aload_n hx hb dX8_begin_89 rfl (lv_at hl 1 rfl) ?_
                refine lv_aload_n hx hb dX8_begin_90 rfl (lv_at hl 2 rfl) ?_
                refine lv_iload hx hb dX8_begin_91 (lv_at hl 4 rfl) ?_
                refine lv_iload_n hx hb dX8_begin_93 rfl (lv_at hl 3 rfl) ?_
                obtain ⟨_, hc_385⟩ := hO.cell h_a (by decide) (ci := 8) rfl
                refine th_calli (va_runV (As := [.ref (ad E q 0), .int (I v4q251), .int (I z_2)]) (rest := []) ⟨hx, hb, hml, hown, hts⟩ (k_findDigits l G y b0 σ_J_252 E hO a h_a q h_q v4q251 (show rng v4q251 from rv4q251) (by omega) (by omega) z_2 (show rng z_2 from rz_2) (by omega) (by omega)) (cwV 3 hts gX8_begin_X8_findDigits rfl rfl rfl (by decide +kernel) ⟨Nat.le_of_ble_eq_true rfl, Nat.le_of_ble_eq_true rfl⟩) (th_PV hK hH rfl hc_385) rfl rfl hl.1 rfl (lv_room (Nat.le_of_ble_eq_true rfl)) dX8_begin_94 ⟨Nat.le_of_ble_eq_true rfl, Nat.le_of_ble_eq_true rfl⟩) hS (fun z_388 σ_s_387 H locs rz_388 hw_386 hH hS => ?_)
                obtain ⟨hO9, hF9, hw_386⟩ := hw_386
                replace hO := hO9
                replace hF := hF.tu hF9 (by decide)
                have hw_386 : 0 ≤ z_388 ∧ z_388 ≤ 400 := hw_386
                refine lv_istore (lv' := [(4, .int (I z_388)), (6, .int (I z_335)), (0, .ref a), (1, .ref (ad E q 0)), (3, .int (I z_2)), (5, .int (I v5q251))]) hx hb dX8_begin_97 hl (by decide) rfl (fun ls hl => ?_)
                refine lv_goto (tgt := 180) hx hb dX8_begin_99 (by decide) ?_
                refine lv_iinc (v := I (v5q251 + 1)) (lv' := [(5, .int (I (v5q251 + 1))), (4, .int (I z_388)), (6, .int (I z_335)), (0, .ref a), (1, .ref (ad E q 0)), (3, .int (I z_2))]) hx hb dX8_begin_180 hl (k := 5) rfl (I_add _ _) (by decide) rfl (fun ls hl => ?_)
                refine lv_goto (tgt := 22) hx hb dX8_begin_183 (by decide) ?_
                replace hl : lv_has ls 8 [(5, .int (I (v5q251 + 1))), (4, .int (I z_388)), (0, .ref a), (1, .ref (ad E q 0)), (3, .int (I z_2))] := lv_sub hl [0, 1, 3, 4, 5] rfl
                exact ihJ_252 (z_388, v5q251 + 1) σ_s_387 _ _ _ (by first | omega | (dsimp only; omega)) ⟨hO, hF, hH, hS, lv_sub hl [2, 3, 4, 1, 0] rfl, rz_388, ⟨by first | omega | (dsimp only; omega), by first | omega | (dsimp only; omega)⟩, by first | omega | (dsimp only; omega), by first | omega | (dsimp only; omega), by first | omega | (dsimp only; omega), by first | omega | (dsimp only; omega)⟩
            · replace c_341 := mt (I_eq (a := z_340) (b := 0) rz_340 (show rng 0 from ⟨by decide, by decide⟩)).mpr c_341
              refine lv_aload_n hx hb dX8_begin_68 rfl (lv_at hl 1 rfl) ?_
              refine lv_aload_n hx hb dX8_begin_69 rfl (lv_at hl 2 rfl) ?_
              refine lv_iload hx hb dX8_begin_70 (lv_at hl 4 rfl) ?_
              refine lv_iload_n hx hb dX8_begin_72 rfl (lv_at hl 3 rfl) ?_
              obtain ⟨_, hc_389⟩ := hO.cell h_a (by decide) (ci := 8) rfl
              refine th_calli (va_runV (As := [.ref (ad E q 0), .int (I v4q251), .int (I z_2)]) (rest := []) ⟨hx, hb, hml, hown, hts⟩ (k_findWord l G y b0 σ_J_252 E hO a h_a q h_q v4q251 (show rng v4q251 from rv4q251) (by omega) (by omega) z_2 (show rng z_2 from rz_2) (by omega) (by omega)) (cwV 3 hts gX8_begin_X8_findWord rfl rfl rfl (by decide +kernel) ⟨Nat.le_of_ble_eq_true rfl, Nat.le_of_ble_eq_true rfl⟩) (th_PV hK hH rfl hc_389) rfl rfl hl.1 rfl (lv_room (Nat.le_of_ble_eq_true rfl)) dX8_begin_73 ⟨Nat.le_of_ble_eq_true rfl, Nat.le_of_ble_eq_true rfl⟩) hS (fun z_392 σ_s_391 H locs rz_392 hw_390 hH hS => ?_)
              obtain ⟨hO9, hF9, hw_390⟩ := hw_390
              replace hO := hO9
              replace hF := hF.tu hF9 (by decide)
              have hw_390 : 0 ≤ z_392 ∧ z_392 ≤ 400 := hw_390
              refine lv_istore (lv' := [(4, .int (I z_392)), (6, .int (I z_335)), (0, .ref a), (1, .ref (ad E q 0)), (3, .int (I z_2)), (5, .int (I v5q251))]) hx hb dX8_begin_76 hl (by decide) rfl (fun ls hl => ?_)
              refine lv_goto (tgt := 180) hx hb dX8_begin_78 (by decide) ?_
              refine lv_iinc (v := I (v5q251 + 1)) (lv' := [(5, .int (I (v5q251 + 1))), (4, .int (I z_392)), (6, .int (I z_335)), (0, .ref a), (1, .ref (ad E q 0)), (3, .int (I z_2))]) hx hb dX8_begin_180 hl (k := 5) rfl (I_add _ _) (by decide) rfl (fun ls hl => ?_)
              refine lv_goto (tgt := 22) hx hb dX8_begin_183 (by decide) ?_
              replace hl : lv_has ls 8 [(5, .int (I (v5q251 + 1))), (4, .int (I z_392)), (0, .ref a), (1, .ref (ad E q 0)), (3, .int (I z_2))] := lv_sub hl [0, 1, 3, 4, 5] rfl
              exact ihJ_252 (z_392, v5q251 + 1) σ_s_391 _ _ _ (by first | omega | (dsimp only; omega)) ⟨hO, hF, hH, hS, lv_sub hl [2, 3, 4, 1, 0] rfl, rz_392, ⟨by first | omega | (dsimp only; omega), by first | omega | (dsimp only; omega)⟩, by first | omega | (dsimp only; omega), by first | omega | (dsimp only; omega), by first | omega | (dsimp only; omega), by first | omega | (dsimp only; omega)⟩
          · replace c_337 := (I_eq (a := z_335) (b := 10) rz_335 (show rng 10 from ⟨by decide, by decide⟩)).mp c_337
            refine lv_iinc (v := I (v4q251 + 1)) (lv' := [(4, .int (I (v4q251 + 1))), (6, .int (I z_335)), (0, .ref a), (1, .ref (ad E q 0)), (3, .int (I z_2)), (5, .int (I v5q251))]) hx hb dX8_begin_54 hl (k := 4) rfl (I_add _ _) (by decide) rfl (fun ls hl => ?_)
            refine lv_goto (tgt := 180) hx hb dX8_begin_57 (by decide) ?_
            refine lv_iinc (v := I (v5q251 + 1)) (lv' := [(5, .int (I (v5q251 + 1))), (4, .int (I (v4q251 + 1))), (6, .int (I z_335)), (0, .ref a), (1, .ref (ad E q 0)), (3, .int (I z_2))]) hx hb dX8_begin_180 hl (k := 5) rfl (I_add _ _) (by decide) rfl (fun ls hl => ?_)
            refine lv_goto (tgt := 22) hx hb dX8_begin_183 (by decide) ?_
            replace hl : lv_has ls 8 [(5, .int (I (v5q251 + 1))), (4, .int (I (v4q251 + 1))), (0, .ref a), (1, .ref (ad E q 0)), (3, .int (I z_2))] := lv_sub hl [0, 1, 3, 4, 5] rfl
            exact ihJ_252 (v4q251 + 1, v5q251 + 1) σ_J_252 _ _ _ (by first | omega | (dsimp only; omega)) ⟨hO, hF, hH, hS, lv_sub hl [2, 3, 4, 1, 0] rfl, ⟨by first | omega | (dsimp only; omega), by first | omega | (dsimp only; omega)⟩, ⟨by first | omega | (dsimp only; omega), by first | omega | (dsimp only; omega)⟩, by first | omega | (dsimp only; omega), by first | omega | (dsimp only; omega), by first | omega | (dsimp only; omega), by first | omega | (dsimp only; omega)⟩

set_option maxHeartbeats 1000000 in
set_option maxRecDepth 100000 in
theorem k_fail (l : Launch) (G : va_G) (y : Nat → ClassId) (b0 : Nat) (σ : th_M) (E : th_E) (hO : ok y E σ) (a : Nat) (h_a : kd E a = 3) (i : Int) (ri : rng i) : Met l yX8_fail wsX8_fail ({ frames := 0, cells := 0, slots := 0, locals := 0 }) (th_P G y b0 σ [.ref a, .int (I i)]) (th_Qv G b0 (fun σ1 => ok y E σ1 ∧ fr [3] E σ σ1 ∧ (True))) 0 0 (th_A b0) := by
  refine Met.ofW (cc := cX8_fail) (maxL := 2) (ret := none) (by decide) rfl ?_
  intro p e s m args below meth c s₁ B hml hv
  obtain ⟨rfl, hH, hK⟩ := hv
  have hx := B.exec
  have hb := B.bytes
  have hr := B.returns
  have hts := atoms_spec (ws := wsX8_fail) B.pre
  have hown : s.vm.findClass RX8 = some m.cls := findClass_of_methodNamed B.named
  have hlocks := B.notSynchronized
  have h00 : b0 ≤ s.heap.size := hH.1
  have hS : va_S (th_A b0) s.heap s.heap [] := va_S.rf
  have hF : fr [3] E σ σ := fr.rf
  have inX8 : ∀ w ∈ wsX80, w ∈ wsX8_fail := by decide +kernel
  have fl0 := hts (.fieldLink RX8 58 "NestQuery$Tokens" "fault" "I") (by decide +kernel)
  have fl1 := hts (.fieldLink RX8 64 "NestQuery$Tokens" "kind" "I") (by decide +kernel)
  have fl2 := hts (.fieldLink RX8 61 "NestQuery$Tokens" "at" "I") (by decide +kernel)
  have fl3 := hts (.fieldLink RX8 15 "NestQuery$Tokens" "starts" "[I") (by decide +kernel)
  have fl4 := hts (.fieldLink RX8 24 "NestQuery$Tokens" "faultPlace" "I") (by decide +kernel)
  have hl := lv_entry ([.ref a, .int (I i)]) (n := 2) (Nat.le_of_ble_eq_true rfl)
  rw [lg_entry_eq]
  generalize (lg_sl ([.ref a, .int (I i)]) ++ List.replicate (2 - (lg_sl ([.ref a, .int (I i)])).length) Slot.unset).toArray = ls at hl ⊢
  have hl : lv_has ls 2 [(0, .ref a), (1, .int (I i))] := hl
  refine lv_aload_n hx hb dX8_fail_0 rfl (lv_at hl 0 rfl) ?_
  refine ok.getI hO h_a (by decide) k3_7 (fun _ _ he hv kk => th_get (ci := 8) (C := RX8) (T := TX8) (N := 9) hx hb hts inX8 hown hK hH he rfl 7 (by decide) fl0 hv dX8_fail_1 kk) (fun z_1 e_2 rz_1 lz_1 uz_1 => ?_)
  refine lv_if_ne (tgt := 42) hx hb dX8_fail_4 (by decide) (fun c_3 => ?_) (fun c_3 => ?_)
  · replace c_3 := mt (I_eq (a := z_1) (b := 0) rz_1 (show rng 0 from ⟨by decide, by decide⟩)).mpr c_3
    refine lv_aload_n hx hb dX8_fail_42 rfl (lv_at hl 0 rfl) ?_
    refine lv_sipush (v := I 260) hx hb dX8_fail_43 (by decide) ?_
    refine ok.putI hO h_a (by decide) k3_6 (show rng 260 from ⟨by decide, by decide⟩) (by omega) (by omega) (fun _ he hl9 kk => th_put (ci := 8) (v := .int (I 260)) (ty := .int) (C := RX8) (T := TX8) (N := 9) hx hb hts inX8 tyX8 tyX8_ok nmX8 hown hK hH hS h00 he rfl 6 (by decide) fl1 rfl (by decide +kernel) rfl rfl hl9 dX8_fail_46 kk) (fun σ_s_4 H locs hO hF9 hg9 hi9 ha9 hH hS => ?_)
    replace hF := hF.tu hF9 (by decide)
    have e_5 : gI σ_s_4 a 7 = z_1 := (hi9 _ _ (Or.inr (by decide))).trans e_2
    have e_6 := hg9
    exact th_vret hx hb hr hlocks hH hS ⟨hO, hF, trivial⟩ dX8_fail_49
  · replace c_3 := (I_eq (a := z_1) (b := 0) rz_1 (show rng 0 from ⟨by decide, by decide⟩)).mp c_3
    refine lv_aload_n hx hb dX8_fail_7 rfl (lv_at hl 0 rfl) ?_
    refine ok.getI hO h_a (by decide) k3_5 (fun _ _ he hv kk => th_get (ci := 8) (C := RX8) (T := TX8) (N := 9) hx hb hts inX8 hown hK hH he rfl 5 (by decide) fl2 hv dX8_fail_8 kk) (fun z_7 e_8 rz_7 lz_7 uz_7 => ?_)
    refine lv_if_lt (tgt := 42) hx hb dX8_fail_11 (by decide) (fun c_9 => ?_) (fun c_9 => ?_)
    · replace c_9 := (I_lt (a := z_7) (b := 0) rz_7 (show rng 0 from ⟨by decide, by decide⟩)).mp c_9
      refine lv_aload_n hx hb dX8_fail_42 rfl (lv_at hl 0 rfl) ?_
      refine lv_sipush (v := I 260) hx hb dX8_fail_43 (by decide) ?_
      refine ok.putI hO h_a (by decide) k3_6 (show rng 260 from ⟨by decide, by decide⟩) (by omega) (by omega) (fun _ he hl9 kk => th_put (ci := 8) (v := .int (I 260)) (ty := .int) (C := RX8) (T := TX8) (N := 9) hx hb hts inX8 tyX8 tyX8_ok nmX8 hown hK hH hS h00 he rfl 6 (by decide) fl1 rfl (by decide +kernel) rfl rfl hl9 dX8_fail_46 kk) (fun σ_s_10 H locs hO hF9 hg9 hi9 ha9 hH hS => ?_)
      replace hF := hF.tu hF9 (by decide)
      have e_11 : gI σ_s_10 a 7 = z_1 := (hi9 _ _ (Or.inr (by decide))).trans e_2
      have e_12 : gI σ_s_10 a 5 = z_7 := (hi9 _ _ (Or.inr (by decide))).trans e_8
      have e_13 := hg9
      exact th_vret hx hb hr hlocks hH hS ⟨hO, hF, trivial⟩ dX8_fail_49
    · replace c_9 := mt (I_lt (a := z_7) (b := 0) rz_7 (show rng 0 from ⟨by decide, by decide⟩)).mpr c_9
      refine lv_aload_n hx hb dX8_fail_14 rfl (lv_at hl 0 rfl) ?_
      refine ok.getIc hO h_a (by decide) k3_5 e_8 (fun _ _ he hv kk => th_get (ci := 8) (C := RX8) (T := TX8) (N := 9) hx hb hts inX8 hown hK hH he rfl 5 (by decide) fl2 hv dX8_fail_15 kk) ?_
      refine lv_sipush (v := I 401) hx hb dX8_fail_18 (by decide) ?_
      refine lv_icmp_ge (tgt := 42) hx hb dX8_fail_21 (by decide) (fun c_14 => ?_) (fun c_14 => ?_)
      · replace c_14 := (I_le (a := 401) (b := z_7) (show rng 401 from ⟨by decide, by decide⟩) rz_7).mp c_14
        refine lv_aload_n hx hb dX8_fail_42 rfl (lv_at hl 0 rfl) ?_
        refine lv_sipush (v := I 260) hx hb dX8_fail_43 (by decide) ?_
        refine ok.putI hO h_a (by decide) k3_6 (show rng 260 from ⟨by decide, by decide⟩) (by omega) (by omega) (fun _ he hl9 kk => th_put (ci := 8) (v := .int (I 260)) (ty := .int) (C := RX8) (T := TX8) (N := 9) hx hb hts inX8 tyX8 tyX8_ok nmX8 hown hK hH hS h00 he rfl 6 (by decide) fl1 rfl (by decide +kernel) rfl rfl hl9 dX8_fail_46 kk) (fun σ_s_15 H locs hO hF9 hg9 hi9 ha9 hH hS => ?_)
        replace hF := hF.tu hF9 (by decide)
        have e_16 : gI σ_s_15 a 7 = z_1 := (hi9 _ _ (Or.inr (by decide))).trans e_2
        have e_17 : gI σ_s_15 a 5 = z_7 := (hi9 _ _ (Or.inr (by decide))).trans e_8
        have e_18 := hg9
        exact th_vret hx hb hr hlocks hH hS ⟨hO, hF, trivial⟩ dX8_fail_49
      · replace c_14 := mt (I_le (a := 401) (b := z_7) (show rng 401 from ⟨by decide, by decide⟩) rz_7).mpr c_14
        refine lv_aload_n hx hb dX8_fail_24 rfl (lv_at hl 0 rfl) ?_
        refine lv_iload_n hx hb dX8_fail_25 rfl (lv_at hl 1 rfl) ?_
        refine ok.putI hO h_a (by decide) k3_7 ri (by omega) (by omega) (fun _ he hl9 kk => th_put (ci := 8) (v := .int (I i)) (ty := .int) (C := RX8) (T := TX8) (N := 9) hx hb hts inX8 tyX8 tyX8_ok nmX8 hown hK hH hS h00 he rfl 7 (by decide) fl0 rfl (by decide +kernel) rfl rfl hl9 dX8_fail_26 kk) (fun σ_s_19 H locs hO hF9 hg9 hi9 ha9 hH hS => ?_)
        replace hF := hF.tu hF9 (by decide)
        have e_20 : gI σ_s_19 a 5 = z_7 := (hi9 _ _ (Or.inr (by decide))).trans e_8
        have e_21 := hg9
        refine lv_aload_n hx hb dX8_fail_29 rfl (lv_at hl 0 rfl) ?_
        refine lv_aload_n hx hb dX8_fail_30 rfl (lv_at hl 0 rfl) ?_
        refine ok.getR hO h_a (by decide) k3_1 (by decide) (fun _ _ he hv kk => th_get (ci := 8) (C := RX8) (T := TX8) (N := 9) hx hb hts inX8 hown hK hH he rfl 1 (by decide) fl3 hv dX8_fail_31 kk) ?_
        refine lv_aload_n hx hb dX8_fail_34 rfl (lv_at hl 0 rfl) ?_
        refine ok.getIc hO h_a (by decide) k3_5 e_20 (fun _ _ he hv kk => th_get (ci := 8) (C := RX8) (T := TX8) (N := 9) hx hb hts inX8 hown hK hH he rfl 5 (by decide) fl2 hv dX8_fail_35 kk) ?_
        refine ok_iald hx hb hK hH hO h_a (by decide) k3_1 isA1 rz_7 (by omega) (by omega) dX8_fail_38 (fun z_22 ez_22 rz_22 el9 => ?_)
        refine ok.putI hO h_a (by decide) k3_8 rz_22 (by omega) (by omega) (fun _ he hl9 kk => th_put (ci := 8) (v := .int (I z_22)) (ty := .int) (C := RX8) (T := TX8) (N := 9) hx hb hts inX8 tyX8 tyX8_ok nmX8 hown hK hH hS h00 he rfl 8 (by decide) fl4 rfl (by decide +kernel) rfl rfl hl9 dX8_fail_39 kk) (fun σ_s_23 H locs hO hF9 hg9 hi9 ha9 hH hS => ?_)
        replace hF := hF.tu hF9 (by decide)
        have e_24 : gI σ_s_23 a 5 = z_7 := (hi9 _ _ (Or.inr (by decide))).trans e_20
        have e_25 : gI σ_s_23 a 7 = i := (hi9 _ _ (Or.inr (by decide))).trans e_21
        have e_26 := hg9
        refine lv_aload_n hx hb dX8_fail_42 rfl (lv_at hl 0 rfl) ?_
        refine lv_sipush (v := I 260) hx hb dX8_fail_43 (by decide) ?_
        refine ok.putI hO h_a (by decide) k3_6 (show rng 260 from ⟨by decide, by decide⟩) (by omega) (by omega) (fun _ he hl9 kk => th_put (ci := 8) (v := .int (I 260)) (ty := .int) (C := RX8) (T := TX8) (N := 9) hx hb hts inX8 tyX8 tyX8_ok nmX8 hown hK hH hS h00 he rfl 6 (by decide) fl1 rfl (by decide +kernel) rfl rfl hl9 dX8_fail_46 kk) (fun σ_s_27 H locs hO hF9 hg9 hi9 ha9 hH hS => ?_)
        replace hF := hF.tu hF9 (by decide)
        have e_28 : gI σ_s_27 a 5 = z_7 := (hi9 _ _ (Or.inr (by decide))).trans e_24
        have e_29 : gI σ_s_27 a 7 = i := (hi9 _ _ (Or.inr (by decide))).trans e_25
        have e_30 : gI σ_s_27 a 8 = z_22 := (hi9 _ _ (Or.inr (by decide))).trans e_26
        have e_31 := hg9
        exact th_vret hx hb hr hlocks hH hS ⟨hO, hF, trivial⟩ dX8_fail_49

set_option maxHeartbeats 1000000 in
set_option maxRecDepth 100000 in
theorem k_step (l : Launch) (G : va_G) (y : Nat → ClassId) (b0 : Nat) (σ : th_M) (E : th_E) (hO : ok y E σ) (a : Nat) (h_a : kd E a = 3) : Met l yX8_step wsX8_step ({ frames := 0, cells := 0, slots := 0, locals := 0 }) (th_P G y b0 σ [.ref a]) (th_Qv G b0 (fun σ1 => ok y E σ1 ∧ fr [3] E σ σ1 ∧ (True))) 0 0 (th_A b0) := by
  refine Met.ofW (cc := cX8_step) (maxL := 1) (ret := none) (by decide) rfl ?_
  intro p e s m args below meth c s₁ B hml hv
  obtain ⟨rfl, hH, hK⟩ := hv
  have hx := B.exec
  have hb := B.bytes
  have hr := B.returns
  have hts := atoms_spec (ws := wsX8_step) B.pre
  have hown : s.vm.findClass RX8 = some m.cls := findClass_of_methodNamed B.named
  have hlocks := B.notSynchronized
  have h00 : b0 ≤ s.heap.size := hH.1
  have hS : va_S (th_A b0) s.heap s.heap [] := va_S.rf
  have hF : fr [3] E σ σ := fr.rf
  have inX8 : ∀ w ∈ wsX80, w ∈ wsX8_step := by decide +kernel
  have fl0 := hts (.fieldLink RX8 58 "NestQuery$Tokens" "fault" "I") (by decide +kernel)
  have fl1 := hts (.fieldLink RX8 61 "NestQuery$Tokens" "at" "I") (by decide +kernel)
  have fl2 := hts (.fieldLink RX8 37 "NestQuery$Tokens" "found" "I") (by decide +kernel)
  have fl3 := hts (.fieldLink RX8 11 "NestQuery$Tokens" "kinds" "[I") (by decide +kernel)
  have fl4 := hts (.fieldLink RX8 64 "NestQuery$Tokens" "kind" "I") (by decide +kernel)
  have hl := lv_entry ([.ref a]) (n := 1) (Nat.le_of_ble_eq_true rfl)
  rw [lg_entry_eq]
  generalize (lg_sl ([.ref a]) ++ List.replicate (1 - (lg_sl ([.ref a])).length) Slot.unset).toArray = ls at hl ⊢
  have hl : lv_has ls 1 [(0, .ref a)] := hl
  refine lv_aload_n hx hb dX8_step_0 rfl (lv_at hl 0 rfl) ?_
  refine ok.getI hO h_a (by decide) k3_7 (fun _ _ he hv kk => th_get (ci := 8) (C := RX8) (T := TX8) (N := 9) hx hb hts inX8 hown hK hH he rfl 7 (by decide) fl0 hv dX8_step_1 kk) (fun z_1 e_2 rz_1 lz_1 uz_1 => ?_)
  refine lv_if_ne (tgt := 62) hx hb dX8_step_4 (by decide) (fun c_3 => ?_) (fun c_3 => ?_)
  · replace c_3 := mt (I_eq (a := z_1) (b := 0) rz_1 (show rng 0 from ⟨by decide, by decide⟩)).mpr c_3
    exact th_vret hx hb hr hlocks hH hS ⟨hO, hF, trivial⟩ dX8_step_62
  · replace c_3 := (I_eq (a := z_1) (b := 0) rz_1 (show rng 0 from ⟨by decide, by decide⟩)).mp c_3
    refine lv_aload_n hx hb dX8_step_7 rfl (lv_at hl 0 rfl) ?_
    refine ok.getI hO h_a (by decide) k3_5 (fun _ _ he hv kk => th_get (ci := 8) (C := RX8) (T := TX8) (N := 9) hx hb hts inX8 hown hK hH he rfl 5 (by decide) fl1 hv dX8_step_8 kk) (fun z_4 e_5 rz_4 lz_4 uz_4 => ?_)
    refine lv_if_lt (tgt := 62) hx hb dX8_step_11 (by decide) (fun c_6 => ?_) (fun c_6 => ?_)
    · replace c_6 := (I_lt (a := z_4) (b := 0) rz_4 (show rng 0 from ⟨by decide, by decide⟩)).mp c_6
      exact th_vret hx hb hr hlocks hH hS ⟨hO, hF, trivial⟩ dX8_step_62
    · replace c_6 := mt (I_lt (a := z_4) (b := 0) rz_4 (show rng 0 from ⟨by decide, by decide⟩)).mpr c_6
      refine lv_aload_n hx hb dX8_step_14 rfl (lv_at hl 0 rfl) ?_
      refine ok.getIc hO h_a (by decide) k3_5 e_5 (fun _ _ he hv kk => th_get (ci := 8) (C := RX8) (T := TX8) (N := 9) hx hb hts inX8 hown hK hH he rfl 5 (by decide) fl1 hv dX8_step_15 kk) ?_
      refine lv_iconst (v := I 1) hx hb dX8_step_18 (by decide) ?_
      refine lv_iadd hx hb dX8_step_19 ?_
      refine nq_top (I_add _ _) ?_
      refine lv_aload_n hx hb dX8_step_20 rfl (lv_at hl 0 rfl) ?_
      refine ok.getI hO h_a (by decide) k3_4 (fun _ _ he hv kk => th_get (ci := 8) (C := RX8) (T := TX8) (N := 9) hx hb hts inX8 hown hK hH he rfl 4 (by decide) fl2 hv dX8_step_21 kk) (fun z_7 e_8 rz_7 lz_7 uz_7 => ?_)
      refine lv_icmp_ge (tgt := 62) hx hb dX8_step_24 (by decide) (fun c_9 => ?_) (fun c_9 => ?_)
      · replace c_9 := (I_le (a := z_7) (b := z_4 + 1) rz_7 ⟨by omega, by omega⟩).mp c_9
        exact th_vret hx hb hr hlocks hH hS ⟨hO, hF, trivial⟩ dX8_step_62
      · replace c_9 := mt (I_le (a := z_7) (b := z_4 + 1) rz_7 ⟨by omega, by omega⟩).mpr c_9
        refine lv_aload_n hx hb dX8_step_27 rfl (lv_at hl 0 rfl) ?_
        refine ok.getIc hO h_a (by decide) k3_5 e_5 (fun _ _ he hv kk => th_get (ci := 8) (C := RX8) (T := TX8) (N := 9) hx hb hts inX8 hown hK hH he rfl 5 (by decide) fl1 hv dX8_step_28 kk) ?_
        refine lv_iconst (v := I 1) hx hb dX8_step_31 (by decide) ?_
        refine lv_iadd hx hb dX8_step_32 ?_
        refine nq_top (I_add _ _) ?_
        refine lv_sipush (v := I 401) hx hb dX8_step_33 (by decide) ?_
        refine lv_icmp_ge (tgt := 62) hx hb dX8_step_36 (by decide) (fun c_10 => ?_) (fun c_10 => ?_)
        · replace c_10 := (I_le (a := 401) (b := z_4 + 1) (show rng 401 from ⟨by decide, by decide⟩) ⟨by omega, by omega⟩).mp c_10
          exact th_vret hx hb hr hlocks hH hS ⟨hO, hF, trivial⟩ dX8_step_62
        · replace c_10 := mt (I_le (a := 401) (b := z_4 + 1) (show rng 401 from ⟨by decide, by decide⟩) ⟨by omega, by omega⟩).mpr c_10
          refine lv_aload_n hx hb dX8_step_39 rfl (lv_at hl 0 rfl) ?_
          refine lv_dup hx hb dX8_step_40 rfl ?_
          refine ok.getIc hO h_a (by decide) k3_5 e_5 (fun _ _ he hv kk => th_get (ci := 8) (C := RX8) (T := TX8) (N := 9) hx hb hts inX8 hown hK hH he rfl 5 (by decide) fl1 hv dX8_step_41 kk) ?_
          refine lv_iconst (v := I 1) hx hb dX8_step_44 (by decide) ?_
          refine lv_iadd hx hb dX8_step_45 ?_
          refine nq_top (I_add _ _) ?_
          refine ok.putI hO h_a (by decide) k3_5 ⟨by omega, by omega⟩ (by omega) (by omega) (fun _ he hl9 kk => th_put (ci := 8) (v := .int (I (z_4 + 1))) (ty := .int) (C := RX8) (T := TX8) (N := 9) hx hb hts inX8 tyX8 tyX8_ok nmX8 hown hK hH hS h00 he rfl 5 (by decide) fl1 rfl (by decide +kernel) rfl rfl hl9 dX8_step_46 kk) (fun σ_s_11 H locs hO hF9 hg9 hi9 ha9 hH hS => ?_)
          replace hF := hF.tu hF9 (by decide)
          have e_12 : gI σ_s_11 a 7 = z_1 := (hi9 _ _ (Or.inr (by decide))).trans e_2
          have e_13 : gI σ_s_11 a 4 = z_7 := (hi9 _ _ (Or.inr (by decide))).trans e_8
          have e_14 := hg9
          refine lv_aload_n hx hb dX8_step_49 rfl (lv_at hl 0 rfl) ?_
          refine lv_aload_n hx hb dX8_step_50 rfl (lv_at hl 0 rfl) ?_
          refine ok.getR hO h_a (by decide) k3_0 (by decide) (fun _ _ he hv kk => th_get (ci := 8) (C := RX8) (T := TX8) (N := 9) hx hb hts inX8 hown hK hH he rfl 0 (by decide) fl3 hv dX8_step_51 kk) ?_
          refine lv_aload_n hx hb dX8_step_54 rfl (lv_at hl 0 rfl) ?_
          refine ok.getIc hO h_a (by decide) k3_5 e_14 (fun _ _ he hv kk => th_get (ci := 8) (C := RX8) (T := TX8) (N := 9) hx hb hts inX8 hown hK hH he rfl 5 (by decide) fl1 hv dX8_step_55 kk) ?_
          refine ok_iald hx hb hK hH hO h_a (by decide) k3_0 isA1 ⟨by omega, by omega⟩ (by omega) (by omega) dX8_step_58 (fun z_15 ez_15 rz_15 el9 => ?_)
          refine ok.putI hO h_a (by decide) k3_6 rz_15 (by omega) (by omega) (fun _ he hl9 kk => th_put (ci := 8) (v := .int (I z_15)) (ty := .int) (C := RX8) (T := TX8) (N := 9) hx hb hts inX8 tyX8 tyX8_ok nmX8 hown hK hH hS h00 he rfl 6 (by decide) fl4 rfl (by decide +kernel) rfl rfl hl9 dX8_step_59 kk) (fun σ_s_16 H locs hO hF9 hg9 hi9 ha9 hH hS => ?_)
          replace hF := hF.tu hF9 (by decide)
          have e_17 : gI σ_s_16 a 7 = z_1 := (hi9 _ _ (Or.inr (by decide))).trans e_12
          have e_18 : gI σ_s_16 a 4 = z_7 := (hi9 _ _ (Or.inr (by decide))).trans e_13
          have e_19 : gI σ_s_16 a 5 = z_4 + 1 := (hi9 _ _ (Or.inr (by decide))).trans e_14
          have e_20 := hg9
          exact th_vret hx hb hr hlocks hH hS ⟨hO, hF, trivial⟩ dX8_step_62

set_option maxHeartbeats 1000000 in
set_option maxRecDepth 100000 in
theorem k_value (l : Launch) (G : va_G) (y : Nat → ClassId) (b0 : Nat) (σ : th_M) (E : th_E) (hO : ok y E σ) (a : Nat) (h_a : kd E a = 3) : Met l yX8_value wsX8_value ({ frames := 0, cells := 0, slots := 0, locals := 0 }) (th_P G y b0 σ [.ref a]) (th_Qi G b0 (fun r σ1 => σ1 = σ ∧ (True))) 0 0 (th_A b0) := by
  refine Met.ofW (cc := cX8_value) (maxL := 1) (ret := (some .int)) (by decide) rfl ?_
  intro p e s m args below meth c s₁ B hml hv
  obtain ⟨rfl, hH, hK⟩ := hv
  have hx := B.exec
  have hb := B.bytes
  have hr := B.returns
  have hts := atoms_spec (ws := wsX8_value) B.pre
  have hown : s.vm.findClass RX8 = some m.cls := findClass_of_methodNamed B.named
  have hlocks := B.notSynchronized
  have h00 : b0 ≤ s.heap.size := hH.1
  have hS : va_S (th_A b0) s.heap s.heap [] := va_S.rf
  have inX8 : ∀ w ∈ wsX80, w ∈ wsX8_value := by decide +kernel
  have fl0 := hts (.fieldLink RX8 61 "NestQuery$Tokens" "at" "I") (by decide +kernel)
  have fl1 := hts (.fieldLink RX8 18 "NestQuery$Tokens" "values" "[I") (by decide +kernel)
  have hl := lv_entry ([.ref a]) (n := 1) (Nat.le_of_ble_eq_true rfl)
  rw [lg_entry_eq]
  generalize (lg_sl ([.ref a]) ++ List.replicate (1 - (lg_sl ([.ref a])).length) Slot.unset).toArray = ls at hl ⊢
  have hl : lv_has ls 1 [(0, .ref a)] := hl
  refine lv_aload_n hx hb dX8_value_0 rfl (lv_at hl 0 rfl) ?_
  refine ok.getI hO h_a (by decide) k3_5 (fun _ _ he hv kk => th_get (ci := 8) (C := RX8) (T := TX8) (N := 9) hx hb hts inX8 hown hK hH he rfl 5 (by decide) fl0 hv dX8_value_1 kk) (fun z_1 e_2 rz_1 lz_1 uz_1 => ?_)
  refine lv_if_lt (tgt := 17) hx hb dX8_value_4 (by decide) (fun c_3 => ?_) (fun c_3 => ?_)
  · replace c_3 := (I_lt (a := z_1) (b := 0) rz_1 (show rng 0 from ⟨by decide, by decide⟩)).mp c_3
    refine lv_iconst (v := I 0) hx hb dX8_value_17 (by decide) ?_
    refine lv_goto (tgt := 30) hx hb dX8_value_18 (by decide) ?_
    exact th_iret hx hb hr hlocks hH hS (z := 0) (show rng 0 from ⟨by decide, by decide⟩) ⟨rfl, trivial⟩ dX8_value_30
  · replace c_3 := mt (I_lt (a := z_1) (b := 0) rz_1 (show rng 0 from ⟨by decide, by decide⟩)).mpr c_3
    refine lv_aload_n hx hb dX8_value_7 rfl (lv_at hl 0 rfl) ?_
    refine ok.getIc hO h_a (by decide) k3_5 e_2 (fun _ _ he hv kk => th_get (ci := 8) (C := RX8) (T := TX8) (N := 9) hx hb hts inX8 hown hK hH he rfl 5 (by decide) fl0 hv dX8_value_8 kk) ?_
    refine lv_sipush (v := I 401) hx hb dX8_value_11 (by decide) ?_
    refine lv_icmp_lt (tgt := 21) hx hb dX8_value_14 (by decide) (fun c_4 => ?_) (fun c_4 => ?_)
    · replace c_4 := (I_lt (a := z_1) (b := 401) rz_1 (show rng 401 from ⟨by decide, by decide⟩)).mp c_4
      refine lv_aload_n hx hb dX8_value_21 rfl (lv_at hl 0 rfl) ?_
      refine ok.getR hO h_a (by decide) k3_2 (by decide) (fun _ _ he hv kk => th_get (ci := 8) (C := RX8) (T := TX8) (N := 9) hx hb hts inX8 hown hK hH he rfl 2 (by decide) fl1 hv dX8_value_22 kk) ?_
      refine lv_aload_n hx hb dX8_value_25 rfl (lv_at hl 0 rfl) ?_
      refine ok.getIc hO h_a (by decide) k3_5 e_2 (fun _ _ he hv kk => th_get (ci := 8) (C := RX8) (T := TX8) (N := 9) hx hb hts inX8 hown hK hH he rfl 5 (by decide) fl0 hv dX8_value_26 kk) ?_
      refine ok_iald hx hb hK hH hO h_a (by decide) k3_2 isA1 rz_1 (by omega) (by omega) dX8_value_29 (fun z_5 ez_5 rz_5 el9 => ?_)
      exact th_iret hx hb hr hlocks hH hS (z := z_5) rz_5 ⟨rfl, trivial⟩ dX8_value_30
    · replace c_4 := mt (I_lt (a := z_1) (b := 401) rz_1 (show rng 401 from ⟨by decide, by decide⟩)).mpr c_4
      refine lv_iconst (v := I 0) hx hb dX8_value_17 (by decide) ?_
      refine lv_goto (tgt := 30) hx hb dX8_value_18 (by decide) ?_
      exact th_iret hx hb hr hlocks hH hS (z := 0) (show rng 0 from ⟨by decide, by decide⟩) ⟨rfl, trivial⟩ dX8_value_30

set_option maxHeartbeats 1000000 in
set_option maxRecDepth 100000 in
theorem k_longer (l : Launch) (G : va_G) (y : Nat → ClassId) (b0 : Nat) (σ : th_M) (E : th_E) (hO : ok y E σ) (a : Nat) (h_a : kd E a = 3) (i : Int) (ri : rng i) : Met l yX8_isLongerThan wsX8_isLongerThan ({ frames := 0, cells := 0, slots := 0, locals := 0 }) (th_P G y b0 σ [.ref a, .int (I i)]) (th_Qi G b0 (fun r σ1 => σ1 = σ ∧ (0 ≤ r ∧ r ≤ 1) ∧ (True))) 0 0 (th_A b0) := by
  refine Met.ofW (cc := cX8_isLongerThan) (maxL := 2) (ret := (some .boolean)) (by decide) rfl ?_
  intro p e s m args below meth c s₁ B hml hv
  obtain ⟨rfl, hH, hK⟩ := hv
  have hx := B.exec
  have hb := B.bytes
  have hr := B.returns
  have hts := atoms_spec (ws := wsX8_isLongerThan) B.pre
  have hown : s.vm.findClass RX8 = some m.cls := findClass_of_methodNamed B.named
  have hlocks := B.notSynchronized
  have h00 : b0 ≤ s.heap.size := hH.1
  have hS : va_S (th_A b0) s.heap s.heap [] := va_S.rf
  have inX8 : ∀ w ∈ wsX80, w ∈ wsX8_isLongerThan := by decide +kernel
  have fl0 := hts (.fieldLink RX8 61 "NestQuery$Tokens" "at" "I") (by decide +kernel)
  have fl1 := hts (.fieldLink RX8 21 "NestQuery$Tokens" "lengths" "[I") (by decide +kernel)
  have hl := lv_entry ([.ref a, .int (I i)]) (n := 2) (Nat.le_of_ble_eq_true rfl)
  rw [lg_entry_eq]
  generalize (lg_sl ([.ref a, .int (I i)]) ++ List.replicate (2 - (lg_sl ([.ref a, .int (I i)])).length) Slot.unset).toArray = ls at hl ⊢
  have hl : lv_has ls 2 [(0, .ref a), (1, .int (I i))] := hl
  refine lv_aload_n hx hb dX8_isLongerThan_0 rfl (lv_at hl 0 rfl) ?_
  refine ok.getI hO h_a (by decide) k3_5 (fun _ _ he hv kk => th_get (ci := 8) (C := RX8) (T := TX8) (N := 9) hx hb hts inX8 hown hK hH he rfl 5 (by decide) fl0 hv dX8_isLongerThan_1 kk) (fun z_1 e_2 rz_1 lz_1 uz_1 => ?_)
  refine lv_if_lt (tgt := 34) hx hb dX8_isLongerThan_4 (by decide) (fun c_3 => ?_) (fun c_3 => ?_)
  · replace c_3 := (I_lt (a := z_1) (b := 0) rz_1 (show rng 0 from ⟨by decide, by decide⟩)).mp c_3
    refine lv_iconst (v := I 0) hx hb dX8_isLongerThan_34 (by decide) ?_
    exact th_zret hx hb hr hlocks hH hS (z := 0) (by omega) ⟨rfl, ⟨by omega, by omega⟩, trivial⟩ dX8_isLongerThan_35
  · replace c_3 := mt (I_lt (a := z_1) (b := 0) rz_1 (show rng 0 from ⟨by decide, by decide⟩)).mpr c_3
    refine lv_aload_n hx hb dX8_isLongerThan_7 rfl (lv_at hl 0 rfl) ?_
    refine ok.getIc hO h_a (by decide) k3_5 e_2 (fun _ _ he hv kk => th_get (ci := 8) (C := RX8) (T := TX8) (N := 9) hx hb hts inX8 hown hK hH he rfl 5 (by decide) fl0 hv dX8_isLongerThan_8 kk) ?_
    refine lv_sipush (v := I 401) hx hb dX8_isLongerThan_11 (by decide) ?_
    refine lv_icmp_ge (tgt := 34) hx hb dX8_isLongerThan_14 (by decide) (fun c_4 => ?_) (fun c_4 => ?_)
    · replace c_4 := (I_le (a := 401) (b := z_1) (show rng 401 from ⟨by decide, by decide⟩) rz_1).mp c_4
      refine lv_iconst (v := I 0) hx hb dX8_isLongerThan_34 (by decide) ?_
      exact th_zret hx hb hr hlocks hH hS (z := 0) (by omega) ⟨rfl, ⟨by omega, by omega⟩, trivial⟩ dX8_isLongerThan_35
    · replace c_4 := mt (I_le (a := 401) (b := z_1) (show rng 401 from ⟨by decide, by decide⟩) rz_1).mpr c_4
      refine lv_aload_n hx hb dX8_isLongerThan_17 rfl (lv_at hl 0 rfl) ?_
      refine ok.getR hO h_a (by decide) k3_3 (by decide) (fun _ _ he hv kk => th_get (ci := 8) (C := RX8) (T := TX8) (N := 9) hx hb hts inX8 hown hK hH he rfl 3 (by decide) fl1 hv dX8_isLongerThan_18 kk) ?_
      refine lv_aload_n hx hb dX8_isLongerThan_21 rfl (lv_at hl 0 rfl) ?_
      refine ok.getIc hO h_a (by decide) k3_5 e_2 (fun _ _ he hv kk => th_get (ci := 8) (C := RX8) (T := TX8) (N := 9) hx hb hts inX8 hown hK hH he rfl 5 (by decide) fl0 hv dX8_isLongerThan_22 kk) ?_
      refine ok_iald hx hb hK hH hO h_a (by decide) k3_3 isA1 rz_1 (by omega) (by omega) dX8_isLongerThan_25 (fun z_5 ez_5 rz_5 el9 => ?_)
      refine lv_iload_n hx hb dX8_isLongerThan_26 rfl (lv_at hl 1 rfl) ?_
      refine lv_icmp_le (tgt := 34) hx hb dX8_isLongerThan_27 (by decide) (fun c_6 => ?_) (fun c_6 => ?_)
      · replace c_6 := (I_le (a := z_5) (b := i) rz_5 ri).mp c_6
        refine lv_iconst (v := I 0) hx hb dX8_isLongerThan_34 (by decide) ?_
        exact th_zret hx hb hr hlocks hH hS (z := 0) (by omega) ⟨rfl, ⟨by omega, by omega⟩, trivial⟩ dX8_isLongerThan_35
      · replace c_6 := mt (I_le (a := z_5) (b := i) rz_5 ri).mpr c_6
        refine lv_iconst (v := I 1) hx hb dX8_isLongerThan_30 (by decide) ?_
        refine lv_goto (tgt := 35) hx hb dX8_isLongerThan_31 (by decide) ?_
        exact th_zret hx hb hr hlocks hH hS (z := 1) (by omega) ⟨rfl, ⟨by omega, by omega⟩, trivial⟩ dX8_isLongerThan_35

set_option maxHeartbeats 1000000 in
set_option maxRecDepth 100000 in
theorem k_expect (l : Launch) (G : va_G) (y : Nat → ClassId) (b0 : Nat) (σ : th_M) (E : th_E) (hO : ok y E σ) (a : Nat) (h_a : kd E a = 3) (i : Int) (ri : rng i) : Met l yX8_expect wsX8_expect ({ frames := 1, cells := 0, slots := 0, locals := 25 }) (th_P G y b0 σ [.ref a, .int (I i)]) (th_Qv G b0 (fun σ1 => ok y E σ1 ∧ fr [3] E σ σ1 ∧ (True))) 0 0 (th_A b0) := by
  refine Met.ofW (cc := cX8_expect) (maxL := 2) (ret := none) (by decide) rfl ?_
  intro p e s m args below meth c s₁ B hml hv
  obtain ⟨rfl, hH, hK⟩ := hv
  have hx := B.exec
  have hb := B.bytes
  have hr := B.returns
  have hts := atoms_spec (ws := wsX8_expect) B.pre
  have hown : s.vm.findClass RX8 = some m.cls := findClass_of_methodNamed B.named
  have hlocks := B.notSynchronized
  have h00 : b0 ≤ s.heap.size := hH.1
  have hS : va_S (th_A b0) s.heap s.heap [] := va_S.rf
  have hF : fr [3] E σ σ := fr.rf
  have inX8 : ∀ w ∈ wsX80, w ∈ wsX8_expect := by decide +kernel
  have fl0 := hts (.fieldLink RX8 64 "NestQuery$Tokens" "kind" "I") (by decide +kernel)
  have hl := lv_entry ([.ref a, .int (I i)]) (n := 2) (Nat.le_of_ble_eq_true rfl)
  rw [lg_entry_eq]
  generalize (lg_sl ([.ref a, .int (I i)]) ++ List.replicate (2 - (lg_sl ([.ref a, .int (I i)])).length) Slot.unset).toArray = ls at hl ⊢
  have hl : lv_has ls 2 [(0, .ref a), (1, .int (I i))] := hl
  refine lv_aload_n hx hb dX8_expect_0 rfl (lv_at hl 0 rfl) ?_
  refine ok.getI hO h_a (by decide) k3_6 (fun _ _ he hv kk => th_get (ci := 8) (C := RX8) (T := TX8) (N := 9) hx hb hts inX8 hown hK hH he rfl 6 (by decide) fl0 hv dX8_expect_1 kk) (fun z_1 e_2 rz_1 lz_1 uz_1 => ?_)
  refine lv_iload_n hx hb dX8_expect_4 rfl (lv_at hl 1 rfl) ?_
  refine lv_icmp_ne (tgt := 15) hx hb dX8_expect_5 (by decide) (fun c_3 => ?_) (fun c_3 => ?_)
  · replace c_3 := mt (I_eq (a := z_1) (b := i) rz_1 ri).mpr c_3
    refine lv_aload_n hx hb dX8_expect_15 rfl (lv_at hl 0 rfl) ?_
    refine lv_iconst (v := I 1) hx hb dX8_expect_16 (by decide) ?_
    obtain ⟨_, hc_4⟩ := hO.cell h_a (by decide) (ci := 8) rfl
    refine th_callv (va_runV (As := [.int (I 1)]) (rest := []) ⟨hx, hb, hml, hown, hts⟩ (k_fail l G y b0 σ E hO a h_a 1 (show rng 1 from (show rng 1 from ⟨by decide, by decide⟩))) (cwV 1 hts gX8_expect_X8_fail rfl rfl rfl (by decide +kernel) ⟨Nat.le_of_ble_eq_true rfl, Nat.le_of_ble_eq_true rfl⟩) (th_PV hK hH rfl hc_4) rfl rfl hl.1 rfl (lv_room (Nat.le_of_ble_eq_true rfl)) dX8_expect_17 ⟨Nat.le_of_ble_eq_true rfl, Nat.le_of_ble_eq_true rfl⟩) hS (fun σ_s_6 H locs hw_5 hH hS => ?_)
    obtain ⟨hO9, hF9, hw_5⟩ := hw_5
    replace hO := hO9
    replace hF := hF.tu hF9 (by decide)
    exact th_vret hx hb hr hlocks hH hS ⟨hO, hF, trivial⟩ dX8_expect_20
  · replace c_3 := (I_eq (a := z_1) (b := i) rz_1 ri).mp c_3
    refine lv_aload_n hx hb dX8_expect_8 rfl (lv_at hl 0 rfl) ?_
    obtain ⟨_, hc_7⟩ := hO.cell h_a (by decide) (ci := 8) rfl
    refine th_callv (va_runV (As := []) (rest := []) ⟨hx, hb, hml, hown, hts⟩ (k_step l G y b0 σ E hO a h_a) (cwV 0 hts gX8_expect_X8_step rfl rfl rfl (by decide +kernel) ⟨Nat.le_of_ble_eq_true rfl, Nat.le_of_ble_eq_true rfl⟩) (th_PV hK hH rfl hc_7) rfl rfl hl.1 rfl (lv_room (Nat.le_of_ble_eq_true rfl)) dX8_expect_9 ⟨Nat.le_of_ble_eq_true rfl, Nat.le_of_ble_eq_true rfl⟩) hS (fun σ_s_9 H locs hw_8 hH hS => ?_)
    obtain ⟨hO9, hF9, hw_8⟩ := hw_8
    replace hO := hO9
    replace hF := hF.tu hF9 (by decide)
    refine lv_goto (tgt := 20) hx hb dX8_expect_12 (by decide) ?_
    exact th_vret hx hb hr hlocks hH hS ⟨hO, hF, trivial⟩ dX8_expect_20

set_option maxHeartbeats 1000000 in
set_option maxRecDepth 100000 in
theorem k_letters (l : Launch) (G : va_G) (y : Nat → ClassId) (b0 : Nat) (σ : th_M) (E : th_E) (hO : ok y E σ) (a : Nat) (h_a : kd E a = 3) : Met l yX8_takeLetters wsX8_takeLetters ({ frames := 1, cells := 0, slots := 0, locals := 25 }) (th_P G y b0 σ [.ref a]) (th_Qi G b0 (fun r σ1 => ok y E σ1 ∧ fr [3] E σ σ1 ∧ (True))) 0 0 (th_A b0) := by
  refine Met.ofW (cc := cX8_takeLetters) (maxL := 2) (ret := (some .int)) (by decide) rfl ?_
  intro p e s m args below meth c s₁ B hml hv
  obtain ⟨rfl, hH, hK⟩ := hv
  have hx := B.exec
  have hb := B.bytes
  have hr := B.returns
  have hts := atoms_spec (ws := wsX8_takeLetters) B.pre
  have hown : s.vm.findClass RX8 = some m.cls := findClass_of_methodNamed B.named
  have hlocks := B.notSynchronized
  have h00 : b0 ≤ s.heap.size := hH.1
  have hS : va_S (th_A b0) s.heap s.heap [] := va_S.rf
  have hF : fr [3] E σ σ := fr.rf
  have inX8 : ∀ w ∈ wsX80, w ∈ wsX8_takeLetters := by decide +kernel
  have fl0 := hts (.fieldLink RX8 64 "NestQuery$Tokens" "kind" "I") (by decide +kernel)
  have hl := lv_entry ([.ref a]) (n := 2) (Nat.le_of_ble_eq_true rfl)
  rw [lg_entry_eq]
  generalize (lg_sl ([.ref a]) ++ List.replicate (2 - (lg_sl ([.ref a])).length) Slot.unset).toArray = ls at hl ⊢
  have hl : lv_has ls 2 [(0, .ref a)] := hl
  refine lv_aload_n hx hb dX8_takeLetters_0 rfl (lv_at hl 0 rfl) ?_
  refine ok.getI hO h_a (by decide) k3_6 (fun _ _ he hv kk => th_get (ci := 8) (C := RX8) (T := TX8) (N := 9) hx hb hts inX8 hown hK hH he rfl 6 (by decide) fl0 hv dX8_takeLetters_1 kk) (fun z_1 e_2 rz_1 lz_1 uz_1 => ?_)
  refine lv_sipush (v := I 256) hx hb dX8_takeLetters_4 (by decide) ?_
  refine lv_icmp_eq (tgt := 17) hx hb dX8_takeLetters_7 (by decide) (fun c_3 => ?_) (fun c_3 => ?_)
  · replace c_3 := (I_eq (a := z_1) (b := 256) rz_1 (show rng 256 from ⟨by decide, by decide⟩)).mp c_3
    refine lv_aload_n hx hb dX8_takeLetters_17 rfl (lv_at hl 0 rfl) ?_
    refine lv_bipush (v := I 6) hx hb dX8_takeLetters_18 (by decide) ?_
    obtain ⟨_, hc_4⟩ := hO.cell h_a (by decide) (ci := 8) rfl
    refine th_calli (va_runV (As := [.int (I 6)]) (rest := []) ⟨hx, hb, hml, hown, hts⟩ (k_longer l G y b0 σ E hO a h_a 6 (show rng 6 from (show rng 6 from ⟨by decide, by decide⟩))) (cwV 1 hts gX8_takeLetters_X8_isLongerThan rfl rfl rfl (by decide +kernel) ⟨Nat.le_of_ble_eq_true rfl, Nat.le_of_ble_eq_true rfl⟩) (th_PV hK hH rfl hc_4) rfl rfl hl.1 rfl (lv_room (Nat.le_of_ble_eq_true rfl)) dX8_takeLetters_20 ⟨Nat.le_of_ble_eq_true rfl, Nat.le_of_ble_eq_true rfl⟩) hS (fun z_7 σ_s_6 H locs rz_7 hw_5 hH hS => ?_)
    obtain ⟨e9, bhw_5, hw_5⟩ := hw_5
    replace e9 := e9.symm
    subst e9
    refine lv_if_eq (tgt := 33) hx hb dX8_takeLetters_23 (by decide) (fun c_8 => ?_) (fun c_8 => ?_)
    · replace c_8 := (I_eq (a := z_7) (b := 0) rz_7 (show rng 0 from ⟨by decide, by decide⟩)).mp c_8
      refine lv_aload_n hx hb dX8_takeLetters_33 rfl (lv_at hl 0 rfl) ?_
      obtain ⟨_, hc_9⟩ := hO.cell h_a (by decide) (ci := 8) rfl
      refine th_calli (va_runV (As := []) (rest := []) ⟨hx, hb, hml, hown, hts⟩ (k_value l G y b0 σ E hO a h_a) (cwV 0 hts gX8_takeLetters_X8_value rfl rfl rfl (by decide +kernel) ⟨Nat.le_of_ble_eq_true rfl, Nat.le_of_ble_eq_true rfl⟩) (th_PV hK hH rfl hc_9) rfl rfl hl.1 rfl (lv_room (Nat.le_of_ble_eq_true rfl)) dX8_takeLetters_34 ⟨Nat.le_of_ble_eq_true rfl, Nat.le_of_ble_eq_true rfl⟩) hS (fun z_12 σ_s_11 H locs rz_12 hw_10 hH hS => ?_)
      obtain ⟨e9, hw_10⟩ := hw_10
      replace e9 := e9.symm
      subst e9
      refine lv_istore_n (lv' := [(1, .int (I z_12)), (0, .ref a)]) hx hb dX8_takeLetters_37 rfl hl (by decide) rfl (fun ls hl => ?_)
      refine lv_aload_n hx hb dX8_takeLetters_38 rfl (lv_at hl 1 rfl) ?_
      obtain ⟨_, hc_13⟩ := hO.cell h_a (by decide) (ci := 8) rfl
      refine th_callv (va_runV (As := []) (rest := []) ⟨hx, hb, hml, hown, hts⟩ (k_step l G y b0 σ E hO a h_a) (cwV 0 hts gX8_takeLetters_X8_step rfl rfl rfl (by decide +kernel) ⟨Nat.le_of_ble_eq_true rfl, Nat.le_of_ble_eq_true rfl⟩) (th_PV hK hH rfl hc_13) rfl rfl hl.1 rfl (lv_room (Nat.le_of_ble_eq_true rfl)) dX8_takeLetters_39 ⟨Nat.le_of_ble_eq_true rfl, Nat.le_of_ble_eq_true rfl⟩) hS (fun σ_s_15 H locs hw_14 hH hS => ?_)
      obtain ⟨hO9, hF9, hw_14⟩ := hw_14
      replace hO := hO9
      replace hF := hF.tu hF9 (by decide)
      refine lv_iload_n hx hb dX8_takeLetters_42 rfl (lv_at hl 0 rfl) ?_
      exact th_iret hx hb hr hlocks hH hS (z := z_12) rz_12 ⟨hO, hF, trivial⟩ dX8_takeLetters_43
    · replace c_8 := mt (I_eq (a := z_7) (b := 0) rz_7 (show rng 0 from ⟨by decide, by decide⟩)).mpr c_8
      refine lv_aload_n hx hb dX8_takeLetters_26 rfl (lv_at hl 0 rfl) ?_
      refine lv_iconst (v := I 2) hx hb dX8_takeLetters_27 (by decide) ?_
      obtain ⟨_, hc_16⟩ := hO.cell h_a (by decide) (ci := 8) rfl
      refine th_callv (va_runV (As := [.int (I 2)]) (rest := []) ⟨hx, hb, hml, hown, hts⟩ (k_fail l G y b0 σ E hO a h_a 2 (show rng 2 from (show rng 2 from ⟨by decide, by decide⟩))) (cwV 1 hts gX8_takeLetters_X8_fail rfl rfl rfl (by decide +kernel) ⟨Nat.le_of_ble_eq_true rfl, Nat.le_of_ble_eq_true rfl⟩) (th_PV hK hH rfl hc_16) rfl rfl hl.1 rfl (lv_room (Nat.le_of_ble_eq_true rfl)) dX8_takeLetters_28 ⟨Nat.le_of_ble_eq_true rfl, Nat.le_of_ble_eq_true rfl⟩) hS (fun σ_s_18 H locs hw_17 hH hS => ?_)
      obtain ⟨hO9, hF9, hw_17⟩ := hw_17
      replace hO := hO9
      replace hF := hF.tu hF9 (by decide)
      refine lv_iconst (v := I 0) hx hb dX8_takeLetters_31 (by decide) ?_
      exact th_iret hx hb hr hlocks hH hS (z := 0) (show rng 0 from ⟨by decide, by decide⟩) ⟨hO, hF, trivial⟩ dX8_takeLetters_32
  · replace c_3 := mt (I_eq (a := z_1) (b := 256) rz_1 (show rng 256 from ⟨by decide, by decide⟩)).mpr c_3
    refine lv_aload_n hx hb dX8_takeLetters_10 rfl (lv_at hl 0 rfl) ?_
    refine lv_iconst (v := I 1) hx hb dX8_takeLetters_11 (by decide) ?_
    obtain ⟨_, hc_19⟩ := hO.cell h_a (by decide) (ci := 8) rfl
    refine th_callv (va_runV (As := [.int (I 1)]) (rest := []) ⟨hx, hb, hml, hown, hts⟩ (k_fail l G y b0 σ E hO a h_a 1 (show rng 1 from (show rng 1 from ⟨by decide, by decide⟩))) (cwV 1 hts gX8_takeLetters_X8_fail rfl rfl rfl (by decide +kernel) ⟨Nat.le_of_ble_eq_true rfl, Nat.le_of_ble_eq_true rfl⟩) (th_PV hK hH rfl hc_19) rfl rfl hl.1 rfl (lv_room (Nat.le_of_ble_eq_true rfl)) dX8_takeLetters_12 ⟨Nat.le_of_ble_eq_true rfl, Nat.le_of_ble_eq_true rfl⟩) hS (fun σ_s_21 H locs hw_20 hH hS => ?_)
    obtain ⟨hO9, hF9, hw_20⟩ := hw_20
    replace hO := hO9
    replace hF := hF.tu hF9 (by decide)
    refine lv_iconst (v := I 0) hx hb dX8_takeLetters_15 (by decide) ?_
    exact th_iret hx hb hr hlocks hH hS (z := 0) (show rng 0 from ⟨by decide, by decide⟩) ⟨hO, hF, trivial⟩ dX8_takeLetters_16

set_option maxHeartbeats 1000000 in
set_option maxRecDepth 100000 in
theorem k_number (l : Launch) (G : va_G) (y : Nat → ClassId) (b0 : Nat) (σ : th_M) (E : th_E) (hO : ok y E σ) (a : Nat) (h_a : kd E a = 3) : Met l yX8_takeNumber wsX8_takeNumber ({ frames := 1, cells := 0, slots := 0, locals := 25 }) (th_P G y b0 σ [.ref a]) (th_Qi G b0 (fun r σ1 => ok y E σ1 ∧ fr [3] E σ σ1 ∧ (True))) 0 0 (th_A b0) := by
  refine Met.ofW (cc := cX8_takeNumber) (maxL := 3) (ret := (some .int)) (by decide) rfl ?_
  intro p e s m args below meth c s₁ B hml hv
  obtain ⟨rfl, hH, hK⟩ := hv
  have hx := B.exec
  have hb := B.bytes
  have hr := B.returns
  have hts := atoms_spec (ws := wsX8_takeNumber) B.pre
  have hown : s.vm.findClass RX8 = some m.cls := findClass_of_methodNamed B.named
  have hlocks := B.notSynchronized
  have h00 : b0 ≤ s.heap.size := hH.1
  have hS : va_S (th_A b0) s.heap s.heap [] := va_S.rf
  have hF : fr [3] E σ σ := fr.rf
  have inX8 : ∀ w ∈ wsX80, w ∈ wsX8_takeNumber := by decide +kernel
  have fl0 := hts (.fieldLink RX8 64 "NestQuery$Tokens" "kind" "I") (by decide +kernel)
  have hl := lv_entry ([.ref a]) (n := 3) (Nat.le_of_ble_eq_true rfl)
  rw [lg_entry_eq]
  generalize (lg_sl ([.ref a]) ++ List.replicate (3 - (lg_sl ([.ref a])).length) Slot.unset).toArray = ls at hl ⊢
  have hl : lv_has ls 3 [(0, .ref a)] := hl
  refine lv_aload_n hx hb dX8_takeNumber_0 rfl (lv_at hl 0 rfl) ?_
  refine ok.getI hO h_a (by decide) k3_6 (fun _ _ he hv kk => th_get (ci := 8) (C := RX8) (T := TX8) (N := 9) hx hb hts inX8 hown hK hH he rfl 6 (by decide) fl0 hv dX8_takeNumber_1 kk) (fun z_1 e_2 rz_1 lz_1 uz_1 => ?_)
  refine lv_bipush (v := I 45) hx hb dX8_takeNumber_4 (by decide) ?_
  refine th_join (α := Int) (J := 14) (stk := fun x9 => [.int (I x9)]) (fun x9 σ9 H9 l9 ls9 => σ9 = σ ∧ th_H G b0 σ9 H9 ∧ va_S (th_A b0) s.heap H9 l9 ∧ lv_has ls9 3 [(0, .ref a)] ∧ rng x9 ∧ (x9 = 0 ∨ x9 = 1)) ?_ (fun jK_5 => ?_)
  · intro x9 σ_K_5 H locs ls hI9
    obtain ⟨w0q4, ex9⟩ : ∃ z, z = x9 := ⟨_, rfl⟩
    subst ex9
    obtain ⟨eK_5, hH, hS, hl, rw0q4, K_5_0⟩ := hI9
    replace eK_5 := eK_5.symm
    subst eK_5
    have hl : lv_has ls 3 [(0, .ref a)] := hl
    have rw0q4 : rng w0q4 := rw0q4
    have K_5_0 : w0q4 = 0 ∨ w0q4 = 1 := K_5_0
    refine lv_istore_n (lv' := [(1, .int (I w0q4)), (0, .ref a)]) hx hb dX8_takeNumber_14 rfl hl (by decide) rfl (fun ls hl => ?_)
    refine lv_iload_n hx hb dX8_takeNumber_15 rfl (lv_at hl 0 rfl) ?_
    refine th_join (α := Unit) (J := 23) (stk := fun x9 => []) (fun x9 σ9 H9 l9 ls9 => ok y E σ9 ∧ fr [3] E σ σ9 ∧ th_H G b0 σ9 H9 ∧ va_S (th_A b0) s.heap H9 l9 ∧ lv_has ls9 3 [(0, .ref a), (1, .int (I w0q4))]) ?_ (fun jK_11 => ?_)
    · intro x9 σ_K_11 H locs ls hI9
      obtain ⟨hO, hF, hH, hS, hl⟩ := hI9
      have hl : lv_has ls 3 [(0, .ref a), (1, .int (I w0q4))] := hl
      refine lv_aload_n hx hb dX8_takeNumber_23 rfl (lv_at hl 0 rfl) ?_
      refine ok.getI hO h_a (by decide) k3_6 (fun _ _ he hv kk => th_get (ci := 8) (C := RX8) (T := TX8) (N := 9) hx hb hts inX8 hown hK hH he rfl 6 (by decide) fl0 hv dX8_takeNumber_24 kk) (fun z_12 e_13 rz_12 lz_12 uz_12 => ?_)
      refine lv_sipush (v := I 257) hx hb dX8_takeNumber_27 (by decide) ?_
      refine lv_icmp_eq (tgt := 40) hx hb dX8_takeNumber_30 (by decide) (fun c_14 => ?_) (fun c_14 => ?_)
      · replace c_14 := (I_eq (a := z_12) (b := 257) rz_12 (show rng 257 from ⟨by decide, by decide⟩)).mp c_14
        refine lv_aload_n hx hb dX8_takeNumber_40 rfl (lv_at hl 0 rfl) ?_
        refine lv_iconst (v := I 3) hx hb dX8_takeNumber_41 (by decide) ?_
        obtain ⟨_, hc_15⟩ := hO.cell h_a (by decide) (ci := 8) rfl
        refine th_calli (va_runV (As := [.int (I 3)]) (rest := []) ⟨hx, hb, hml, hown, hts⟩ (k_longer l G y b0 σ_K_11 E hO a h_a 3 (show rng 3 from (show rng 3 from ⟨by decide, by decide⟩))) (cwV 1 hts gX8_takeNumber_X8_isLongerThan rfl rfl rfl (by decide +kernel) ⟨Nat.le_of_ble_eq_true rfl, Nat.le_of_ble_eq_true rfl⟩) (th_PV hK hH rfl hc_15) rfl rfl hl.1 rfl (lv_room (Nat.le_of_ble_eq_true rfl)) dX8_takeNumber_42 ⟨Nat.le_of_ble_eq_true rfl, Nat.le_of_ble_eq_true rfl⟩) hS (fun z_18 σ_s_17 H locs rz_18 hw_16 hH hS => ?_)
        obtain ⟨e9, bhw_16, hw_16⟩ := hw_16
        replace e9 := e9.symm
        subst e9
        refine lv_if_eq (tgt := 55) hx hb dX8_takeNumber_45 (by decide) (fun c_19 => ?_) (fun c_19 => ?_)
        · replace c_19 := (I_eq (a := z_18) (b := 0) rz_18 (show rng 0 from ⟨by decide, by decide⟩)).mp c_19
          refine lv_iload_n hx hb dX8_takeNumber_55 rfl (lv_at hl 1 rfl) ?_
          refine lv_if_eq (tgt := 67) hx hb dX8_takeNumber_56 (by decide) (fun c_20 => ?_) (fun c_20 => ?_)
          · replace c_20 := (I_eq (a := w0q4) (b := 0) rw0q4 (show rng 0 from ⟨by decide, by decide⟩)).mp c_20
            refine lv_aload_n hx hb dX8_takeNumber_67 rfl (lv_at hl 0 rfl) ?_
            obtain ⟨_, hc_21⟩ := hO.cell h_a (by decide) (ci := 8) rfl
            refine th_calli (va_runV (As := []) (rest := []) ⟨hx, hb, hml, hown, hts⟩ (k_value l G y b0 σ_K_11 E hO a h_a) (cwV 0 hts gX8_takeNumber_X8_value rfl rfl rfl (by decide +kernel) ⟨Nat.le_of_ble_eq_true rfl, Nat.le_of_ble_eq_true rfl⟩) (th_PV hK hH rfl hc_21) rfl rfl hl.1 rfl (lv_room (Nat.le_of_ble_eq_true rfl)) dX8_takeNumber_68 ⟨Nat.le_of_ble_eq_true rfl, Nat.le_of_ble_eq_true rfl⟩) hS (fun z_24 σ_s_23 H locs rz_24 hw_22 hH hS => ?_)
            obtain ⟨e9, hw_22⟩ := hw_22
            replace e9 := e9.symm
            subst e9
            refine lv_istore_n (lv' := [(2, .int (I z_24)), (0, .ref a), (1, .int (I w0q4))]) hx hb dX8_takeNumber_71 rfl hl (by decide) rfl (fun ls hl => ?_)
            refine lv_aload_n hx hb dX8_takeNumber_72 rfl (lv_at hl 1 rfl) ?_
            obtain ⟨_, hc_25⟩ := hO.cell h_a (by decide) (ci := 8) rfl
            refine th_callv (va_runV (As := []) (rest := []) ⟨hx, hb, hml, hown, hts⟩ (k_step l G y b0 σ_K_11 E hO a h_a) (cwV 0 hts gX8_takeNumber_X8_step rfl rfl rfl (by decide +kernel) ⟨Nat.le_of_ble_eq_true rfl, Nat.le_of_ble_eq_true rfl⟩) (th_PV hK hH rfl hc_25) rfl rfl hl.1 rfl (lv_room (Nat.le_of_ble_eq_true rfl)) dX8_takeNumber_73 ⟨Nat.le_of_ble_eq_true rfl, Nat.le_of_ble_eq_true rfl⟩) hS (fun σ_s_27 H locs hw_26 hH hS => ?_)
            obtain ⟨hO9, hF9, hw_26⟩ := hw_26
            replace hO := hO9
            replace hF := hF.tu hF9 (by decide)
            refine lv_iload_n hx hb dX8_takeNumber_76 rfl (lv_at hl 0 rfl) ?_
            exact th_iret hx hb hr hlocks hH hS (z := z_24) rz_24 ⟨hO, hF, trivial⟩ dX8_takeNumber_77
          · replace c_20 := mt (I_eq (a := w0q4) (b := 0) rw0q4 (show rng 0 from ⟨by decide, by decide⟩)).mpr c_20
            refine lv_aload_n hx hb dX8_takeNumber_59 rfl (lv_at hl 0 rfl) ?_
            obtain ⟨_, hc_28⟩ := hO.cell h_a (by decide) (ci := 8) rfl
            refine th_calli (va_runV (As := []) (rest := []) ⟨hx, hb, hml, hown, hts⟩ (k_value l G y b0 σ_K_11 E hO a h_a) (cwV 0 hts gX8_takeNumber_X8_value rfl rfl rfl (by decide +kernel) ⟨Nat.le_of_ble_eq_true rfl, Nat.le_of_ble_eq_true rfl⟩) (th_PV hK hH rfl hc_28) rfl rfl hl.1 rfl (lv_room (Nat.le_of_ble_eq_true rfl)) dX8_takeNumber_60 ⟨Nat.le_of_ble_eq_true rfl, Nat.le_of_ble_eq_true rfl⟩) hS (fun z_31 σ_s_30 H locs rz_31 hw_29 hH hS => ?_)
            obtain ⟨e9, hw_29⟩ := hw_29
            replace e9 := e9.symm
            subst e9
            refine lv_ineg hx hb dX8_takeNumber_63 ?_
            refine th_nego (fun z_32 rz_32 hz_32 => ?_)
            refine lv_goto (tgt := 71) hx hb dX8_takeNumber_64 (by decide) ?_
            refine lv_istore_n (lv' := [(2, .int (I z_32)), (0, .ref a), (1, .int (I w0q4))]) hx hb dX8_takeNumber_71 rfl hl (by decide) rfl (fun ls hl => ?_)
            refine lv_aload_n hx hb dX8_takeNumber_72 rfl (lv_at hl 1 rfl) ?_
            obtain ⟨_, hc_33⟩ := hO.cell h_a (by decide) (ci := 8) rfl
            refine th_callv (va_runV (As := []) (rest := []) ⟨hx, hb, hml, hown, hts⟩ (k_step l G y b0 σ_K_11 E hO a h_a) (cwV 0 hts gX8_takeNumber_X8_step rfl rfl rfl (by decide +kernel) ⟨Nat.le_of_ble_eq_true rfl, Nat.le_of_ble_eq_true rfl⟩) (th_PV hK hH rfl hc_33) rfl rfl hl.1 rfl (lv_room (Nat.le_of_ble_eq_true rfl)) dX8_takeNumber_73 ⟨Nat.le_of_ble_eq_true rfl, Nat.le_of_ble_eq_true rfl⟩) hS (fun σ_s_35 H locs hw_34 hH hS => ?_)
            obtain ⟨hO9, hF9, hw_34⟩ := hw_34
            replace hO := hO9
            replace hF := hF.tu hF9 (by decide)
            refine lv_iload_n hx hb dX8_takeNumber_76 rfl (lv_at hl 0 rfl) ?_
            exact th_iret hx hb hr hlocks hH hS (z := z_32) rz_32 ⟨hO, hF, trivial⟩ dX8_takeNumber_77
        · replace c_19 := mt (I_eq (a := z_18) (b := 0) rz_18 (show rng 0 from ⟨by decide, by decide⟩)).mpr c_19
          refine lv_aload_n hx hb dX8_takeNumber_48 rfl (lv_at hl 0 rfl) ?_
          refine lv_iconst (v := I 2) hx hb dX8_takeNumber_49 (by decide) ?_
          obtain ⟨_, hc_36⟩ := hO.cell h_a (by decide) (ci := 8) rfl
          refine th_callv (va_runV (As := [.int (I 2)]) (rest := []) ⟨hx, hb, hml, hown, hts⟩ (k_fail l G y b0 σ_K_11 E hO a h_a 2 (show rng 2 from (show rng 2 from ⟨by decide, by decide⟩))) (cwV 1 hts gX8_takeNumber_X8_fail rfl rfl rfl (by decide +kernel) ⟨Nat.le_of_ble_eq_true rfl, Nat.le_of_ble_eq_true rfl⟩) (th_PV hK hH rfl hc_36) rfl rfl hl.1 rfl (lv_room (Nat.le_of_ble_eq_true rfl)) dX8_takeNumber_50 ⟨Nat.le_of_ble_eq_true rfl, Nat.le_of_ble_eq_true rfl⟩) hS (fun σ_s_38 H locs hw_37 hH hS => ?_)
          obtain ⟨hO9, hF9, hw_37⟩ := hw_37
          replace hO := hO9
          replace hF := hF.tu hF9 (by decide)
          refine lv_iconst (v := I 0) hx hb dX8_takeNumber_53 (by decide) ?_
          exact th_iret hx hb hr hlocks hH hS (z := 0) (show rng 0 from ⟨by decide, by decide⟩) ⟨hO, hF, trivial⟩ dX8_takeNumber_54
      · replace c_14 := mt (I_eq (a := z_12) (b := 257) rz_12 (show rng 257 from ⟨by decide, by decide⟩)).mpr c_14
        refine lv_aload_n hx hb dX8_takeNumber_33 rfl (lv_at hl 0 rfl) ?_
        refine lv_iconst (v := I 1) hx hb dX8_takeNumber_34 (by decide) ?_
        obtain ⟨_, hc_39⟩ := hO.cell h_a (by decide) (ci := 8) rfl
        refine th_callv (va_runV (As := [.int (I 1)]) (rest := []) ⟨hx, hb, hml, hown, hts⟩ (k_fail l G y b0 σ_K_11 E hO a h_a 1 (show rng 1 from (show rng 1 from ⟨by decide, by decide⟩))) (cwV 1 hts gX8_takeNumber_X8_fail rfl rfl rfl (by decide +kernel) ⟨Nat.le_of_ble_eq_true rfl, Nat.le_of_ble_eq_true rfl⟩) (th_PV hK hH rfl hc_39) rfl rfl hl.1 rfl (lv_room (Nat.le_of_ble_eq_true rfl)) dX8_takeNumber_35 ⟨Nat.le_of_ble_eq_true rfl, Nat.le_of_ble_eq_true rfl⟩) hS (fun σ_s_41 H locs hw_40 hH hS => ?_)
        obtain ⟨hO9, hF9, hw_40⟩ := hw_40
        replace hO := hO9
        replace hF := hF.tu hF9 (by decide)
        refine lv_iconst (v := I 0) hx hb dX8_takeNumber_38 (by decide) ?_
        exact th_iret hx hb hr hlocks hH hS (z := 0) (show rng 0 from ⟨by decide, by decide⟩) ⟨hO, hF, trivial⟩ dX8_takeNumber_39
    · refine lv_if_eq (tgt := 23) hx hb dX8_takeNumber_16 (by decide) (fun c_42 => ?_) (fun c_42 => ?_)
      · replace c_42 := (I_eq (a := w0q4) (b := 0) rw0q4 (show rng 0 from ⟨by decide, by decide⟩)).mp c_42
        exact jK_11 () σ _ _ _ ⟨hO, hF, hH, hS, lv_sub hl [1, 0] rfl⟩
      · replace c_42 := mt (I_eq (a := w0q4) (b := 0) rw0q4 (show rng 0 from ⟨by decide, by decide⟩)).mpr c_42
        refine lv_aload_n hx hb dX8_takeNumber_19 rfl (lv_at hl 1 rfl) ?_
        obtain ⟨_, hc_43⟩ := hO.cell h_a (by decide) (ci := 8) rfl
        refine th_callv (va_runV (As := []) (rest := []) ⟨hx, hb, hml, hown, hts⟩ (k_step l G y b0 σ E hO a h_a) (cwV 0 hts gX8_takeNumber_X8_step rfl rfl rfl (by decide +kernel) ⟨Nat.le_of_ble_eq_true rfl, Nat.le_of_ble_eq_true rfl⟩) (th_PV hK hH rfl hc_43) rfl rfl hl.1 rfl (lv_room (Nat.le_of_ble_eq_true rfl)) dX8_takeNumber_20 ⟨Nat.le_of_ble_eq_true rfl, Nat.le_of_ble_eq_true rfl⟩) hS (fun σ_s_45 H locs hw_44 hH hS => ?_)
        obtain ⟨hO9, hF9, hw_44⟩ := hw_44
        replace hO := hO9
        replace hF := hF.tu hF9 (by decide)
        exact jK_11 () σ_s_45 _ _ _ ⟨hO, hF, hH, hS, lv_sub hl [1, 0] rfl⟩
  · refine lv_icmp_ne (tgt := 13) hx hb dX8_takeNumber_6 (by decide) (fun c_46 => ?_) (fun c_46 => ?_)
    · replace c_46 := mt (I_eq (a := z_1) (b := 45) rz_1 (show rng 45 from ⟨by decide, by decide⟩)).mpr c_46
      refine lv_iconst (v := I 0) hx hb dX8_takeNumber_13 (by decide) ?_
      exact jK_5 (0) σ _ _ _ ⟨rfl, hH, hS, lv_sub hl [0] rfl, (show rng 0 from ⟨by decide, by decide⟩), by first | omega | (dsimp only; omega)⟩
    · replace c_46 := (I_eq (a := z_1) (b := 45) rz_1 (show rng 45 from ⟨by decide, by decide⟩)).mp c_46
      refine lv_iconst (v := I 1) hx hb dX8_takeNumber_9 (by decide) ?_
      refine lv_goto (tgt := 14) hx hb dX8_takeNumber_10 (by decide) ?_
      exact jK_5 (1) σ _ _ _ ⟨rfl, hH, hS, lv_sub hl [0] rfl, (show rng 1 from ⟨by decide, by decide⟩), by first | omega | (dsimp only; omega)⟩

set_option maxHeartbeats 1000000 in
set_option maxRecDepth 100000 in
theorem o_clear (l : Launch) (G : va_G) (y : Nat → ClassId) (b0 : Nat) (σ : th_M) (E : th_E) (hO : ok y E σ) (a : Nat) (h_a : kd E a = 8) : Met l yX7_clear wsX7_clear ({ frames := 0, cells := 0, slots := 0, locals := 0 }) (th_P G y b0 σ [.ref a]) (th_Qv G b0 (fun σ1 => ok y E σ1 ∧ fr [8] E σ σ1 ∧ (True))) 0 0 (th_A b0) := by
  refine Met.ofW (cc := cX7_clear) (maxL := 1) (ret := none) (by decide) rfl ?_
  intro p e s m args below meth c s₁ B hml hv
  obtain ⟨rfl, hH, hK⟩ := hv
  have hx := B.exec
  have hb := B.bytes
  have hr := B.returns
  have hts := atoms_spec (ws := wsX7_clear) B.pre
  have hown : s.vm.findClass RX7 = some m.cls := findClass_of_methodNamed B.named
  have hlocks := B.notSynchronized
  have h00 : b0 ≤ s.heap.size := hH.1
  have hS : va_S (th_A b0) s.heap s.heap [] := va_S.rf
  have hF : fr [8] E σ σ := fr.rf
  have inX7 : ∀ w ∈ wsX70, w ∈ wsX7_clear := by decide +kernel
  have fl0 := hts (.fieldLink RX7 15 "NestQuery$TextOut" "length" "I") (by decide +kernel)
  have hl := lv_entry ([.ref a]) (n := 1) (Nat.le_of_ble_eq_true rfl)
  rw [lg_entry_eq]
  generalize (lg_sl ([.ref a]) ++ List.replicate (1 - (lg_sl ([.ref a])).length) Slot.unset).toArray = ls at hl ⊢
  have hl : lv_has ls 1 [(0, .ref a)] := hl
  refine lv_aload_n hx hb dX7_clear_0 rfl (lv_at hl 0 rfl) ?_
  refine lv_iconst (v := I 0) hx hb dX7_clear_1 (by decide) ?_
  refine ok.putI hO h_a (by decide) k8_1 (show rng 0 from ⟨by decide, by decide⟩) (by omega) (by omega) (fun _ he hl9 kk => th_put (ci := 7) (v := .int (I 0)) (ty := .int) (C := RX7) (T := TX7) (N := 2) hx hb hts inX7 tyX7 tyX7_ok nmX7 hown hK hH hS h00 he rfl 1 (by decide) fl0 rfl (by decide +kernel) rfl rfl hl9 dX7_clear_2 kk) (fun σ_s_1 H locs hO hF9 hg9 hi9 ha9 hH hS => ?_)
  replace hF := hF.tu hF9 (by decide)
  have e_2 := hg9
  exact th_vret hx hb hr hlocks hH hS ⟨hO, hF, trivial⟩ dX7_clear_5

set_option maxHeartbeats 1000000 in
set_option maxRecDepth 100000 in
theorem o_write (l : Launch) (G : va_G) (y : Nat → ClassId) (b0 : Nat) (σ : th_M) (E : th_E) (hO : ok y E σ) (a : Nat) (h_a : kd E a = 8) (i : Int) (ri : rng i) : Met l yX7_write wsX7_write ({ frames := 0, cells := 0, slots := 0, locals := 0 }) (th_P G y b0 σ [.ref a, .int (I i)]) (th_Qv G b0 (fun σ1 => ok y E σ1 ∧ fr [8] E σ σ1 ∧ (True))) 0 0 (th_A b0) := by
  refine Met.ofW (cc := cX7_write) (maxL := 2) (ret := none) (by decide) rfl ?_
  intro p e s m args below meth c s₁ B hml hv
  obtain ⟨rfl, hH, hK⟩ := hv
  have hx := B.exec
  have hb := B.bytes
  have hr := B.returns
  have hts := atoms_spec (ws := wsX7_write) B.pre
  have hown : s.vm.findClass RX7 = some m.cls := findClass_of_methodNamed B.named
  have hlocks := B.notSynchronized
  have h00 : b0 ≤ s.heap.size := hH.1
  have hS : va_S (th_A b0) s.heap s.heap [] := va_S.rf
  have hF : fr [8] E σ σ := fr.rf
  have inX7 : ∀ w ∈ wsX70, w ∈ wsX7_write := by decide +kernel
  have fl0 := hts (.fieldLink RX7 15 "NestQuery$TextOut" "length" "I") (by decide +kernel)
  have fl1 := hts (.fieldLink RX7 11 "NestQuery$TextOut" "bytes" "[I") (by decide +kernel)
  have hl := lv_entry ([.ref a, .int (I i)]) (n := 2) (Nat.le_of_ble_eq_true rfl)
  rw [lg_entry_eq]
  generalize (lg_sl ([.ref a, .int (I i)]) ++ List.replicate (2 - (lg_sl ([.ref a, .int (I i)])).length) Slot.unset).toArray = ls at hl ⊢
  have hl : lv_has ls 2 [(0, .ref a), (1, .int (I i))] := hl
  refine lv_aload_n hx hb dX7_write_0 rfl (lv_at hl 0 rfl) ?_
  refine ok.getI hO h_a (by decide) k8_1 (fun _ _ he hv kk => th_get (ci := 7) (C := RX7) (T := TX7) (N := 2) hx hb hts inX7 hown hK hH he rfl 1 (by decide) fl0 hv dX7_write_1 kk) (fun z_1 e_2 rz_1 lz_1 uz_1 => ?_)
  refine lv_if_lt (tgt := 37) hx hb dX7_write_4 (by decide) (fun c_3 => ?_) (fun c_3 => ?_)
  · replace c_3 := (I_lt (a := z_1) (b := 0) rz_1 (show rng 0 from ⟨by decide, by decide⟩)).mp c_3
    exact th_vret hx hb hr hlocks hH hS ⟨hO, hF, trivial⟩ dX7_write_37
  · replace c_3 := mt (I_lt (a := z_1) (b := 0) rz_1 (show rng 0 from ⟨by decide, by decide⟩)).mpr c_3
    refine lv_aload_n hx hb dX7_write_7 rfl (lv_at hl 0 rfl) ?_
    refine ok.getIc hO h_a (by decide) k8_1 e_2 (fun _ _ he hv kk => th_get (ci := 7) (C := RX7) (T := TX7) (N := 2) hx hb hts inX7 hown hK hH he rfl 1 (by decide) fl0 hv dX7_write_8 kk) ?_
    refine lv_sipush (v := I 1024) hx hb dX7_write_11 (by decide) ?_
    refine lv_icmp_ge (tgt := 37) hx hb dX7_write_14 (by decide) (fun c_4 => ?_) (fun c_4 => ?_)
    · replace c_4 := (I_le (a := 1024) (b := z_1) (show rng 1024 from ⟨by decide, by decide⟩) rz_1).mp c_4
      exact th_vret hx hb hr hlocks hH hS ⟨hO, hF, trivial⟩ dX7_write_37
    · replace c_4 := mt (I_le (a := 1024) (b := z_1) (show rng 1024 from ⟨by decide, by decide⟩) rz_1).mpr c_4
      refine lv_aload_n hx hb dX7_write_17 rfl (lv_at hl 0 rfl) ?_
      refine ok.getR hO h_a (by decide) k8_0 (by decide) (fun _ _ he hv kk => th_get (ci := 7) (C := RX7) (T := TX7) (N := 2) hx hb hts inX7 hown hK hH he rfl 0 (by decide) fl1 hv dX7_write_18 kk) ?_
      refine lv_aload_n hx hb dX7_write_21 rfl (lv_at hl 0 rfl) ?_
      refine ok.getIc hO h_a (by decide) k8_1 e_2 (fun _ _ he hv kk => th_get (ci := 7) (C := RX7) (T := TX7) (N := 2) hx hb hts inX7 hown hK hH he rfl 1 (by decide) fl0 hv dX7_write_22 kk) ?_
      refine lv_iload_n hx hb dX7_write_25 rfl (lv_at hl 1 rfl) ?_
      refine ok_iast hx hb hK hH hS h00 hO h_a (by decide) k8_0 isA1 rz_1 (by omega) (by omega) ri el1 dX7_write_26 (fun σ_s_5 H locs hO hF9 hi9 ha9 hH hS => ?_)
      replace hF := hF.tu hF9 (by decide)
      have e_6 : gI σ_s_5 a 1 = z_1 := (hi9 _ _).trans e_2
      refine lv_aload_n hx hb dX7_write_27 rfl (lv_at hl 0 rfl) ?_
      refine lv_dup hx hb dX7_write_28 rfl ?_
      refine ok.getIc hO h_a (by decide) k8_1 e_6 (fun _ _ he hv kk => th_get (ci := 7) (C := RX7) (T := TX7) (N := 2) hx hb hts inX7 hown hK hH he rfl 1 (by decide) fl0 hv dX7_write_29 kk) ?_
      refine lv_iconst (v := I 1) hx hb dX7_write_32 (by decide) ?_
      refine lv_iadd hx hb dX7_write_33 ?_
      refine nq_top (I_add _ _) ?_
      refine ok.putI hO h_a (by decide) k8_1 ⟨by omega, by omega⟩ (by omega) (by omega) (fun _ he hl9 kk => th_put (ci := 7) (v := .int (I (z_1 + 1))) (ty := .int) (C := RX7) (T := TX7) (N := 2) hx hb hts inX7 tyX7 tyX7_ok nmX7 hown hK hH hS h00 he rfl 1 (by decide) fl0 rfl (by decide +kernel) rfl rfl hl9 dX7_write_34 kk) (fun σ_s_7 H locs hO hF9 hg9 hi9 ha9 hH hS => ?_)
      replace hF := hF.tu hF9 (by decide)
      have e_8 := hg9
      exact th_vret hx hb hr hlocks hH hS ⟨hO, hF, trivial⟩ dX7_write_37

set_option maxHeartbeats 1000000 in
set_option maxRecDepth 100000 in
theorem o_byteAt (l : Launch) (G : va_G) (y : Nat → ClassId) (b0 : Nat) (σ : th_M) (E : th_E) (hO : ok y E σ) (a : Nat) (h_a : kd E a = 8) (i : Int) (ri : rng i) : Met l yX7_byteAt wsX7_byteAt ({ frames := 0, cells := 0, slots := 0, locals := 0 }) (th_P G y b0 σ [.ref a, .int (I i)]) (th_Qi G b0 (fun r σ1 => σ1 = σ ∧ (True))) 0 0 (th_A b0) := by
  refine Met.ofW (cc := cX7_byteAt) (maxL := 2) (ret := (some .int)) (by decide) rfl ?_
  intro p e s m args below meth c s₁ B hml hv
  obtain ⟨rfl, hH, hK⟩ := hv
  have hx := B.exec
  have hb := B.bytes
  have hr := B.returns
  have hts := atoms_spec (ws := wsX7_byteAt) B.pre
  have hown : s.vm.findClass RX7 = some m.cls := findClass_of_methodNamed B.named
  have hlocks := B.notSynchronized
  have h00 : b0 ≤ s.heap.size := hH.1
  have hS : va_S (th_A b0) s.heap s.heap [] := va_S.rf
  have inX7 : ∀ w ∈ wsX70, w ∈ wsX7_byteAt := by decide +kernel
  have fl0 := hts (.fieldLink RX7 15 "NestQuery$TextOut" "length" "I") (by decide +kernel)
  have fl1 := hts (.fieldLink RX7 11 "NestQuery$TextOut" "bytes" "[I") (by decide +kernel)
  have hl := lv_entry ([.ref a, .int (I i)]) (n := 2) (Nat.le_of_ble_eq_true rfl)
  rw [lg_entry_eq]
  generalize (lg_sl ([.ref a, .int (I i)]) ++ List.replicate (2 - (lg_sl ([.ref a, .int (I i)])).length) Slot.unset).toArray = ls at hl ⊢
  have hl : lv_has ls 2 [(0, .ref a), (1, .int (I i))] := hl
  refine lv_iload_n hx hb dX7_byteAt_0 rfl (lv_at hl 1 rfl) ?_
  refine lv_if_lt (tgt := 12) hx hb dX7_byteAt_1 (by decide) (fun c_1 => ?_) (fun c_1 => ?_)
  · replace c_1 := (I_lt (a := i) (b := 0) ri (show rng 0 from ⟨by decide, by decide⟩)).mp c_1
    refine lv_iconst (v := I (-1)) hx hb dX7_byteAt_12 (by decide) ?_
    refine lv_goto (tgt := 22) hx hb dX7_byteAt_13 (by decide) ?_
    exact th_iret hx hb hr hlocks hH hS (z := (-1)) (show rng (-1) from ⟨by decide, by decide⟩) ⟨rfl, trivial⟩ dX7_byteAt_22
  · replace c_1 := mt (I_lt (a := i) (b := 0) ri (show rng 0 from ⟨by decide, by decide⟩)).mpr c_1
    refine lv_iload_n hx hb dX7_byteAt_4 rfl (lv_at hl 1 rfl) ?_
    refine lv_aload_n hx hb dX7_byteAt_5 rfl (lv_at hl 0 rfl) ?_
    refine ok.getI hO h_a (by decide) k8_1 (fun _ _ he hv kk => th_get (ci := 7) (C := RX7) (T := TX7) (N := 2) hx hb hts inX7 hown hK hH he rfl 1 (by decide) fl0 hv dX7_byteAt_6 kk) (fun z_2 e_3 rz_2 lz_2 uz_2 => ?_)
    refine lv_icmp_lt (tgt := 16) hx hb dX7_byteAt_9 (by decide) (fun c_4 => ?_) (fun c_4 => ?_)
    · replace c_4 := (I_lt (a := i) (b := z_2) ri rz_2).mp c_4
      refine lv_aload_n hx hb dX7_byteAt_16 rfl (lv_at hl 0 rfl) ?_
      refine ok.getR hO h_a (by decide) k8_0 (by decide) (fun _ _ he hv kk => th_get (ci := 7) (C := RX7) (T := TX7) (N := 2) hx hb hts inX7 hown hK hH he rfl 0 (by decide) fl1 hv dX7_byteAt_17 kk) ?_
      refine lv_iload_n hx hb dX7_byteAt_20 rfl (lv_at hl 1 rfl) ?_
      refine ok_iald hx hb hK hH hO h_a (by decide) k8_0 isA1 ri (by omega) (by omega) dX7_byteAt_21 (fun z_5 ez_5 rz_5 el9 => ?_)
      exact th_iret hx hb hr hlocks hH hS (z := z_5) rz_5 ⟨rfl, trivial⟩ dX7_byteAt_22
    · replace c_4 := mt (I_lt (a := i) (b := z_2) ri rz_2).mpr c_4
      refine lv_iconst (v := I (-1)) hx hb dX7_byteAt_12 (by decide) ?_
      refine lv_goto (tgt := 22) hx hb dX7_byteAt_13 (by decide) ?_
      exact th_iret hx hb hr hlocks hH hS (z := (-1)) (show rng (-1) from ⟨by decide, by decide⟩) ⟨rfl, trivial⟩ dX7_byteAt_22

set_option maxHeartbeats 1000000 in
set_option maxRecDepth 100000 in
theorem o_number (l : Launch) (G : va_G) (y : Nat → ClassId) (b0 : Nat) (σ : th_M) (E : th_E) (hO : ok y E σ) (a : Nat) (h_a : kd E a = 8) (i : Int) (ri : rng i) : Met l yX7_writeNumber wsX7_writeNumber ({ frames := 1, cells := 0, slots := 0, locals := 40 }) (th_P G y b0 σ [.ref a, .int (I i)]) (th_Qv G b0 (fun σ1 => ok y E σ1 ∧ fr [8] E σ σ1 ∧ (True))) 0 0 (th_A b0) := by
  refine Met.ofW (cc := cX7_writeNumber) (maxL := 3) (ret := none) (by decide) rfl ?_
  intro p e s m args below meth c s₁ B hml hv
  obtain ⟨rfl, hH, hK⟩ := hv
  have hx := B.exec
  have hb := B.bytes
  have hr := B.returns
  have hts := atoms_spec (ws := wsX7_writeNumber) B.pre
  have hown : s.vm.findClass RX7 = some m.cls := findClass_of_methodNamed B.named
  have hlocks := B.notSynchronized
  have h00 : b0 ≤ s.heap.size := hH.1
  have hS : va_S (th_A b0) s.heap s.heap [] := va_S.rf
  have hF : fr [8] E σ σ := fr.rf
  have fl0 := hts (.methodLink RX7 19 Lib.Math.abs.name) (by decide +kernel)
  have fl1 := hts (.static Lib.Math.abs.name) (by decide +kernel)
  have fl2 := hts (.initialized "java/lang/Math") (by decide +kernel)
  have fl3 := hts (.code Lib.Math.abs.name Lib.Math.abs.code 1 (some .int)) (by decide +kernel)
  have hl := lv_entry ([.ref a, .int (I i)]) (n := 3) (Nat.le_of_ble_eq_true rfl)
  rw [lg_entry_eq]
  generalize (lg_sl ([.ref a, .int (I i)]) ++ List.replicate (3 - (lg_sl ([.ref a, .int (I i)])).length) Slot.unset).toArray = ls at hl ⊢
  have hl : lv_has ls 3 [(0, .ref a), (1, .int (I i))] := hl
  refine lv_iload_n hx hb dX7_writeNumber_0 rfl (lv_at hl 1 rfl) ?_
  refine va_mabs hx hb (by rw [hml]; exact hl.1.symm) hown fl0 fl1 fl2 fl3 (Nat.le_of_ble_eq_true rfl) (Nat.le_of_ble_eq_true rfl) (Nat.zero_le _) (Nat.zero_le _) dX7_writeNumber_1 ?_
  refine th_topi (fun z_1 rz_1 => ?_)
  refine lv_istore_n (lv' := [(2, .int (I z_1)), (0, .ref a), (1, .int (I i))]) hx hb dX7_writeNumber_4 rfl hl (by decide) rfl (fun ls hl => ?_)
  refine lv_iload_n hx hb dX7_writeNumber_5 rfl (lv_at hl 2 rfl) ?_
  refine th_join (α := Unit) (J := 15) (stk := fun x9 => []) (fun x9 σ9 H9 l9 ls9 => ok y E σ9 ∧ fr [8] E σ σ9 ∧ th_H G b0 σ9 H9 ∧ va_S (th_A b0) s.heap H9 l9 ∧ lv_has ls9 3 [(0, .ref a), (2, .int (I z_1))]) ?_ (fun jK_7 => ?_)
  · intro x9 σ_K_7 H locs ls hI9
    obtain ⟨hO, hF, hH, hS, hl⟩ := hI9
    have hl : lv_has ls 3 [(0, .ref a), (2, .int (I z_1))] := hl
    refine lv_iload_n hx hb dX7_writeNumber_15 rfl (lv_at hl 1 rfl) ?_
    refine lv_bipush (v := I 100) hx hb dX7_writeNumber_16 (by decide) ?_
    refine th_join (α := Unit) (J := 35) (stk := fun x9 => []) (fun x9 σ9 H9 l9 ls9 => ok y E σ9 ∧ fr [8] E σ σ9 ∧ th_H G b0 σ9 H9 ∧ va_S (th_A b0) s.heap H9 l9 ∧ lv_has ls9 3 [(0, .ref a), (2, .int (I z_1))]) ?_ (fun jK_16 => ?_)
    · intro x9 σ_K_16 H locs ls hI9
      obtain ⟨hO, hF, hH, hS, hl⟩ := hI9
      have hl : lv_has ls 3 [(0, .ref a), (2, .int (I z_1))] := hl
      refine lv_iload_n hx hb dX7_writeNumber_35 rfl (lv_at hl 1 rfl) ?_
      refine lv_bipush (v := I 10) hx hb dX7_writeNumber_36 (by decide) ?_
      refine lv_icmp_lt (tgt := 55) hx hb dX7_writeNumber_38 (by decide) (fun c_17 => ?_) (fun c_17 => ?_)
      · replace c_17 := (I_lt (a := z_1) (b := 10) rz_1 (show rng 10 from ⟨by decide, by decide⟩)).mp c_17
        refine lv_aload_n hx hb dX7_writeNumber_55 rfl (lv_at hl 0 rfl) ?_
        refine lv_bipush (v := I 48) hx hb dX7_writeNumber_56 (by decide) ?_
        refine lv_iload_n hx hb dX7_writeNumber_58 rfl (lv_at hl 1 rfl) ?_
        refine lv_bipush (v := I 10) hx hb dX7_writeNumber_59 (by decide) ?_
        refine lv_irem hx hb dX7_writeNumber_61 (by decide) ?_
        refine th_topi (fun z_18 rz_18 => ?_)
        refine lv_iadd hx hb dX7_writeNumber_62 ?_
        refine th_addo (fun z_19 rz_19 hz_19 => ?_)
        obtain ⟨_, hc_20⟩ := hO.cell h_a (by decide) (ci := 7) rfl
        refine th_callv (va_runV (As := [.int (I z_19)]) (rest := []) ⟨hx, hb, hml, hown, hts⟩ (o_write l G y b0 σ_K_16 E hO a h_a z_19 (show rng z_19 from rz_19)) (cwV 1 hts gX7_writeNumber_X7_write rfl rfl rfl (by decide +kernel) ⟨Nat.le_of_ble_eq_true rfl, Nat.le_of_ble_eq_true rfl⟩) (th_PV hK hH rfl hc_20) rfl rfl hl.1 rfl (lv_room (Nat.le_of_ble_eq_true rfl)) dX7_writeNumber_63 ⟨Nat.le_of_ble_eq_true rfl, Nat.le_of_ble_eq_true rfl⟩) hS (fun σ_s_22 H locs hw_21 hH hS => ?_)
        obtain ⟨hO9, hF9, hw_21⟩ := hw_21
        replace hO := hO9
        replace hF := hF.tu hF9 (by decide)
        exact th_vret hx hb hr hlocks hH hS ⟨hO, hF, trivial⟩ dX7_writeNumber_66
      · replace c_17 := mt (I_lt (a := z_1) (b := 10) rz_1 (show rng 10 from ⟨by decide, by decide⟩)).mpr c_17
        refine lv_aload_n hx hb dX7_writeNumber_41 rfl (lv_at hl 0 rfl) ?_
        refine lv_bipush (v := I 48) hx hb dX7_writeNumber_42 (by decide) ?_
        refine lv_iload_n hx hb dX7_writeNumber_44 rfl (lv_at hl 1 rfl) ?_
        refine lv_bipush (v := I 10) hx hb dX7_writeNumber_45 (by decide) ?_
        refine lv_idiv hx hb dX7_writeNumber_47 (by decide) ?_
        refine th_topi (fun z_23 rz_23 => ?_)
        refine lv_bipush (v := I 10) hx hb dX7_writeNumber_48 (by decide) ?_
        refine lv_irem hx hb dX7_writeNumber_50 (by decide) ?_
        refine th_topi (fun z_24 rz_24 => ?_)
        refine lv_iadd hx hb dX7_writeNumber_51 ?_
        refine th_addo (fun z_25 rz_25 hz_25 => ?_)
        obtain ⟨_, hc_26⟩ := hO.cell h_a (by decide) (ci := 7) rfl
        refine th_callv (va_runV (As := [.int (I z_25)]) (rest := []) ⟨hx, hb, hml, hown, hts⟩ (o_write l G y b0 σ_K_16 E hO a h_a z_25 (show rng z_25 from rz_25)) (cwV 1 hts gX7_writeNumber_X7_write rfl rfl rfl (by decide +kernel) ⟨Nat.le_of_ble_eq_true rfl, Nat.le_of_ble_eq_true rfl⟩) (th_PV hK hH rfl hc_26) rfl rfl hl.1 rfl (lv_room (Nat.le_of_ble_eq_true rfl)) dX7_writeNumber_52 ⟨Nat.le_of_ble_eq_true rfl, Nat.le_of_ble_eq_true rfl⟩) hS (fun σ_s_28 H locs hw_27 hH hS => ?_)
        obtain ⟨hO9, hF9, hw_27⟩ := hw_27
        replace hO := hO9
        replace hF := hF.tu hF9 (by decide)
        refine lv_aload_n hx hb dX7_writeNumber_55 rfl (lv_at hl 0 rfl) ?_
        refine lv_bipush (v := I 48) hx hb dX7_writeNumber_56 (by decide) ?_
        refine lv_iload_n hx hb dX7_writeNumber_58 rfl (lv_at hl 1 rfl) ?_
        refine lv_bipush (v := I 10) hx hb dX7_writeNumber_59 (by decide) ?_
        refine lv_irem hx hb dX7_writeNumber_61 (by decide) ?_
        refine th_topi (fun z_29 rz_29 => ?_)
        refine lv_iadd hx hb dX7_writeNumber_62 ?_
        refine th_addo (fun z_30 rz_30 hz_30 => ?_)
        obtain ⟨_, hc_31⟩ := hO.cell h_a (by decide) (ci := 7) rfl
        refine th_callv (va_runV (As := [.int (I z_30)]) (rest := []) ⟨hx, hb, hml, hown, hts⟩ (o_write l G y b0 σ_s_28 E hO a h_a z_30 (show rng z_30 from rz_30)) (cwV 1 hts gX7_writeNumber_X7_write rfl rfl rfl (by decide +kernel) ⟨Nat.le_of_ble_eq_true rfl, Nat.le_of_ble_eq_true rfl⟩) (th_PV hK hH rfl hc_31) rfl rfl hl.1 rfl (lv_room (Nat.le_of_ble_eq_true rfl)) dX7_writeNumber_63 ⟨Nat.le_of_ble_eq_true rfl, Nat.le_of_ble_eq_true rfl⟩) hS (fun σ_s_33 H locs hw_32 hH hS => ?_)
        obtain ⟨hO9, hF9, hw_32⟩ := hw_32
        replace hO := hO9
        replace hF := hF.tu hF9 (by decide)
        exact th_vret hx hb hr hlocks hH hS ⟨hO, hF, trivial⟩ dX7_writeNumber_66
    · refine lv_icmp_lt (tgt := 35) hx hb dX7_writeNumber_18 (by decide) (fun c_34 => ?_) (fun c_34 => ?_)
      · replace c_34 := (I_lt (a := z_1) (b := 100) rz_1 (show rng 100 from ⟨by decide, by decide⟩)).mp c_34
        exact jK_16 () σ_K_7 _ _ _ ⟨hO, hF, hH, hS, lv_sub hl [0, 1] rfl⟩
      · replace c_34 := mt (I_lt (a := z_1) (b := 100) rz_1 (show rng 100 from ⟨by decide, by decide⟩)).mpr c_34
        refine lv_aload_n hx hb dX7_writeNumber_21 rfl (lv_at hl 0 rfl) ?_
        refine lv_bipush (v := I 48) hx hb dX7_writeNumber_22 (by decide) ?_
        refine lv_iload_n hx hb dX7_writeNumber_24 rfl (lv_at hl 1 rfl) ?_
        refine lv_bipush (v := I 100) hx hb dX7_writeNumber_25 (by decide) ?_
        refine lv_idiv hx hb dX7_writeNumber_27 (by decide) ?_
        refine th_topi (fun z_35 rz_35 => ?_)
        refine lv_bipush (v := I 10) hx hb dX7_writeNumber_28 (by decide) ?_
        refine lv_irem hx hb dX7_writeNumber_30 (by decide) ?_
        refine th_topi (fun z_36 rz_36 => ?_)
        refine lv_iadd hx hb dX7_writeNumber_31 ?_
        refine th_addo (fun z_37 rz_37 hz_37 => ?_)
        obtain ⟨_, hc_38⟩ := hO.cell h_a (by decide) (ci := 7) rfl
        refine th_callv (va_runV (As := [.int (I z_37)]) (rest := []) ⟨hx, hb, hml, hown, hts⟩ (o_write l G y b0 σ_K_7 E hO a h_a z_37 (show rng z_37 from rz_37)) (cwV 1 hts gX7_writeNumber_X7_write rfl rfl rfl (by decide +kernel) ⟨Nat.le_of_ble_eq_true rfl, Nat.le_of_ble_eq_true rfl⟩) (th_PV hK hH rfl hc_38) rfl rfl hl.1 rfl (lv_room (Nat.le_of_ble_eq_true rfl)) dX7_writeNumber_32 ⟨Nat.le_of_ble_eq_true rfl, Nat.le_of_ble_eq_true rfl⟩) hS (fun σ_s_40 H locs hw_39 hH hS => ?_)
        obtain ⟨hO9, hF9, hw_39⟩ := hw_39
        replace hO := hO9
        replace hF := hF.tu hF9 (by decide)
        exact jK_16 () σ_s_40 _ _ _ ⟨hO, hF, hH, hS, lv_sub hl [0, 1] rfl⟩
  · refine lv_if_ge (tgt := 15) hx hb dX7_writeNumber_6 (by decide) (fun c_41 => ?_) (fun c_41 => ?_)
    · replace c_41 := (I_le (a := 0) (b := i) (show rng 0 from ⟨by decide, by decide⟩) ri).mp c_41
      replace hl : lv_has ls 3 [(2, .int (I z_1)), (0, .ref a)] := lv_sub hl [0, 1] rfl
      exact jK_7 () σ _ _ _ ⟨hO, hF, hH, hS, lv_sub hl [1, 0] rfl⟩
    · replace c_41 := mt (I_le (a := 0) (b := i) (show rng 0 from ⟨by decide, by decide⟩) ri).mpr c_41
      refine lv_aload_n hx hb dX7_writeNumber_9 rfl (lv_at hl 1 rfl) ?_
      refine lv_bipush (v := I 45) hx hb dX7_writeNumber_10 (by decide) ?_
      obtain ⟨_, hc_42⟩ := hO.cell h_a (by decide) (ci := 7) rfl
      refine th_callv (va_runV (As := [.int (I 45)]) (rest := []) ⟨hx, hb, hml, hown, hts⟩ (o_write l G y b0 σ E hO a h_a 45 (show rng 45 from (show rng 45 from ⟨by decide, by decide⟩))) (cwV 1 hts gX7_writeNumber_X7_write rfl rfl rfl (by decide +kernel) ⟨Nat.le_of_ble_eq_true rfl, Nat.le_of_ble_eq_true rfl⟩) (th_PV hK hH rfl hc_42) rfl rfl hl.1 rfl (lv_room (Nat.le_of_ble_eq_true rfl)) dX7_writeNumber_12 ⟨Nat.le_of_ble_eq_true rfl, Nat.le_of_ble_eq_true rfl⟩) hS (fun σ_s_44 H locs hw_43 hH hS => ?_)
      obtain ⟨hO9, hF9, hw_43⟩ := hw_43
      replace hO := hO9
      replace hF := hF.tu hF9 (by decide)
      replace hl : lv_has ls 3 [(2, .int (I z_1)), (0, .ref a)] := lv_sub hl [0, 1] rfl
      exact jK_7 () σ_s_44 _ _ _ ⟨hO, hF, hH, hS, lv_sub hl [1, 0] rfl⟩

set_option maxHeartbeats 1000000 in
set_option maxRecDepth 100000 in
theorem o_word (l : Launch) (G : va_G) (y : Nat → ClassId) (b0 : Nat) (σ : th_M) (E : th_E) (hO : ok y E σ) (a : Nat) (h_a : kd E a = 8) (i : Int) (ri : rng i) : Met l yX7_writeWord wsX7_writeWord ({ frames := 1, cells := 0, slots := 0, locals := 25 }) (th_P G y b0 σ [.ref a, .int (I i)]) (th_Qv G b0 (fun σ1 => ok y E σ1 ∧ fr [8] E σ σ1 ∧ (True))) 0 0 (th_A b0) := by
  refine Met.ofW (cc := cX7_writeWord) (maxL := 4) (ret := none) (by decide) rfl ?_
  intro p e s m args below meth c s₁ B hml hv
  obtain ⟨rfl, hH, hK⟩ := hv
  have hx := B.exec
  have hb := B.bytes
  have hr := B.returns
  have hts := atoms_spec (ws := wsX7_writeWord) B.pre
  have hown : s.vm.findClass RX7 = some m.cls := findClass_of_methodNamed B.named
  have hlocks := B.notSynchronized
  have h00 : b0 ≤ s.heap.size := hH.1
  have hS : va_S (th_A b0) s.heap s.heap [] := va_S.rf
  have hF : fr [8] E σ σ := fr.rf
  have hl := lv_entry ([.ref a, .int (I i)]) (n := 4) (Nat.le_of_ble_eq_true rfl)
  rw [lg_entry_eq]
  generalize (lg_sl ([.ref a, .int (I i)]) ++ List.replicate (4 - (lg_sl ([.ref a, .int (I i)])).length) Slot.unset).toArray = ls at hl ⊢
  have hl : lv_has ls 4 [(0, .ref a), (1, .int (I i))] := hl
  refine lv_bipush (v := I 25) hx hb dX7_writeWord_0 (by decide) ?_
  refine lv_istore_n (lv' := [(2, .int (I 25)), (0, .ref a), (1, .int (I i))]) hx hb dX7_writeWord_2 rfl hl (by decide) rfl (fun ls hl => ?_)
  refine th_loop (α := Int) (pc := 3) (fun x9 => (x9 + 5).toNat) (fun x9 σ9 H9 l9 ls9 => ok y E σ9 ∧ fr [8] E σ σ9 ∧ th_H G b0 σ9 H9 ∧ va_S (th_A b0) s.heap H9 l9 ∧ lv_has ls9 4 [(0, .ref a), (1, .int (I i)), (2, .int (I x9))] ∧ rng x9 ∧ (-5 ≤ x9) ∧ (x9 ≤ 25)) ?_ (25) σ _ _ _ ⟨hO, hF, hH, hS, lv_sub hl [1, 2, 0] rfl, (show rng 25 from ⟨by decide, by decide⟩), by first | omega | (dsimp only; omega), by first | omega | (dsimp only; omega)⟩
  intro x9 σ_J_10 H locs ls hI9 ihJ_10
  obtain ⟨v2q9, ex9⟩ : ∃ z, z = x9 := ⟨_, rfl⟩
  subst ex9
  obtain ⟨hO, hF, hH, hS, hl, rv2q9, J_10_0, J_10_1⟩ := hI9
  have hl : lv_has ls 4 [(0, .ref a), (1, .int (I i)), (2, .int (I v2q9))] := hl
  have rv2q9 : rng v2q9 := rv2q9
  have J_10_0 : -5 ≤ v2q9 := J_10_0
  have J_10_1 : v2q9 ≤ 25 := J_10_1
  refine lv_iload_n hx hb dX7_writeWord_3 rfl (lv_at hl 2 rfl) ?_
  refine lv_if_lt (tgt := 34) hx hb dX7_writeWord_4 (by decide) (fun c_11 => ?_) (fun c_11 => ?_)
  · replace c_11 := (I_lt (a := v2q9) (b := 0) rv2q9 (show rng 0 from ⟨by decide, by decide⟩)).mp c_11
    exact th_vret hx hb hr hlocks hH hS ⟨hO, hF, trivial⟩ dX7_writeWord_34
  · replace c_11 := mt (I_lt (a := v2q9) (b := 0) rv2q9 (show rng 0 from ⟨by decide, by decide⟩)).mpr c_11
    refine lv_iload_n hx hb dX7_writeWord_7 rfl (lv_at hl 1 rfl) ?_
    refine lv_iload_n hx hb dX7_writeWord_8 rfl (lv_at hl 2 rfl) ?_
    refine lv_iushr hx hb dX7_writeWord_9 rfl ?_
    refine th_topi (fun z_12 rz_12 => ?_)
    refine lv_bipush (v := I 31) hx hb dX7_writeWord_10 (by decide) ?_
    refine lv_iand hx hb dX7_writeWord_12 ?_
    refine th_and31 (fun z_13 rz_13 hz_13 => ?_)
    refine lv_istore_n (lv' := [(3, .int (I z_13)), (0, .ref a), (1, .int (I i)), (2, .int (I v2q9))]) hx hb dX7_writeWord_13 rfl hl (by decide) rfl (fun ls hl => ?_)
    refine lv_iload_n hx hb dX7_writeWord_14 rfl (lv_at hl 0 rfl) ?_
    refine lv_if_le (tgt := 28) hx hb dX7_writeWord_15 (by decide) (fun c_14 => ?_) (fun c_14 => ?_)
    · replace c_14 := (I_le (a := z_13) (b := 0) rz_13 (show rng 0 from ⟨by decide, by decide⟩)).mp c_14
      refine lv_iinc (v := I (v2q9 + (-5))) (lv' := [(2, .int (I (v2q9 + (-5)))), (3, .int (I z_13)), (0, .ref a), (1, .int (I i))]) hx hb dX7_writeWord_28 hl (k := 3) rfl (I_add _ _) (by decide) rfl (fun ls hl => ?_)
      refine lv_goto (tgt := 3) hx hb dX7_writeWord_31 (by decide) ?_
      replace hl : lv_has ls 4 [(2, .int (I (v2q9 + (-5)))), (0, .ref a), (1, .int (I i))] := lv_sub hl [0, 2, 3] rfl
      exact ihJ_10 (v2q9 + (-5)) σ_J_10 _ _ _ (by first | omega | (dsimp only; omega)) ⟨hO, hF, hH, hS, lv_sub hl [1, 2, 0] rfl, ⟨by first | omega | (dsimp only; omega), by first | omega | (dsimp only; omega)⟩, by first | omega | (dsimp only; omega), by first | omega | (dsimp only; omega)⟩
    · replace c_14 := mt (I_le (a := z_13) (b := 0) rz_13 (show rng 0 from ⟨by decide, by decide⟩)).mpr c_14
      refine lv_aload_n hx hb dX7_writeWord_18 rfl (lv_at hl 1 rfl) ?_
      refine lv_bipush (v := I 97) hx hb dX7_writeWord_19 (by decide) ?_
      refine lv_iload_n hx hb dX7_writeWord_21 rfl (lv_at hl 0 rfl) ?_
      refine lv_iadd hx hb dX7_writeWord_22 ?_
      refine nq_top (I_add _ _) ?_
      refine lv_iconst (v := I 1) hx hb dX7_writeWord_23 (by decide) ?_
      refine lv_isub hx hb dX7_writeWord_24 ?_
      refine nq_top (I_sub _ _) ?_
      obtain ⟨_, hc_15⟩ := hO.cell h_a (by decide) (ci := 7) rfl
      refine th_callv (va_runV (As := [.int (I (97 + z_13 - 1))]) (rest := []) ⟨hx, hb, hml, hown, hts⟩ (o_write l G y b0 σ_J_10 E hO a h_a (97 + z_13 - 1) (show rng (97 + z_13 - 1) from ⟨by omega, by omega⟩)) (cwV 1 hts gX7_writeWord_X7_write rfl rfl rfl (by decide +kernel) ⟨Nat.le_of_ble_eq_true rfl, Nat.le_of_ble_eq_true rfl⟩) (th_PV hK hH rfl hc_15) rfl rfl hl.1 rfl (lv_room (Nat.le_of_ble_eq_true rfl)) dX7_writeWord_25 ⟨Nat.le_of_ble_eq_true rfl, Nat.le_of_ble_eq_true rfl⟩) hS (fun σ_s_17 H locs hw_16 hH hS => ?_)
      obtain ⟨hO9, hF9, hw_16⟩ := hw_16
      replace hO := hO9
      replace hF := hF.tu hF9 (by decide)
      refine lv_iinc (v := I (v2q9 + (-5))) (lv' := [(2, .int (I (v2q9 + (-5)))), (3, .int (I z_13)), (0, .ref a), (1, .int (I i))]) hx hb dX7_writeWord_28 hl (k := 3) rfl (I_add _ _) (by decide) rfl (fun ls hl => ?_)
      refine lv_goto (tgt := 3) hx hb dX7_writeWord_31 (by decide) ?_
      replace hl : lv_has ls 4 [(2, .int (I (v2q9 + (-5)))), (0, .ref a), (1, .int (I i))] := lv_sub hl [0, 2, 3] rfl
      exact ihJ_10 (v2q9 + (-5)) σ_s_17 _ _ _ (by first | omega | (dsimp only; omega)) ⟨hO, hF, hH, hS, lv_sub hl [1, 2, 0] rfl, ⟨by first | omega | (dsimp only; omega), by first | omega | (dsimp only; omega)⟩, by first | omega | (dsimp only; omega), by first | omega | (dsimp only; omega)⟩

set_option maxHeartbeats 1000000 in
set_option maxRecDepth 100000 in
theorem o_path (l : Launch) (G : va_G) (y : Nat → ClassId) (b0 : Nat) (σ : th_M) (E : th_E) (hO : ok y E σ) (a : Nat) (h_a : kd E a = 8) (b : Nat) (h_b : kd E b = 1) (i : Int) (ri : rng i) : Met l yX7_writePath wsX7_writePath ({ frames := 2, cells := 0, slots := 0, locals := 66 }) (th_P G y b0 σ [.ref a, .ref b, .int (I i)]) (th_Qv G b0 (fun σ1 => ok y E σ1 ∧ fr [8] E σ σ1 ∧ (True))) 0 0 (th_A b0) := by
  refine Met.ofW (cc := cX7_writePath) (maxL := 6) (ret := none) (by decide) rfl ?_
  intro p e s m args below meth c s₁ B hml hv
  obtain ⟨rfl, hH, hK⟩ := hv
  have hx := B.exec
  have hb := B.bytes
  have hr := B.returns
  have hts := atoms_spec (ws := wsX7_writePath) B.pre
  have hown : s.vm.findClass RX7 = some m.cls := findClass_of_methodNamed B.named
  have hlocks := B.notSynchronized
  have h00 : b0 ≤ s.heap.size := hH.1
  have hS : va_S (th_A b0) s.heap s.heap [] := va_S.rf
  have hF : fr [8] E σ σ := fr.rf
  have hl := lv_entry ([.ref a, .ref b, .int (I i)]) (n := 6) (Nat.le_of_ble_eq_true rfl)
  rw [lg_entry_eq]
  generalize (lg_sl ([.ref a, .ref b, .int (I i)]) ++ List.replicate (6 - (lg_sl ([.ref a, .ref b, .int (I i)])).length) Slot.unset).toArray = ls at hl ⊢
  have hl : lv_has ls 6 [(0, .ref a), (1, .ref b), (2, .int (I i))] := hl
  refine lv_aload_n hx hb dX7_writePath_0 rfl (lv_at hl 1 rfl) ?_
  refine lv_iload_n hx hb dX7_writePath_1 rfl (lv_at hl 2 rfl) ?_
  obtain ⟨_, hc_1⟩ := hO.cell h_b (by decide) (ci := 9) rfl
  refine th_calli (va_runV (As := [.int (I i)]) (rest := []) ⟨hx, hb, hml, hown, hts⟩ (t1_depthAt l G y b0 σ E hO b h_b i (show rng i from ri)) (cwV 1 hts gX7_writePath_X9_depthAt rfl rfl rfl (by decide +kernel) ⟨Nat.le_of_ble_eq_true rfl, Nat.le_of_ble_eq_true rfl⟩) (th_PV hK hH rfl hc_1) rfl rfl hl.1 rfl (lv_room (Nat.le_of_ble_eq_true rfl)) dX7_writePath_2 ⟨Nat.le_of_ble_eq_true rfl, Nat.le_of_ble_eq_true rfl⟩) hS (fun z_4 σ_s_3 H locs rz_4 hw_2 hH hS => ?_)
  obtain ⟨e9, hw_2⟩ := hw_2
  replace e9 := e9.symm
  subst e9
  have hw_2 : z_4 ≤ 7 ∧ ((0 ≤ i ∧ i < gI σ b 4) ∨ (z_4 = -1 ∧ ¬ (0 ≤ i ∧ i < gI σ b 4))) := hw_2
  refine lv_istore_n (lv' := [(3, .int (I z_4)), (0, .ref a), (1, .ref b), (2, .int (I i))]) hx hb dX7_writePath_5 rfl hl (by decide) rfl (fun ls hl => ?_)
  refine lv_iconst (v := I 1) hx hb dX7_writePath_6 (by decide) ?_
  refine lv_istore (lv' := [(4, .int (I 1)), (3, .int (I z_4)), (0, .ref a), (1, .ref b), (2, .int (I i))]) hx hb dX7_writePath_7 hl (by decide) rfl (fun ls hl => ?_)
  refine th_loop (α := Int) (pc := 9) (fun x9 => (8 - x9).toNat) (fun x9 σ9 H9 l9 ls9 => ok y E σ9 ∧ fr [8] E σ σ9 ∧ th_H G b0 σ9 H9 ∧ va_S (th_A b0) s.heap H9 l9 ∧ lv_has ls9 6 [(0, .ref a), (1, .ref b), (2, .int (I i)), (3, .int (I z_4)), (4, .int (I x9))] ∧ rng x9 ∧ (1 ≤ x9) ∧ (x9 ≤ 8)) ?_ (1) σ _ _ _ ⟨hO, hF, hH, hS, lv_sub hl [2, 3, 4, 1, 0] rfl, (show rng 1 from ⟨by decide, by decide⟩), by first | omega | (dsimp only; omega), by first | omega | (dsimp only; omega)⟩
  intro x9 σ_J_51 H locs ls hI9 ihJ_51
  obtain ⟨v4q50, ex9⟩ : ∃ z, z = x9 := ⟨_, rfl⟩
  subst ex9
  obtain ⟨hO, hF, hH, hS, hl, rv4q50, J_51_0, J_51_1⟩ := hI9
  have hl : lv_has ls 6 [(0, .ref a), (1, .ref b), (2, .int (I i)), (3, .int (I z_4)), (4, .int (I v4q50))] := hl
  have rv4q50 : rng v4q50 := rv4q50
  have J_51_0 : 1 ≤ v4q50 := J_51_0
  have J_51_1 : v4q50 ≤ 8 := J_51_1
  refine lv_iload hx hb dX7_writePath_9 (lv_at hl 4 rfl) ?_
  refine lv_iload_n hx hb dX7_writePath_11 rfl (lv_at hl 3 rfl) ?_
  refine lv_icmp_gt (tgt := 85) hx hb dX7_writePath_12 (by decide) (fun c_52 => ?_) (fun c_52 => ?_)
  · replace c_52 := (I_lt (a := z_4) (b := v4q50) rz_4 rv4q50).mp c_52
    exact th_vret hx hb hr hlocks hH hS ⟨hO, hF, trivial⟩ dX7_writePath_85
  · replace c_52 := mt (I_lt (a := z_4) (b := v4q50) rz_4 rv4q50).mpr c_52
    refine lv_aload_n hx hb dX7_writePath_15 rfl (lv_at hl 1 rfl) ?_
    refine lv_iload_n hx hb dX7_writePath_16 rfl (lv_at hl 2 rfl) ?_
    refine lv_iload hx hb dX7_writePath_17 (lv_at hl 4 rfl) ?_
    obtain ⟨z_53, e_54, rz_53, lz_53, uz_53⟩ := hO.gi h_b (by decide) k1_4
    obtain ⟨_, hc_55⟩ := hO.cell h_b (by decide) (ci := 9) rfl
    refine th_calli (va_runV (As := [.int (I i), .int (I v4q50)]) (rest := []) ⟨hx, hb, hml, hown, hts⟩ (t_ancestorAt l G y b0 σ_J_51 b (tvE E σ_J_51 b 60) i v4q50 (hO.isT1 h_b) (show rng i from ri) (show rng v4q50 from rv4q50)) (cwV 2 hts gX7_writePath_X9_ancestorAt rfl rfl rfl (by decide +kernel) ⟨Nat.le_of_ble_eq_true rfl, Nat.le_of_ble_eq_true rfl⟩) (th_PV hK hH rfl hc_55) rfl rfl hl.1 rfl (lv_room (Nat.le_of_ble_eq_true rfl)) dX7_writePath_19 ⟨Nat.le_of_ble_eq_true rfl, Nat.le_of_ble_eq_true rfl⟩) hS (fun z_58 σ_s_57 H locs rz_58 hw_56 hH hS => ?_)
    obtain ⟨e9, hw_56⟩ := hw_56
    replace e9 := e9.symm
    subst e9
    have hw_56 : z_58 = -1 ∨ (0 ≤ z_58 ∧ z_58 ≤ i ∧ i < (gI σ_J_51 b 4)) := hw_56
    refine lv_istore (lv' := [(5, .int (I z_58)), (0, .ref a), (1, .ref b), (2, .int (I i)), (3, .int (I z_4)), (4, .int (I v4q50))]) hx hb dX7_writePath_22 hl (by decide) rfl (fun ls hl => ?_)
    refine lv_aload_n hx hb dX7_writePath_24 rfl (lv_at hl 2 rfl) ?_
    refine lv_aload_n hx hb dX7_writePath_25 rfl (lv_at hl 2 rfl) ?_
    refine lv_iload hx hb dX7_writePath_26 (lv_at hl 0 rfl) ?_
    obtain ⟨_, hc_59⟩ := hO.cell h_b (by decide) (ci := 9) rfl
    refine th_calli (va_runV (As := [.int (I z_58)]) (rest := [.ref b]) ⟨hx, hb, hml, hown, hts⟩ (t_parentOf l G y b0 σ_J_51 b (tvE E σ_J_51 b 60) z_58 (hO.isT1 h_b) (show rng z_58 from rz_58)) (cwV 1 hts gX7_writePath_X9_parentOf rfl rfl rfl (by decide +kernel) ⟨Nat.le_of_ble_eq_true rfl, Nat.le_of_ble_eq_true rfl⟩) (th_PV hK hH rfl hc_59) rfl rfl hl.1 rfl (lv_room (Nat.le_of_ble_eq_true rfl)) dX7_writePath_28 ⟨Nat.le_of_ble_eq_true rfl, Nat.le_of_ble_eq_true rfl⟩) hS (fun z_62 σ_s_61 H locs rz_62 hw_60 hH hS => ?_)
    obtain ⟨e9, hw_60⟩ := hw_60
    replace e9 := e9.symm
    subst e9
    have hw_60 : z_62 = -1 ∨ (0 ≤ z_62 ∧ z_62 < z_58 ∧ z_58 < (gI σ_J_51 b 4)) := hw_60
    obtain ⟨_, hc_63⟩ := hO.cell h_b (by decide) (ci := 9) rfl
    refine th_calli (va_runV (As := [.int (I z_62)]) (rest := []) ⟨hx, hb, hml, hown, hts⟩ (t_kindAt l G y b0 σ_J_51 b (tvE E σ_J_51 b 60) z_62 (hO.isT1 h_b) (show rng z_62 from rz_62)) (cwV 1 hts gX7_writePath_X9_kindAt rfl rfl rfl (by decide +kernel) ⟨Nat.le_of_ble_eq_true rfl, Nat.le_of_ble_eq_true rfl⟩) (th_PV hK hH rfl hc_63) rfl rfl hl.1 rfl (lv_room (Nat.le_of_ble_eq_true rfl)) dX7_writePath_31 ⟨Nat.le_of_ble_eq_true rfl, Nat.le_of_ble_eq_true rfl⟩) hS (fun z_66 σ_s_65 H locs rz_66 hw_64 hH hS => ?_)
    obtain ⟨e9, hw_64⟩ := hw_64
    replace e9 := e9.symm
    subst e9
    have hw_64 : (0 ≤ z_62 ∧ z_62 < (gI σ_J_51 b 4)) ∨ z_66 = -1 := hw_64
    refine lv_iconst (v := I 3) hx hb dX7_writePath_34 (by decide) ?_
    refine lv_icmp_ne (tgt := 57) hx hb dX7_writePath_35 (by decide) (fun c_67 => ?_) (fun c_67 => ?_)
    · replace c_67 := mt (I_eq (a := z_66) (b := 3) rz_66 (show rng 3 from ⟨by decide, by decide⟩)).mpr c_67
      refine lv_aload_n hx hb dX7_writePath_57 rfl (lv_at hl 1 rfl) ?_
      refine lv_bipush (v := I 91) hx hb dX7_writePath_58 (by decide) ?_
      obtain ⟨_, hc_68⟩ := hO.cell h_a (by decide) (ci := 7) rfl
      refine th_callv (va_runV (As := [.int (I 91)]) (rest := []) ⟨hx, hb, hml, hown, hts⟩ (o_write l G y b0 σ_J_51 E hO a h_a 91 (show rng 91 from (show rng 91 from ⟨by decide, by decide⟩))) (cwV 1 hts gX7_writePath_X7_write rfl rfl rfl (by decide +kernel) ⟨Nat.le_of_ble_eq_true rfl, Nat.le_of_ble_eq_true rfl⟩) (th_PV hK hH rfl hc_68) rfl rfl hl.1 rfl (lv_room (Nat.le_of_ble_eq_true rfl)) dX7_writePath_60 ⟨Nat.le_of_ble_eq_true rfl, Nat.le_of_ble_eq_true rfl⟩) hS (fun σ_s_70 H locs hw_69 hH hS => ?_)
      obtain ⟨hO9, hF9, hw_69⟩ := hw_69
      have e_71 : gI σ_s_70 b 4 = z_53 := (fr.ki hO hF9 h_b (by decide) (by decide) _).trans e_54
      replace hO := hO9
      replace hF := hF.tu hF9 (by decide)
      refine lv_aload_n hx hb dX7_writePath_63 rfl (lv_at hl 1 rfl) ?_
      refine lv_aload_n hx hb dX7_writePath_64 rfl (lv_at hl 2 rfl) ?_
      refine lv_iload hx hb dX7_writePath_65 (lv_at hl 0 rfl) ?_
      obtain ⟨_, hc_72⟩ := hO.cell h_b (by decide) (ci := 9) rfl
      refine th_calli (va_runV (As := [.int (I z_58)]) (rest := [.ref a]) ⟨hx, hb, hml, hown, hts⟩ (t_placeOf l G y b0 σ_s_70 b (tvE E σ_s_70 b 60) z_58 (hO.isT1 h_b) (show rng z_58 from rz_58)) (cwV 1 hts gX7_writePath_X9_placeOf rfl rfl rfl (by decide +kernel) ⟨Nat.le_of_ble_eq_true rfl, Nat.le_of_ble_eq_true rfl⟩) (th_PV hK hH rfl hc_72) rfl rfl hl.1 rfl (lv_room (Nat.le_of_ble_eq_true rfl)) dX7_writePath_67 ⟨Nat.le_of_ble_eq_true rfl, Nat.le_of_ble_eq_true rfl⟩) hS (fun z_75 σ_s_74 H locs rz_75 hw_73 hH hS => ?_)
      obtain ⟨e9, hw_73⟩ := hw_73
      replace e9 := e9.symm
      subst e9
      have hw_73 : -1 ≤ z_75 ∧ z_75 ≤ 128 := hw_73
      obtain ⟨_, hc_76⟩ := hO.cell h_a (by decide) (ci := 7) rfl
      refine th_callv (va_runV (As := [.int (I z_75)]) (rest := []) ⟨hx, hb, hml, hown, hts⟩ (o_number l G y b0 σ_s_70 E hO a h_a z_75 (show rng z_75 from rz_75)) (cwV 1 hts gX7_writePath_X7_writeNumber rfl rfl rfl (by decide +kernel) ⟨Nat.le_of_ble_eq_true rfl, Nat.le_of_ble_eq_true rfl⟩) (th_PV hK hH rfl hc_76) rfl rfl hl.1 rfl (lv_room (Nat.le_of_ble_eq_true rfl)) dX7_writePath_70 ⟨Nat.le_of_ble_eq_true rfl, Nat.le_of_ble_eq_true rfl⟩) hS (fun σ_s_78 H locs hw_77 hH hS => ?_)
      obtain ⟨hO9, hF9, hw_77⟩ := hw_77
      have e_79 : gI σ_s_78 b 4 = z_53 := (fr.ki hO hF9 h_b (by decide) (by decide) _).trans e_71
      replace hO := hO9
      replace hF := hF.tu hF9 (by decide)
      refine lv_aload_n hx hb dX7_writePath_73 rfl (lv_at hl 1 rfl) ?_
      refine lv_bipush (v := I 93) hx hb dX7_writePath_74 (by decide) ?_
      obtain ⟨_, hc_80⟩ := hO.cell h_a (by decide) (ci := 7) rfl
      refine th_callv (va_runV (As := [.int (I 93)]) (rest := []) ⟨hx, hb, hml, hown, hts⟩ (o_write l G y b0 σ_s_78 E hO a h_a 93 (show rng 93 from (show rng 93 from ⟨by decide, by decide⟩))) (cwV 1 hts gX7_writePath_X7_write rfl rfl rfl (by decide +kernel) ⟨Nat.le_of_ble_eq_true rfl, Nat.le_of_ble_eq_true rfl⟩) (th_PV hK hH rfl hc_80) rfl rfl hl.1 rfl (lv_room (Nat.le_of_ble_eq_true rfl)) dX7_writePath_76 ⟨Nat.le_of_ble_eq_true rfl, Nat.le_of_ble_eq_true rfl⟩) hS (fun σ_s_82 H locs hw_81 hH hS => ?_)
      obtain ⟨hO9, hF9, hw_81⟩ := hw_81
      have e_83 : gI σ_s_82 b 4 = z_53 := (fr.ki hO hF9 h_b (by decide) (by decide) _).trans e_79
      replace hO := hO9
      replace hF := hF.tu hF9 (by decide)
      refine lv_iinc (v := I (v4q50 + 1)) (lv' := [(4, .int (I (v4q50 + 1))), (5, .int (I z_58)), (0, .ref a), (1, .ref b), (2, .int (I i)), (3, .int (I z_4))]) hx hb dX7_writePath_79 hl (k := 5) rfl (I_add _ _) (by decide) rfl (fun ls hl => ?_)
      refine lv_goto (tgt := 9) hx hb dX7_writePath_82 (by decide) ?_
      replace hl : lv_has ls 6 [(4, .int (I (v4q50 + 1))), (0, .ref a), (1, .ref b), (2, .int (I i)), (3, .int (I z_4))] := lv_sub hl [0, 2, 3, 4, 5] rfl
      exact ihJ_51 (v4q50 + 1) σ_s_82 _ _ _ (by first | omega | (dsimp only; omega)) ⟨hO, hF, hH, hS, lv_sub hl [1, 2, 3, 4, 0] rfl, ⟨by first | omega | (dsimp only; omega), by first | omega | (dsimp only; omega)⟩, by first | omega | (dsimp only; omega), by first | omega | (dsimp only; omega)⟩
    · replace c_67 := (I_eq (a := z_66) (b := 3) rz_66 (show rng 3 from ⟨by decide, by decide⟩)).mp c_67
      refine lv_aload_n hx hb dX7_writePath_38 rfl (lv_at hl 1 rfl) ?_
      refine lv_bipush (v := I 46) hx hb dX7_writePath_39 (by decide) ?_
      obtain ⟨_, hc_84⟩ := hO.cell h_a (by decide) (ci := 7) rfl
      refine th_callv (va_runV (As := [.int (I 46)]) (rest := []) ⟨hx, hb, hml, hown, hts⟩ (o_write l G y b0 σ_J_51 E hO a h_a 46 (show rng 46 from (show rng 46 from ⟨by decide, by decide⟩))) (cwV 1 hts gX7_writePath_X7_write rfl rfl rfl (by decide +kernel) ⟨Nat.le_of_ble_eq_true rfl, Nat.le_of_ble_eq_true rfl⟩) (th_PV hK hH rfl hc_84) rfl rfl hl.1 rfl (lv_room (Nat.le_of_ble_eq_true rfl)) dX7_writePath_41 ⟨Nat.le_of_ble_eq_true rfl, Nat.le_of_ble_eq_true rfl⟩) hS (fun σ_s_86 H locs hw_85 hH hS => ?_)
      obtain ⟨hO9, hF9, hw_85⟩ := hw_85
      have e_87 : gI σ_s_86 b 4 = z_53 := (fr.ki hO hF9 h_b (by decide) (by decide) _).trans e_54
      replace hO := hO9
      replace hF := hF.tu hF9 (by decide)
      refine lv_aload_n hx hb dX7_writePath_44 rfl (lv_at hl 1 rfl) ?_
      refine lv_aload_n hx hb dX7_writePath_45 rfl (lv_at hl 2 rfl) ?_
      refine lv_iload hx hb dX7_writePath_46 (lv_at hl 0 rfl) ?_
      obtain ⟨_, hc_88⟩ := hO.cell h_b (by decide) (ci := 9) rfl
      refine th_calli (va_runV (As := [.int (I z_58)]) (rest := [.ref a]) ⟨hx, hb, hml, hown, hts⟩ (t_keyAt l G y b0 σ_s_86 b (tvE E σ_s_86 b 60) z_58 (hO.isT1 h_b) (show rng z_58 from rz_58)) (cwV 1 hts gX7_writePath_X9_keyAt rfl rfl rfl (by decide +kernel) ⟨Nat.le_of_ble_eq_true rfl, Nat.le_of_ble_eq_true rfl⟩) (th_PV hK hH rfl hc_88) rfl rfl hl.1 rfl (lv_room (Nat.le_of_ble_eq_true rfl)) dX7_writePath_48 ⟨Nat.le_of_ble_eq_true rfl, Nat.le_of_ble_eq_true rfl⟩) hS (fun z_91 σ_s_90 H locs rz_91 hw_89 hH hS => ?_)
      obtain ⟨e9, hw_89⟩ := hw_89
      replace e9 := e9.symm
      subst e9
      obtain ⟨_, hc_92⟩ := hO.cell h_a (by decide) (ci := 7) rfl
      refine th_callv (va_runV (As := [.int (I z_91)]) (rest := []) ⟨hx, hb, hml, hown, hts⟩ (o_word l G y b0 σ_s_86 E hO a h_a z_91 (show rng z_91 from rz_91)) (cwV 1 hts gX7_writePath_X7_writeWord rfl rfl rfl (by decide +kernel) ⟨Nat.le_of_ble_eq_true rfl, Nat.le_of_ble_eq_true rfl⟩) (th_PV hK hH rfl hc_92) rfl rfl hl.1 rfl (lv_room (Nat.le_of_ble_eq_true rfl)) dX7_writePath_51 ⟨Nat.le_of_ble_eq_true rfl, Nat.le_of_ble_eq_true rfl⟩) hS (fun σ_s_94 H locs hw_93 hH hS => ?_)
      obtain ⟨hO9, hF9, hw_93⟩ := hw_93
      have e_95 : gI σ_s_94 b 4 = z_53 := (fr.ki hO hF9 h_b (by decide) (by decide) _).trans e_87
      replace hO := hO9
      replace hF := hF.tu hF9 (by decide)
      refine lv_goto (tgt := 79) hx hb dX7_writePath_54 (by decide) ?_
      refine lv_iinc (v := I (v4q50 + 1)) (lv' := [(4, .int (I (v4q50 + 1))), (5, .int (I z_58)), (0, .ref a), (1, .ref b), (2, .int (I i)), (3, .int (I z_4))]) hx hb dX7_writePath_79 hl (k := 5) rfl (I_add _ _) (by decide) rfl (fun ls hl => ?_)
      refine lv_goto (tgt := 9) hx hb dX7_writePath_82 (by decide) ?_
      replace hl : lv_has ls 6 [(4, .int (I (v4q50 + 1))), (0, .ref a), (1, .ref b), (2, .int (I i)), (3, .int (I z_4))] := lv_sub hl [0, 2, 3, 4, 5] rfl
      exact ihJ_51 (v4q50 + 1) σ_s_94 _ _ _ (by first | omega | (dsimp only; omega)) ⟨hO, hF, hH, hS, lv_sub hl [1, 2, 3, 4, 0] rfl, ⟨by first | omega | (dsimp only; omega), by first | omega | (dsimp only; omega)⟩, by first | omega | (dsimp only; omega), by first | omega | (dsimp only; omega)⟩

set_option maxHeartbeats 1000000 in
set_option maxRecDepth 100000 in
theorem o_holder (n : Nat) (ih : ∀ (l : Launch) (G : va_G) (y : Nat → ClassId) (b0 : Nat) (σ : th_M) (E : th_E) (hO : ok y E σ) (a : Nat) (h_a : kd E a = 8) (b : Nat) (h_b : kd E b = 1) (i : Int) (ri : rng i) (lv : Int) (rlv : rng lv) (l_lv : 0 ≤ lv) (u_lv : lv ≤ 17) (hn : (17 - lv).toNat < n), Met l yX7_writeThing wsX7_writeThing ({ frames := 4*n+8, cells := 0, slots := 0, locals := (100*n+600) }) (th_P G y b0 σ [.ref a, .ref b, .int (I i), .int (I lv)]) (th_Qv G b0 (fun σ1 => ok y E σ1 ∧ fr [8] E σ σ1 ∧ (True))) 0 0 (th_A b0)) (l : Launch) (G : va_G) (y : Nat → ClassId) (b0 : Nat) (σ : th_M) (E : th_E) (hO : ok y E σ) (a : Nat) (h_a : kd E a = 8) (b : Nat) (h_b : kd E b = 1) (i : Int) (ri : rng i) (lv : Int) (rlv : rng lv) (l_lv : 0 ≤ lv) (u_lv : lv ≤ 16) (hy0 : (17 - lv).toNat < n + 1) : Met l yX7_writeHolder wsX7_writeHolder ({ frames := 4*n+10, cells := 0, slots := 0, locals := (100*n+650) }) (th_P G y b0 σ [.ref a, .ref b, .int (I i), .int (I lv)]) (th_Qv G b0 (fun σ1 => ok y E σ1 ∧ fr [8] E σ σ1 ∧ (True))) 0 0 (th_A b0) := by
  refine Met.ofW (cc := cX7_writeHolder) (maxL := 8) (ret := none) (by decide) rfl ?_
  intro p e s m args below meth c s₁ B hml hv
  obtain ⟨rfl, hH, hK⟩ := hv
  have hx := B.exec
  have hb := B.bytes
  have hr := B.returns
  have hts := atoms_spec (ws := wsX7_writeHolder) B.pre
  have hown : s.vm.findClass RX7 = some m.cls := findClass_of_methodNamed B.named
  have hlocks := B.notSynchronized
  have h00 : b0 ≤ s.heap.size := hH.1
  have hS : va_S (th_A b0) s.heap s.heap [] := va_S.rf
  have hF : fr [8] E σ σ := fr.rf
  have hl := lv_entry ([.ref a, .ref b, .int (I i), .int (I lv)]) (n := 8) (Nat.le_of_ble_eq_true rfl)
  rw [lg_entry_eq]
  generalize (lg_sl ([.ref a, .ref b, .int (I i), .int (I lv)]) ++ List.replicate (8 - (lg_sl ([.ref a, .ref b, .int (I i), .int (I lv)])).length) Slot.unset).toArray = ls at hl ⊢
  have hl : lv_has ls 8 [(0, .ref a), (1, .ref b), (2, .int (I i)), (3, .int (I lv))] := hl
  refine lv_aload_n hx hb dX7_writeHolder_0 rfl (lv_at hl 1 rfl) ?_
  refine lv_iload_n hx hb dX7_writeHolder_1 rfl (lv_at hl 2 rfl) ?_
  obtain ⟨z_1, e_2, rz_1, lz_1, uz_1⟩ := hO.gi h_b (by decide) k1_4
  obtain ⟨_, hc_3⟩ := hO.cell h_b (by decide) (ci := 9) rfl
  refine th_calli (va_runV (As := [.int (I i)]) (rest := []) ⟨hx, hb, hml, hown, hts⟩ (t_kindAt l G y b0 σ b (tvE E σ b 60) i (hO.isT1 h_b) (show rng i from ri)) (cwV 1 hts gX7_writeHolder_X9_kindAt rfl rfl rfl (by decide +kernel) ⟨(by first | (simp only [headSpec]; omega) | omega | (dsimp only; omega)), (by first | (simp only [headSpec]; omega) | omega | (dsimp only; omega))⟩) (th_PV hK hH rfl hc_3) rfl rfl hl.1 rfl (lv_room (Nat.le_of_ble_eq_true rfl)) dX7_writeHolder_2 ⟨(by first | (simp only [headSpec]; omega) | omega | (dsimp only; omega)), (by first | (simp only [headSpec]; omega) | omega | (dsimp only; omega))⟩) hS (fun z_6 σ_s_5 H locs rz_6 hw_4 hH hS => ?_)
  obtain ⟨e9, hw_4⟩ := hw_4
  replace e9 := e9.symm
  subst e9
  have hw_4 : (0 ≤ i ∧ i < (gI σ b 4)) ∨ z_6 = -1 := hw_4
  refine lv_iconst (v := I 3) hx hb dX7_writeHolder_5 (by decide) ?_
  refine th_join (α := Int) (J := 14) (stk := fun x9 => [.int (I x9)]) (fun x9 σ9 H9 l9 ls9 => σ9 = σ ∧ th_H G b0 σ9 H9 ∧ va_S (th_A b0) s.heap H9 l9 ∧ lv_has ls9 8 [(0, .ref a), (1, .ref b), (2, .int (I i)), (3, .int (I lv))] ∧ rng x9 ∧ (x9 = 0 ∨ x9 = 1)) ?_ (fun jK_9 => ?_)
  · intro x9 σ_K_9 H locs ls hI9
    obtain ⟨w0q8, ex9⟩ : ∃ z, z = x9 := ⟨_, rfl⟩
    subst ex9
    obtain ⟨eK_9, hH, hS, hl, rw0q8, K_9_0⟩ := hI9
    replace eK_9 := eK_9.symm
    subst eK_9
    have hl : lv_has ls 8 [(0, .ref a), (1, .ref b), (2, .int (I i)), (3, .int (I lv))] := hl
    have rw0q8 : rng w0q8 := rw0q8
    have K_9_0 : w0q8 = 0 ∨ w0q8 = 1 := K_9_0
    refine lv_istore (lv' := [(4, .int (I w0q8)), (0, .ref a), (1, .ref b), (2, .int (I i)), (3, .int (I lv))]) hx hb dX7_writeHolder_14 hl (by decide) rfl (fun ls hl => ?_)
    refine lv_aload_n hx hb dX7_writeHolder_16 rfl (lv_at hl 2 rfl) ?_
    refine lv_iload_n hx hb dX7_writeHolder_17 rfl (lv_at hl 3 rfl) ?_
    obtain ⟨_, hc_10⟩ := hO.cell h_b (by decide) (ci := 9) rfl
    refine th_calli (va_runV (As := [.int (I i)]) (rest := []) ⟨hx, hb, hml, hown, hts⟩ (t_childCount l G y b0 σ b (tvE E σ b 60) i (hO.isT1 h_b) (show rng i from ri)) (cwV 1 hts gX7_writeHolder_X9_childCount rfl rfl rfl (by decide +kernel) ⟨(by first | (simp only [headSpec]; omega) | omega | (dsimp only; omega)), (by first | (simp only [headSpec]; omega) | omega | (dsimp only; omega))⟩) (th_PV hK hH rfl hc_10) rfl rfl hl.1 rfl (lv_room (Nat.le_of_ble_eq_true rfl)) dX7_writeHolder_18 ⟨(by first | (simp only [headSpec]; omega) | omega | (dsimp only; omega)), (by first | (simp only [headSpec]; omega) | omega | (dsimp only; omega))⟩) hS (fun z_13 σ_s_12 H locs rz_13 hw_11 hH hS => ?_)
    obtain ⟨e9, hw_11⟩ := hw_11
    replace e9 := e9.symm
    subst e9
    have hw_11 : 0 ≤ z_13 ∧ z_13 ≤ (gI σ b 4) := hw_11
    refine lv_istore (lv' := [(5, .int (I z_13)), (4, .int (I w0q8)), (0, .ref a), (1, .ref b), (2, .int (I i)), (3, .int (I lv))]) hx hb dX7_writeHolder_21 hl (by decide) rfl (fun ls hl => ?_)
    refine lv_iload_n hx hb dX7_writeHolder_23 rfl (lv_at hl 4 rfl) ?_
    refine lv_iconst (v := I 1) hx hb dX7_writeHolder_24 (by decide) ?_
    refine lv_iadd hx hb dX7_writeHolder_25 ?_
    refine th_addo (fun z_14 rz_14 hz_14 => ?_)
    refine lv_istore (lv' := [(6, .int (I z_14)), (5, .int (I z_13)), (4, .int (I w0q8)), (0, .ref a), (1, .ref b), (2, .int (I i)), (3, .int (I lv))]) hx hb dX7_writeHolder_26 hl (by decide) rfl (fun ls hl => ?_)
    refine lv_aload_n hx hb dX7_writeHolder_28 rfl (lv_at hl 3 rfl) ?_
    refine lv_iload hx hb dX7_writeHolder_29 (lv_at hl 2 rfl) ?_
    refine th_join (α := Int) (J := 41) (stk := fun x9 => [.int (I x9), .ref a]) (fun x9 σ9 H9 l9 ls9 => σ9 = σ ∧ th_H G b0 σ9 H9 ∧ va_S (th_A b0) s.heap H9 l9 ∧ lv_has ls9 8 [(0, .ref a), (1, .ref b), (3, .int (I lv)), (4, .int (I w0q8)), (5, .int (I z_13)), (6, .int (I z_14))] ∧ rng x9 ∧ (x9 = 91 ∨ x9 = 123)) ?_ (fun jK_17 => ?_)
    · intro x9 σ_K_17 H locs ls hI9
      obtain ⟨w0q16, ex9⟩ : ∃ z, z = x9 := ⟨_, rfl⟩
      subst ex9
      obtain ⟨eK_17, hH, hS, hl, rw0q16, K_17_0⟩ := hI9
      replace eK_17 := eK_17.symm
      subst eK_17
      have hl : lv_has ls 8 [(0, .ref a), (1, .ref b), (3, .int (I lv)), (4, .int (I w0q8)), (5, .int (I z_13)), (6, .int (I z_14))] := hl
      have rw0q16 : rng w0q16 := rw0q16
      have K_17_0 : w0q16 = 91 ∨ w0q16 = 123 := K_17_0
      obtain ⟨_, hc_18⟩ := hO.cell h_a (by decide) (ci := 7) rfl
      refine th_callv (va_runV (As := [.int (I w0q16)]) (rest := []) ⟨hx, hb, hml, hown, hts⟩ (o_write l G y b0 σ E hO a h_a w0q16 (show rng w0q16 from rw0q16)) (cwV 1 hts gX7_writeHolder_X7_write rfl rfl rfl (by decide +kernel) ⟨(by first | (simp only [headSpec]; omega) | omega | (dsimp only; omega)), (by first | (simp only [headSpec]; omega) | omega | (dsimp only; omega))⟩) (th_PV hK hH rfl hc_18) rfl rfl hl.1 rfl (lv_room (Nat.le_of_ble_eq_true rfl)) dX7_writeHolder_41 ⟨(by first | (simp only [headSpec]; omega) | omega | (dsimp only; omega)), (by first | (simp only [headSpec]; omega) | omega | (dsimp only; omega))⟩) hS (fun σ_s_20 H locs hw_19 hH hS => ?_)
      obtain ⟨hO9, hF9, hw_19⟩ := hw_19
      have e_21 : gI σ_s_20 b 4 = z_1 := (fr.ki hO hF9 h_b (by decide) (by decide) _).trans e_2
      replace hO := hO9
      replace hF := hF.tu hF9 (by decide)
      refine lv_iconst (v := I 0) hx hb dX7_writeHolder_44 (by decide) ?_
      refine lv_istore (lv' := [(7, .int (I 0)), (0, .ref a), (1, .ref b), (3, .int (I lv)), (4, .int (I w0q8)), (5, .int (I z_13)), (6, .int (I z_14))]) hx hb dX7_writeHolder_45 hl (by decide) rfl (fun ls hl => ?_)
      refine th_loop (α := Int × Int) (pc := 47) (fun x9 => (128 - x9.2).toNat) (fun x9 σ9 H9 l9 ls9 => ok y E σ9 ∧ fr [8] E σ σ9 ∧ th_H G b0 σ9 H9 ∧ va_S (th_A b0) s.heap H9 l9 ∧ lv_has ls9 8 [(0, .ref a), (1, .ref b), (3, .int (I lv)), (4, .int (I w0q8)), (5, .int (I z_13)), (6, .int (I x9.1)), (7, .int (I x9.2))] ∧ rng x9.1 ∧ rng x9.2 ∧ (0 ≤ x9.2) ∧ (x9.2 ≤ 128) ∧ (gI σ9 b 4 = z_1)) ?_ (z_14, 0) σ_s_20 _ _ _ ⟨hO, hF, hH, hS, lv_sub hl [1, 2, 3, 4, 5, 6, 0] rfl, rz_14, (show rng 0 from ⟨by decide, by decide⟩), by first | omega | (dsimp only; omega), by first | omega | (dsimp only; omega), e_21⟩
      intro x9 σ_J_73 H locs ls hI9 ihJ_73
      obtain ⟨v6q72, v7q72⟩ := x9
      obtain ⟨hO, hF, hH, hS, hl, rv6q72, rv7q72, J_73_0, J_73_1, J_73_2⟩ := hI9
      have hl : lv_has ls 8 [(0, .ref a), (1, .ref b), (3, .int (I lv)), (4, .int (I w0q8)), (5, .int (I z_13)), (6, .int (I v6q72)), (7, .int (I v7q72))] := hl
      have rv6q72 : rng v6q72 := rv6q72
      have rv7q72 : rng v7q72 := rv7q72
      have J_73_0 : 0 ≤ v7q72 := J_73_0
      have J_73_1 : v7q72 ≤ 128 := J_73_1
      have J_73_2 : gI σ_J_73 b 4 = z_1 := J_73_2
      refine lv_iload hx hb dX7_writeHolder_47 (lv_at hl 6 rfl) ?_
      refine lv_iload hx hb dX7_writeHolder_49 (lv_at hl 4 rfl) ?_
      refine lv_icmp_ge (tgt := 112) hx hb dX7_writeHolder_51 (by decide) (fun c_74 => ?_) (fun c_74 => ?_)
      · replace c_74 := (I_le (a := z_13) (b := v7q72) rz_13 rv7q72).mp c_74
        refine lv_aload_n hx hb dX7_writeHolder_112 rfl (lv_at hl 0 rfl) ?_
        refine lv_iload hx hb dX7_writeHolder_113 (lv_at hl 3 rfl) ?_
        refine lv_if_eq (tgt := 123) hx hb dX7_writeHolder_115 (by decide) (fun c_75 => ?_) (fun c_75 => ?_)
        · replace c_75 := (I_eq (a := w0q8) (b := 0) rw0q8 (show rng 0 from ⟨by decide, by decide⟩)).mp c_75
          refine lv_bipush (v := I 93) hx hb dX7_writeHolder_123 (by decide) ?_
          obtain ⟨_, hc_76⟩ := hO.cell h_a (by decide) (ci := 7) rfl
          refine th_callv (va_runV (As := [.int (I 93)]) (rest := []) ⟨hx, hb, hml, hown, hts⟩ (o_write l G y b0 σ_J_73 E hO a h_a 93 (show rng 93 from (show rng 93 from ⟨by decide, by decide⟩))) (cwV 1 hts gX7_writeHolder_X7_write rfl rfl rfl (by decide +kernel) ⟨(by first | (simp only [headSpec]; omega) | omega | (dsimp only; omega)), (by first | (simp only [headSpec]; omega) | omega | (dsimp only; omega))⟩) (th_PV hK hH rfl hc_76) rfl rfl hl.1 rfl (lv_room (Nat.le_of_ble_eq_true rfl)) dX7_writeHolder_125 ⟨(by first | (simp only [headSpec]; omega) | omega | (dsimp only; omega)), (by first | (simp only [headSpec]; omega) | omega | (dsimp only; omega))⟩) hS (fun σ_s_78 H locs hw_77 hH hS => ?_)
          obtain ⟨hO9, hF9, hw_77⟩ := hw_77
          have e_79 : gI σ_s_78 b 4 = z_1 := (fr.ki hO hF9 h_b (by decide) (by decide) _).trans J_73_2
          replace hO := hO9
          replace hF := hF.tu hF9 (by decide)
          exact th_vret hx hb hr hlocks hH hS ⟨hO, hF, trivial⟩ dX7_writeHolder_128
        · replace c_75 := mt (I_eq (a := w0q8) (b := 0) rw0q8 (show rng 0 from ⟨by decide, by decide⟩)).mpr c_75
          refine lv_bipush (v := I 125) hx hb dX7_writeHolder_118 (by decide) ?_
          refine lv_goto (tgt := 125) hx hb dX7_writeHolder_120 (by decide) ?_
          obtain ⟨_, hc_80⟩ := hO.cell h_a (by decide) (ci := 7) rfl
          refine th_callv (va_runV (As := [.int (I 125)]) (rest := []) ⟨hx, hb, hml, hown, hts⟩ (o_write l G y b0 σ_J_73 E hO a h_a 125 (show rng 125 from (show rng 125 from ⟨by decide, by decide⟩))) (cwV 1 hts gX7_writeHolder_X7_write rfl rfl rfl (by decide +kernel) ⟨(by first | (simp only [headSpec]; omega) | omega | (dsimp only; omega)), (by first | (simp only [headSpec]; omega) | omega | (dsimp only; omega))⟩) (th_PV hK hH rfl hc_80) rfl rfl hl.1 rfl (lv_room (Nat.le_of_ble_eq_true rfl)) dX7_writeHolder_125 ⟨(by first | (simp only [headSpec]; omega) | omega | (dsimp only; omega)), (by first | (simp only [headSpec]; omega) | omega | (dsimp only; omega))⟩) hS (fun σ_s_82 H locs hw_81 hH hS => ?_)
          obtain ⟨hO9, hF9, hw_81⟩ := hw_81
          have e_83 : gI σ_s_82 b 4 = z_1 := (fr.ki hO hF9 h_b (by decide) (by decide) _).trans J_73_2
          replace hO := hO9
          replace hF := hF.tu hF9 (by decide)
          exact th_vret hx hb hr hlocks hH hS ⟨hO, hF, trivial⟩ dX7_writeHolder_128
      · replace c_74 := mt (I_le (a := z_13) (b := v7q72) rz_13 rv7q72).mpr c_74
        refine lv_iload hx hb dX7_writeHolder_54 (lv_at hl 6 rfl) ?_
        refine th_join (α := Unit) (J := 65) (stk := fun x9 => []) (fun x9 σ9 H9 l9 ls9 => ok y E σ9 ∧ fr [8] E σ σ9 ∧ th_H G b0 σ9 H9 ∧ va_S (th_A b0) s.heap H9 l9 ∧ lv_has ls9 8 [(0, .ref a), (1, .ref b), (3, .int (I lv)), (4, .int (I w0q8)), (5, .int (I z_13)), (6, .int (I v6q72)), (7, .int (I v7q72))] ∧ (gI σ9 b 4 = z_1)) ?_ (fun jK_90 => ?_)
        · intro x9 σ_K_90 H locs ls hI9
          obtain ⟨hO, hF, hH, hS, hl, K_90_0⟩ := hI9
          have hl : lv_has ls 8 [(0, .ref a), (1, .ref b), (3, .int (I lv)), (4, .int (I w0q8)), (5, .int (I z_13)), (6, .int (I v6q72)), (7, .int (I v7q72))] := hl
          have K_90_0 : gI σ_K_90 b 4 = z_1 := K_90_0
          refine lv_iload hx hb dX7_writeHolder_65 (lv_at hl 3 rfl) ?_
          refine th_join (α := Unit) (J := 86) (stk := fun x9 => []) (fun x9 σ9 H9 l9 ls9 => ok y E σ9 ∧ fr [8] E σ σ9 ∧ th_H G b0 σ9 H9 ∧ va_S (th_A b0) s.heap H9 l9 ∧ lv_has ls9 8 [(0, .ref a), (1, .ref b), (3, .int (I lv)), (4, .int (I w0q8)), (5, .int (I z_13)), (6, .int (I v6q72)), (7, .int (I v7q72))] ∧ (gI σ9 b 4 = z_1)) ?_ (fun jK_105 => ?_)
          · intro x9 σ_K_105 H locs ls hI9
            obtain ⟨hO, hF, hH, hS, hl, K_105_0⟩ := hI9
            have hl : lv_has ls 8 [(0, .ref a), (1, .ref b), (3, .int (I lv)), (4, .int (I w0q8)), (5, .int (I z_13)), (6, .int (I v6q72)), (7, .int (I v7q72))] := hl
            have K_105_0 : gI σ_K_105 b 4 = z_1 := K_105_0
            refine lv_aload_n hx hb dX7_writeHolder_86 rfl (lv_at hl 0 rfl) ?_
            refine lv_aload_n hx hb dX7_writeHolder_87 rfl (lv_at hl 1 rfl) ?_
            refine lv_iload hx hb dX7_writeHolder_88 (lv_at hl 5 rfl) ?_
            refine lv_iload_n hx hb dX7_writeHolder_90 rfl (lv_at hl 2 rfl) ?_
            refine lv_iconst (v := I 1) hx hb dX7_writeHolder_91 (by decide) ?_
            refine lv_iadd hx hb dX7_writeHolder_92 ?_
            refine nq_top (I_add _ _) ?_
            obtain ⟨_, hc_106⟩ := hO.cell h_a (by decide) (ci := 7) rfl
            refine th_callv (va_runV (As := [.ref b, .int (I v6q72), .int (I (lv + 1))]) (rest := []) ⟨hx, hb, hml, hown, hts⟩ (ih l G y b0 σ_K_105 E hO a h_a b h_b v6q72 (show rng v6q72 from rv6q72) (lv + 1) (show rng (lv + 1) from ⟨by omega, by omega⟩) (by omega) (by omega) (by omega)) (cwV 3 hts gX7_writeHolder_X7_writeThing rfl rfl rfl (by decide +kernel) ⟨(by first | (simp only [headSpec]; omega) | omega | (dsimp only; omega)), (by first | (simp only [headSpec]; omega) | omega | (dsimp only; omega))⟩) (th_PV hK hH rfl hc_106) rfl rfl hl.1 rfl (lv_room (Nat.le_of_ble_eq_true rfl)) dX7_writeHolder_93 ⟨(by first | (simp only [headSpec]; omega) | omega | (dsimp only; omega)), (by first | (simp only [headSpec]; omega) | omega | (dsimp only; omega))⟩) hS (fun σ_s_108 H locs hw_107 hH hS => ?_)
            obtain ⟨hO9, hF9, hw_107⟩ := hw_107
            have e_109 : gI σ_s_108 b 4 = z_1 := (fr.ki hO hF9 h_b (by decide) (by decide) _).trans K_105_0
            replace hO := hO9
            replace hF := hF.tu hF9 (by decide)
            refine lv_aload_n hx hb dX7_writeHolder_96 rfl (lv_at hl 1 rfl) ?_
            refine lv_iload hx hb dX7_writeHolder_97 (lv_at hl 5 rfl) ?_
            obtain ⟨_, hc_110⟩ := hO.cell h_b (by decide) (ci := 9) rfl
            refine th_calli (va_runV (As := [.int (I v6q72)]) (rest := []) ⟨hx, hb, hml, hown, hts⟩ (t_end l G y b0 σ_s_108 b (tvE E σ_s_108 b 60) v6q72 (hO.isT1 h_b) (show rng v6q72 from rv6q72)) (cwV 1 hts gX7_writeHolder_X9_end rfl rfl rfl (by decide +kernel) ⟨(by first | (simp only [headSpec]; omega) | omega | (dsimp only; omega)), (by first | (simp only [headSpec]; omega) | omega | (dsimp only; omega))⟩) (th_PV hK hH rfl hc_110) rfl rfl hl.1 rfl (lv_room (Nat.le_of_ble_eq_true rfl)) dX7_writeHolder_99 ⟨(by first | (simp only [headSpec]; omega) | omega | (dsimp only; omega)), (by first | (simp only [headSpec]; omega) | omega | (dsimp only; omega))⟩) hS (fun z_113 σ_s_112 H locs rz_113 hw_111 hH hS => ?_)
            obtain ⟨e9, hw_111⟩ := hw_111
            replace e9 := e9.symm
            subst e9
            have hw_111 : ((0 ≤ v6q72 ∧ v6q72 < (gI σ_s_108 b 4)) ∧ v6q72 ≤ z_113 ∧ z_113 < (gI σ_s_108 b 4)) ∨ (z_113 = -1 ∧ ¬ (0 ≤ v6q72 ∧ v6q72 < (gI σ_s_108 b 4))) := hw_111
            refine lv_iconst (v := I 1) hx hb dX7_writeHolder_102 (by decide) ?_
            refine lv_iadd hx hb dX7_writeHolder_103 ?_
            refine nq_top (I_add _ _) ?_
            refine lv_istore (lv' := [(6, .int (I (z_113 + 1))), (0, .ref a), (1, .ref b), (3, .int (I lv)), (4, .int (I w0q8)), (5, .int (I z_13)), (7, .int (I v7q72))]) hx hb dX7_writeHolder_104 hl (by decide) rfl (fun ls hl => ?_)
            refine lv_iinc (v := I (v7q72 + 1)) (lv' := [(7, .int (I (v7q72 + 1))), (6, .int (I (z_113 + 1))), (0, .ref a), (1, .ref b), (3, .int (I lv)), (4, .int (I w0q8)), (5, .int (I z_13))]) hx hb dX7_writeHolder_106 hl (k := 6) rfl (I_add _ _) (by decide) rfl (fun ls hl => ?_)
            refine lv_goto (tgt := 47) hx hb dX7_writeHolder_109 (by decide) ?_
            exact ihJ_73 (z_113 + 1, v7q72 + 1) σ_s_108 _ _ _ (by first | omega | (dsimp only; omega)) ⟨hO, hF, hH, hS, lv_sub hl [2, 3, 4, 5, 6, 1, 0] rfl, ⟨by first | omega | (dsimp only; omega), by first | omega | (dsimp only; omega)⟩, ⟨by first | omega | (dsimp only; omega), by first | omega | (dsimp only; omega)⟩, by first | omega | (dsimp only; omega), by first | omega | (dsimp only; omega), e_109⟩
          · refine lv_if_eq (tgt := 86) hx hb dX7_writeHolder_67 (by decide) (fun c_114 => ?_) (fun c_114 => ?_)
            · replace c_114 := (I_eq (a := w0q8) (b := 0) rw0q8 (show rng 0 from ⟨by decide, by decide⟩)).mp c_114
              exact jK_105 () σ_K_90 _ _ _ ⟨hO, hF, hH, hS, lv_sub hl [0, 1, 2, 3, 4, 5, 6] rfl, K_90_0⟩
            · replace c_114 := mt (I_eq (a := w0q8) (b := 0) rw0q8 (show rng 0 from ⟨by decide, by decide⟩)).mpr c_114
              refine lv_aload_n hx hb dX7_writeHolder_70 rfl (lv_at hl 0 rfl) ?_
              refine lv_aload_n hx hb dX7_writeHolder_71 rfl (lv_at hl 1 rfl) ?_
              refine lv_iload hx hb dX7_writeHolder_72 (lv_at hl 5 rfl) ?_
              obtain ⟨_, hc_115⟩ := hO.cell h_b (by decide) (ci := 9) rfl
              refine th_calli (va_runV (As := [.int (I v6q72)]) (rest := [.ref a]) ⟨hx, hb, hml, hown, hts⟩ (t_keyAt l G y b0 σ_K_90 b (tvE E σ_K_90 b 60) v6q72 (hO.isT1 h_b) (show rng v6q72 from rv6q72)) (cwV 1 hts gX7_writeHolder_X9_keyAt rfl rfl rfl (by decide +kernel) ⟨(by first | (simp only [headSpec]; omega) | omega | (dsimp only; omega)), (by first | (simp only [headSpec]; omega) | omega | (dsimp only; omega))⟩) (th_PV hK hH rfl hc_115) rfl rfl hl.1 rfl (lv_room (Nat.le_of_ble_eq_true rfl)) dX7_writeHolder_74 ⟨(by first | (simp only [headSpec]; omega) | omega | (dsimp only; omega)), (by first | (simp only [headSpec]; omega) | omega | (dsimp only; omega))⟩) hS (fun z_118 σ_s_117 H locs rz_118 hw_116 hH hS => ?_)
              obtain ⟨e9, hw_116⟩ := hw_116
              replace e9 := e9.symm
              subst e9
              obtain ⟨_, hc_119⟩ := hO.cell h_a (by decide) (ci := 7) rfl
              refine th_callv (va_runV (As := [.int (I z_118)]) (rest := []) ⟨hx, hb, hml, hown, hts⟩ (o_word l G y b0 σ_K_90 E hO a h_a z_118 (show rng z_118 from rz_118)) (cwV 1 hts gX7_writeHolder_X7_writeWord rfl rfl rfl (by decide +kernel) ⟨(by first | (simp only [headSpec]; omega) | omega | (dsimp only; omega)), (by first | (simp only [headSpec]; omega) | omega | (dsimp only; omega))⟩) (th_PV hK hH rfl hc_119) rfl rfl hl.1 rfl (lv_room (Nat.le_of_ble_eq_true rfl)) dX7_writeHolder_77 ⟨(by first | (simp only [headSpec]; omega) | omega | (dsimp only; omega)), (by first | (simp only [headSpec]; omega) | omega | (dsimp only; omega))⟩) hS (fun σ_s_121 H locs hw_120 hH hS => ?_)
              obtain ⟨hO9, hF9, hw_120⟩ := hw_120
              have e_122 : gI σ_s_121 b 4 = z_1 := (fr.ki hO hF9 h_b (by decide) (by decide) _).trans K_90_0
              replace hO := hO9
              replace hF := hF.tu hF9 (by decide)
              refine lv_aload_n hx hb dX7_writeHolder_80 rfl (lv_at hl 0 rfl) ?_
              refine lv_bipush (v := I 58) hx hb dX7_writeHolder_81 (by decide) ?_
              obtain ⟨_, hc_123⟩ := hO.cell h_a (by decide) (ci := 7) rfl
              refine th_callv (va_runV (As := [.int (I 58)]) (rest := []) ⟨hx, hb, hml, hown, hts⟩ (o_write l G y b0 σ_s_121 E hO a h_a 58 (show rng 58 from (show rng 58 from ⟨by decide, by decide⟩))) (cwV 1 hts gX7_writeHolder_X7_write rfl rfl rfl (by decide +kernel) ⟨(by first | (simp only [headSpec]; omega) | omega | (dsimp only; omega)), (by first | (simp only [headSpec]; omega) | omega | (dsimp only; omega))⟩) (th_PV hK hH rfl hc_123) rfl rfl hl.1 rfl (lv_room (Nat.le_of_ble_eq_true rfl)) dX7_writeHolder_83 ⟨(by first | (simp only [headSpec]; omega) | omega | (dsimp only; omega)), (by first | (simp only [headSpec]; omega) | omega | (dsimp only; omega))⟩) hS (fun σ_s_125 H locs hw_124 hH hS => ?_)
              obtain ⟨hO9, hF9, hw_124⟩ := hw_124
              have e_126 : gI σ_s_125 b 4 = z_1 := (fr.ki hO hF9 h_b (by decide) (by decide) _).trans e_122
              replace hO := hO9
              replace hF := hF.tu hF9 (by decide)
              exact jK_105 () σ_s_125 _ _ _ ⟨hO, hF, hH, hS, lv_sub hl [0, 1, 2, 3, 4, 5, 6] rfl, e_126⟩
        · refine lv_if_le (tgt := 65) hx hb dX7_writeHolder_56 (by decide) (fun c_127 => ?_) (fun c_127 => ?_)
          · replace c_127 := (I_le (a := v7q72) (b := 0) rv7q72 (show rng 0 from ⟨by decide, by decide⟩)).mp c_127
            exact jK_90 () σ_J_73 _ _ _ ⟨hO, hF, hH, hS, lv_sub hl [0, 1, 2, 3, 4, 5, 6] rfl, J_73_2⟩
          · replace c_127 := mt (I_le (a := v7q72) (b := 0) rv7q72 (show rng 0 from ⟨by decide, by decide⟩)).mpr c_127
            refine lv_aload_n hx hb dX7_writeHolder_59 rfl (lv_at hl 0 rfl) ?_
            refine lv_bipush (v := I 44) hx hb dX7_writeHolder_60 (by decide) ?_
            obtain ⟨_, hc_128⟩ := hO.cell h_a (by decide) (ci := 7) rfl
            refine th_callv (va_runV (As := [.int (I 44)]) (rest := []) ⟨hx, hb, hml, hown, hts⟩ (o_write l G y b0 σ_J_73 E hO a h_a 44 (show rng 44 from (show rng 44 from ⟨by decide, by decide⟩))) (cwV 1 hts gX7_writeHolder_X7_write rfl rfl rfl (by decide +kernel) ⟨(by first | (simp only [headSpec]; omega) | omega | (dsimp only; omega)), (by first | (simp only [headSpec]; omega) | omega | (dsimp only; omega))⟩) (th_PV hK hH rfl hc_128) rfl rfl hl.1 rfl (lv_room (Nat.le_of_ble_eq_true rfl)) dX7_writeHolder_62 ⟨(by first | (simp only [headSpec]; omega) | omega | (dsimp only; omega)), (by first | (simp only [headSpec]; omega) | omega | (dsimp only; omega))⟩) hS (fun σ_s_130 H locs hw_129 hH hS => ?_)
            obtain ⟨hO9, hF9, hw_129⟩ := hw_129
            have e_131 : gI σ_s_130 b 4 = z_1 := (fr.ki hO hF9 h_b (by decide) (by decide) _).trans J_73_2
            replace hO := hO9
            replace hF := hF.tu hF9 (by decide)
            exact jK_90 () σ_s_130 _ _ _ ⟨hO, hF, hH, hS, lv_sub hl [0, 1, 2, 3, 4, 5, 6] rfl, e_131⟩
    · refine lv_if_eq (tgt := 39) hx hb dX7_writeHolder_31 (by decide) (fun c_132 => ?_) (fun c_132 => ?_)
      · replace c_132 := (I_eq (a := w0q8) (b := 0) rw0q8 (show rng 0 from ⟨by decide, by decide⟩)).mp c_132
        refine lv_bipush (v := I 91) hx hb dX7_writeHolder_39 (by decide) ?_
        replace hl : lv_has ls 8 [(6, .int (I z_14)), (5, .int (I z_13)), (4, .int (I w0q8)), (0, .ref a), (1, .ref b), (3, .int (I lv))] := lv_sub hl [0, 1, 2, 3, 4, 6] rfl
        exact jK_17 (91) σ _ _ _ ⟨rfl, hH, hS, lv_sub hl [3, 4, 5, 2, 1, 0] rfl, (show rng 91 from ⟨by decide, by decide⟩), by first | omega | (dsimp only; omega)⟩
      · replace c_132 := mt (I_eq (a := w0q8) (b := 0) rw0q8 (show rng 0 from ⟨by decide, by decide⟩)).mpr c_132
        refine lv_bipush (v := I 123) hx hb dX7_writeHolder_34 (by decide) ?_
        refine lv_goto (tgt := 41) hx hb dX7_writeHolder_36 (by decide) ?_
        replace hl : lv_has ls 8 [(6, .int (I z_14)), (5, .int (I z_13)), (4, .int (I w0q8)), (0, .ref a), (1, .ref b), (3, .int (I lv))] := lv_sub hl [0, 1, 2, 3, 4, 6] rfl
        exact jK_17 (123) σ _ _ _ ⟨rfl, hH, hS, lv_sub hl [3, 4, 5, 2, 1, 0] rfl, (show rng 123 from ⟨by decide, by decide⟩), by first | omega | (dsimp only; omega)⟩
  · refine lv_icmp_ne (tgt := 13) hx hb dX7_writeHolder_6 (by decide) (fun c_133 => ?_) (fun c_133 => ?_)
    · replace c_133 := mt (I_eq (a := z_6) (b := 3) rz_6 (show rng 3 from ⟨by decide, by decide⟩)).mpr c_133
      refine lv_iconst (v := I 0) hx hb dX7_writeHolder_13 (by decide) ?_
      exact jK_9 (0) σ _ _ _ ⟨rfl, hH, hS, lv_sub hl [0, 1, 2, 3] rfl, (show rng 0 from ⟨by decide, by decide⟩), by first | omega | (dsimp only; omega)⟩
    · replace c_133 := (I_eq (a := z_6) (b := 3) rz_6 (show rng 3 from ⟨by decide, by decide⟩)).mp c_133
      refine lv_iconst (v := I 1) hx hb dX7_writeHolder_9 (by decide) ?_
      refine lv_goto (tgt := 14) hx hb dX7_writeHolder_10 (by decide) ?_
      exact jK_9 (1) σ _ _ _ ⟨rfl, hH, hS, lv_sub hl [0, 1, 2, 3] rfl, (show rng 1 from ⟨by decide, by decide⟩), by first | omega | (dsimp only; omega)⟩

set_option maxHeartbeats 1000000 in
set_option maxRecDepth 100000 in
theorem o_thing (n : Nat) : ∀ (l : Launch) (G : va_G) (y : Nat → ClassId) (b0 : Nat) (σ : th_M) (E : th_E) (hO : ok y E σ) (a : Nat) (h_a : kd E a = 8) (b : Nat) (h_b : kd E b = 1) (i : Int) (ri : rng i) (lv : Int) (rlv : rng lv) (l_lv : 0 ≤ lv) (u_lv : lv ≤ 17) (hn : (17 - lv).toNat < n), Met l yX7_writeThing wsX7_writeThing ({ frames := 4*n+8, cells := 0, slots := 0, locals := (100*n+600) }) (th_P G y b0 σ [.ref a, .ref b, .int (I i), .int (I lv)]) (th_Qv G b0 (fun σ1 => ok y E σ1 ∧ fr [8] E σ σ1 ∧ (True))) 0 0 (th_A b0) := by
  induction n with
  | zero => intro l G y b0 σ E hO a h_a b h_b i ri lv rlv l_lv u_lv hn; exact absurd hn (Nat.not_lt_zero _)
  | succ n ih =>
    intro l G y b0 σ E hO a h_a b h_b i ri lv rlv l_lv u_lv hn
    refine Met.ofW (cc := cX7_writeThing) (maxL := 5) (ret := none) (by decide) rfl ?_
    intro p e s m args below meth c s₁ B hml hv
    obtain ⟨rfl, hH, hK⟩ := hv
    have hx := B.exec
    have hb := B.bytes
    have hr := B.returns
    have hts := atoms_spec (ws := wsX7_writeThing) B.pre
    have hown : s.vm.findClass RX7 = some m.cls := findClass_of_methodNamed B.named
    have hlocks := B.notSynchronized
    have h00 : b0 ≤ s.heap.size := hH.1
    have hS : va_S (th_A b0) s.heap s.heap [] := va_S.rf
    have hF : fr [8] E σ σ := fr.rf
    have hl := lv_entry ([.ref a, .ref b, .int (I i), .int (I lv)]) (n := 5) (Nat.le_of_ble_eq_true rfl)
    rw [lg_entry_eq]
    generalize (lg_sl ([.ref a, .ref b, .int (I i), .int (I lv)]) ++ List.replicate (5 - (lg_sl ([.ref a, .ref b, .int (I i), .int (I lv)])).length) Slot.unset).toArray = ls at hl ⊢
    have hl : lv_has ls 5 [(0, .ref a), (1, .ref b), (2, .int (I i)), (3, .int (I lv))] := hl
    refine lv_aload_n hx hb dX7_writeThing_0 rfl (lv_at hl 1 rfl) ?_
    refine lv_iload_n hx hb dX7_writeThing_1 rfl (lv_at hl 2 rfl) ?_
    obtain ⟨z_1, e_2, rz_1, lz_1, uz_1⟩ := hO.gi h_b (by decide) k1_4
    obtain ⟨_, hc_3⟩ := hO.cell h_b (by decide) (ci := 9) rfl
    refine th_calli (va_runV (As := [.int (I i)]) (rest := []) ⟨hx, hb, hml, hown, hts⟩ (t_kindAt l G y b0 σ b (tvE E σ b 60) i (hO.isT1 h_b) (show rng i from ri)) (cwV 1 hts gX7_writeThing_X9_kindAt rfl rfl rfl (by decide +kernel) ⟨(by first | (simp only [headSpec]; omega) | omega | (dsimp only; omega)), (by first | (simp only [headSpec]; omega) | omega | (dsimp only; omega))⟩) (th_PV hK hH rfl hc_3) rfl rfl hl.1 rfl (lv_room (Nat.le_of_ble_eq_true rfl)) dX7_writeThing_2 ⟨(by first | (simp only [headSpec]; omega) | omega | (dsimp only; omega)), (by first | (simp only [headSpec]; omega) | omega | (dsimp only; omega))⟩) hS (fun z_6 σ_s_5 H locs rz_6 hw_4 hH hS => ?_)
    obtain ⟨e9, hw_4⟩ := hw_4
    replace e9 := e9.symm
    subst e9
    have hw_4 : (0 ≤ i ∧ i < (gI σ b 4)) ∨ z_6 = -1 := hw_4
    refine lv_istore (lv' := [(4, .int (I z_6)), (0, .ref a), (1, .ref b), (2, .int (I i)), (3, .int (I lv))]) hx hb dX7_writeThing_5 hl (by decide) rfl (fun ls hl => ?_)
    refine lv_iload hx hb dX7_writeThing_7 (lv_at hl 0 rfl) ?_
    refine lv_if_ne (tgt := 24) hx hb dX7_writeThing_9 (by decide) (fun c_7 => ?_) (fun c_7 => ?_)
    · replace c_7 := mt (I_eq (a := z_6) (b := 0) rz_6 (show rng 0 from ⟨by decide, by decide⟩)).mpr c_7
      refine lv_iload hx hb dX7_writeThing_24 (lv_at hl 0 rfl) ?_
      refine lv_iconst (v := I 1) hx hb dX7_writeThing_26 (by decide) ?_
      refine lv_icmp_ne (tgt := 42) hx hb dX7_writeThing_27 (by decide) (fun c_8 => ?_) (fun c_8 => ?_)
      · replace c_8 := mt (I_eq (a := z_6) (b := 1) rz_6 (show rng 1 from ⟨by decide, by decide⟩)).mpr c_8
        refine lv_iload_n hx hb dX7_writeThing_42 rfl (lv_at hl 4 rfl) ?_
        refine lv_bipush (v := I 16) hx hb dX7_writeThing_43 (by decide) ?_
        refine lv_icmp_gt (tgt := 55) hx hb dX7_writeThing_45 (by decide) (fun c_9 => ?_) (fun c_9 => ?_)
        · replace c_9 := (I_lt (a := 16) (b := lv) (show rng 16 from ⟨by decide, by decide⟩) rlv).mp c_9
          exact th_vret hx hb hr hlocks hH hS ⟨hO, hF, trivial⟩ dX7_writeThing_55
        · replace c_9 := mt (I_lt (a := 16) (b := lv) (show rng 16 from ⟨by decide, by decide⟩) rlv).mpr c_9
          refine lv_aload_n hx hb dX7_writeThing_48 rfl (lv_at hl 1 rfl) ?_
          refine lv_aload_n hx hb dX7_writeThing_49 rfl (lv_at hl 2 rfl) ?_
          refine lv_iload_n hx hb dX7_writeThing_50 rfl (lv_at hl 3 rfl) ?_
          refine lv_iload_n hx hb dX7_writeThing_51 rfl (lv_at hl 4 rfl) ?_
          obtain ⟨_, hc_10⟩ := hO.cell h_a (by decide) (ci := 7) rfl
          refine th_callv (va_runV (As := [.ref b, .int (I i), .int (I lv)]) (rest := []) ⟨hx, hb, hml, hown, hts⟩ (o_holder n ih l G y b0 σ E hO a h_a b h_b i (show rng i from ri) lv (show rng lv from rlv) (by omega) (by omega) (by omega)) (cwV 3 hts gX7_writeThing_X7_writeHolder rfl rfl rfl (by decide +kernel) ⟨(by first | (simp only [headSpec]; omega) | omega | (dsimp only; omega)), (by first | (simp only [headSpec]; omega) | omega | (dsimp only; omega))⟩) (th_PV hK hH rfl hc_10) rfl rfl hl.1 rfl (lv_room (Nat.le_of_ble_eq_true rfl)) dX7_writeThing_52 ⟨(by first | (simp only [headSpec]; omega) | omega | (dsimp only; omega)), (by first | (simp only [headSpec]; omega) | omega | (dsimp only; omega))⟩) hS (fun σ_s_12 H locs hw_11 hH hS => ?_)
          obtain ⟨hO9, hF9, hw_11⟩ := hw_11
          have e_13 : gI σ_s_12 b 4 = z_1 := (fr.ki hO hF9 h_b (by decide) (by decide) _).trans e_2
          replace hO := hO9
          replace hF := hF.tu hF9 (by decide)
          exact th_vret hx hb hr hlocks hH hS ⟨hO, hF, trivial⟩ dX7_writeThing_55
      · replace c_8 := (I_eq (a := z_6) (b := 1) rz_6 (show rng 1 from ⟨by decide, by decide⟩)).mp c_8
        refine lv_aload_n hx hb dX7_writeThing_30 rfl (lv_at hl 1 rfl) ?_
        refine lv_aload_n hx hb dX7_writeThing_31 rfl (lv_at hl 2 rfl) ?_
        refine lv_iload_n hx hb dX7_writeThing_32 rfl (lv_at hl 3 rfl) ?_
        obtain ⟨_, hc_14⟩ := hO.cell h_b (by decide) (ci := 9) rfl
        refine th_calli (va_runV (As := [.int (I i)]) (rest := [.ref a]) ⟨hx, hb, hml, hown, hts⟩ (t_valueAt l G y b0 σ b (tvE E σ b 60) i (hO.isT1 h_b) (show rng i from ri)) (cwV 1 hts gX7_writeThing_X9_valueAt rfl rfl rfl (by decide +kernel) ⟨(by first | (simp only [headSpec]; omega) | omega | (dsimp only; omega)), (by first | (simp only [headSpec]; omega) | omega | (dsimp only; omega))⟩) (th_PV hK hH rfl hc_14) rfl rfl hl.1 rfl (lv_room (Nat.le_of_ble_eq_true rfl)) dX7_writeThing_33 ⟨(by first | (simp only [headSpec]; omega) | omega | (dsimp only; omega)), (by first | (simp only [headSpec]; omega) | omega | (dsimp only; omega))⟩) hS (fun z_17 σ_s_16 H locs rz_17 hw_15 hH hS => ?_)
        obtain ⟨e9, hw_15⟩ := hw_15
        replace e9 := e9.symm
        subst e9
        obtain ⟨_, hc_18⟩ := hO.cell h_a (by decide) (ci := 7) rfl
        refine th_callv (va_runV (As := [.int (I z_17)]) (rest := []) ⟨hx, hb, hml, hown, hts⟩ (o_word l G y b0 σ E hO a h_a z_17 (show rng z_17 from rz_17)) (cwV 1 hts gX7_writeThing_X7_writeWord rfl rfl rfl (by decide +kernel) ⟨(by first | (simp only [headSpec]; omega) | omega | (dsimp only; omega)), (by first | (simp only [headSpec]; omega) | omega | (dsimp only; omega))⟩) (th_PV hK hH rfl hc_18) rfl rfl hl.1 rfl (lv_room (Nat.le_of_ble_eq_true rfl)) dX7_writeThing_36 ⟨(by first | (simp only [headSpec]; omega) | omega | (dsimp only; omega)), (by first | (simp only [headSpec]; omega) | omega | (dsimp only; omega))⟩) hS (fun σ_s_20 H locs hw_19 hH hS => ?_)
        obtain ⟨hO9, hF9, hw_19⟩ := hw_19
        have e_21 : gI σ_s_20 b 4 = z_1 := (fr.ki hO hF9 h_b (by decide) (by decide) _).trans e_2
        replace hO := hO9
        replace hF := hF.tu hF9 (by decide)
        refine lv_goto (tgt := 55) hx hb dX7_writeThing_39 (by decide) ?_
        exact th_vret hx hb hr hlocks hH hS ⟨hO, hF, trivial⟩ dX7_writeThing_55
    · replace c_7 := (I_eq (a := z_6) (b := 0) rz_6 (show rng 0 from ⟨by decide, by decide⟩)).mp c_7
      refine lv_aload_n hx hb dX7_writeThing_12 rfl (lv_at hl 1 rfl) ?_
      refine lv_aload_n hx hb dX7_writeThing_13 rfl (lv_at hl 2 rfl) ?_
      refine lv_iload_n hx hb dX7_writeThing_14 rfl (lv_at hl 3 rfl) ?_
      obtain ⟨_, hc_22⟩ := hO.cell h_b (by decide) (ci := 9) rfl
      refine th_calli (va_runV (As := [.int (I i)]) (rest := [.ref a]) ⟨hx, hb, hml, hown, hts⟩ (t_valueAt l G y b0 σ b (tvE E σ b 60) i (hO.isT1 h_b) (show rng i from ri)) (cwV 1 hts gX7_writeThing_X9_valueAt rfl rfl rfl (by decide +kernel) ⟨(by first | (simp only [headSpec]; omega) | omega | (dsimp only; omega)), (by first | (simp only [headSpec]; omega) | omega | (dsimp only; omega))⟩) (th_PV hK hH rfl hc_22) rfl rfl hl.1 rfl (lv_room (Nat.le_of_ble_eq_true rfl)) dX7_writeThing_15 ⟨(by first | (simp only [headSpec]; omega) | omega | (dsimp only; omega)), (by first | (simp only [headSpec]; omega) | omega | (dsimp only; omega))⟩) hS (fun z_25 σ_s_24 H locs rz_25 hw_23 hH hS => ?_)
      obtain ⟨e9, hw_23⟩ := hw_23
      replace e9 := e9.symm
      subst e9
      obtain ⟨_, hc_26⟩ := hO.cell h_a (by decide) (ci := 7) rfl
      refine th_callv (va_runV (As := [.int (I z_25)]) (rest := []) ⟨hx, hb, hml, hown, hts⟩ (o_number l G y b0 σ E hO a h_a z_25 (show rng z_25 from rz_25)) (cwV 1 hts gX7_writeThing_X7_writeNumber rfl rfl rfl (by decide +kernel) ⟨(by first | (simp only [headSpec]; omega) | omega | (dsimp only; omega)), (by first | (simp only [headSpec]; omega) | omega | (dsimp only; omega))⟩) (th_PV hK hH rfl hc_26) rfl rfl hl.1 rfl (lv_room (Nat.le_of_ble_eq_true rfl)) dX7_writeThing_18 ⟨(by first | (simp only [headSpec]; omega) | omega | (dsimp only; omega)), (by first | (simp only [headSpec]; omega) | omega | (dsimp only; omega))⟩) hS (fun σ_s_28 H locs hw_27 hH hS => ?_)
      obtain ⟨hO9, hF9, hw_27⟩ := hw_27
      have e_29 : gI σ_s_28 b 4 = z_1 := (fr.ki hO hF9 h_b (by decide) (by decide) _).trans e_2
      replace hO := hO9
      replace hF := hF.tu hF9 (by decide)
      refine lv_goto (tgt := 55) hx hb dX7_writeThing_21 (by decide) ?_
      exact th_vret hx hb hr hlocks hH hS ⟨hO, hF, trivial⟩ dX7_writeThing_55
