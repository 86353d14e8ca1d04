set_option maxHeartbeats 1000000 in
set_option maxRecDepth 100000 in
theorem t1_deepest (l : Launch) (G : va_G) (y : Nat → ClassId) (b0 : Nat) (σ : th_M) (E : th_E) (hO : ok y E σ) (a : Nat) (h_a : kd E a = 1) : Met l yX9_deepest wsX9_deepest ({ frames := 1, cells := 0, slots := 0, locals := 40 }) (th_P G y b0 σ [.ref a]) (th_Qi G b0 (fun r σ1 => σ1 = σ ∧ (0 ≤ r))) 0 0 (th_A b0) := by
  refine Met.ofW (cc := cX9_deepest) (maxL := 3) (ret := (some .int)) (by decide) rfl ?_
  intro p e s m args below meth c s₁ B hml hv
  obtain ⟨rfl, hH, hK⟩ := hv
  have hx := B.exec
  have hb := B.bytes
  have hr := B.returns
  have hts := atoms_spec (ws := wsX9_deepest) B.pre
  have hown : s.vm.findClass RX9 = some m.cls := findClass_of_methodNamed B.named
  have hlocks := B.notSynchronized
  have h00 : b0 ≤ s.heap.size := hH.1
  have hS : va_S (th_A b0) s.heap s.heap [] := va_S.rf
  have inX9 : ∀ w ∈ wsX90, w ∈ wsX9_deepest := by decide +kernel
  have fl0 := hts (.fieldLink RX9 24 "NestQuery$Tree" "size" "I") (by decide +kernel)
  have fl1 := hts (.fieldLink RX9 21 "NestQuery$Tree" "depths" "[I") (by decide +kernel)
  have fl2 := hts (.methodLink RX9 32 Lib.Math.max.name) (by decide +kernel)
  have fl3 := hts (.static Lib.Math.max.name) (by decide +kernel)
  have fl4 := hts (.initialized "java/lang/Math") (by decide +kernel)
  have fl5 := hts (.code Lib.Math.max.name Lib.Math.max.code 2 (some .int)) (by decide +kernel)
  have hl := lv_entry ([.ref a]) (n := 3) (Nat.le_of_ble_eq_true rfl)
  rw [lg_entry_eq]
  generalize (lg_sl ([.ref a]) ++ List.replicate (3 - (lg_sl ([.ref a])).length) Slot.unset).toArray = ls at hl ⊢
  have hl : lv_has ls 3 [(0, .ref a)] := hl
  refine lv_iconst (v := I 0) hx hb dX9_deepest_0 (by decide) ?_
  refine lv_istore_n (lv' := [(1, .int (I 0)), (0, .ref a)]) hx hb dX9_deepest_1 rfl hl (by decide) rfl (fun ls hl => ?_)
  refine lv_iconst (v := I 0) hx hb dX9_deepest_2 (by decide) ?_
  refine lv_istore_n (lv' := [(2, .int (I 0)), (1, .int (I 0)), (0, .ref a)]) hx hb dX9_deepest_3 rfl hl (by decide) rfl (fun ls hl => ?_)
  refine th_loop (α := Int × Int) (pc := 4) (fun x9 => (128 - x9.2).toNat) (fun x9 σ9 H9 l9 ls9 => σ9 = σ ∧ th_H G b0 σ9 H9 ∧ va_S (th_A b0) s.heap H9 l9 ∧ lv_has ls9 3 [(0, .ref a), (1, .int (I x9.1)), (2, .int (I x9.2))] ∧ rng x9.1 ∧ rng x9.2 ∧ (0 ≤ x9.2) ∧ (0 ≤ x9.1)) ?_ (0, 0) σ _ _ _ ⟨rfl, hH, hS, lv_sub hl [2, 1, 0] rfl, (show rng 0 from ⟨by decide, by decide⟩), (show rng 0 from ⟨by decide, by decide⟩), by first | omega | (dsimp only; omega), by first | omega | (dsimp only; omega)⟩
  intro x9 σ_J_8 H locs ls hI9 ihJ_8
  obtain ⟨v1q7, v2q7⟩ := x9
  obtain ⟨eJ_8, hH, hS, hl, rv1q7, rv2q7, J_8_0, J_8_1⟩ := hI9
  replace eJ_8 := eJ_8.symm
  subst eJ_8
  have hl : lv_has ls 3 [(0, .ref a), (1, .int (I v1q7)), (2, .int (I v2q7))] := hl
  have rv1q7 : rng v1q7 := rv1q7
  have rv2q7 : rng v2q7 := rv2q7
  have J_8_0 : 0 ≤ v2q7 := J_8_0
  have J_8_1 : 0 ≤ v1q7 := J_8_1
  refine lv_iload_n hx hb dX9_deepest_4 rfl (lv_at hl 2 rfl) ?_
  refine lv_aload_n hx hb dX9_deepest_5 rfl (lv_at hl 0 rfl) ?_
  refine ok.getI hO h_a (by decide) k1_4 (fun _ _ he hv kk => th_get (ci := 9) (C := RX9) (T := TX9) (N := 5) hx hb hts inX9 hown hK hH he rfl 4 (by decide) fl0 hv dX9_deepest_6 kk) (fun z_9 e_10 rz_9 lz_9 uz_9 => ?_)
  refine lv_icmp_ge (tgt := 29) hx hb dX9_deepest_9 (by decide) (fun c_11 => ?_) (fun c_11 => ?_)
  · replace c_11 := (I_le (a := z_9) (b := v2q7) rz_9 rv2q7).mp c_11
    refine lv_iload_n hx hb dX9_deepest_29 rfl (lv_at hl 1 rfl) ?_
    exact th_iret hx hb hr hlocks hH hS (z := v1q7) rv1q7 ⟨rfl, by omega⟩ dX9_deepest_30
  · replace c_11 := mt (I_le (a := z_9) (b := v2q7) rz_9 rv2q7).mpr c_11
    refine lv_iload_n hx hb dX9_deepest_12 rfl (lv_at hl 1 rfl) ?_
    refine lv_aload_n hx hb dX9_deepest_13 rfl (lv_at hl 0 rfl) ?_
    refine ok.getR hO h_a (by decide) k1_3 (by decide) (fun _ _ he hv kk => th_get (ci := 9) (C := RX9) (T := TX9) (N := 5) hx hb hts inX9 hown hK hH he rfl 3 (by decide) fl1 hv dX9_deepest_14 kk) ?_
    refine lv_iload_n hx hb dX9_deepest_17 rfl (lv_at hl 2 rfl) ?_
    refine ok_iald hx hb hK hH hO h_a (by decide) k1_3 isA7 rv2q7 (by omega) (by omega) dX9_deepest_18 (fun z_12 ez_12 rz_12 el9 => ?_)
    have uz_12 := el9.1 rfl
    refine va_mmax hx hb (by rw [hml]; exact hl.1.symm) hown fl2 fl3 fl4 fl5 (Nat.le_of_ble_eq_true rfl) (Nat.le_of_ble_eq_true rfl) (Nat.zero_le _) (Nat.zero_le _) dX9_deepest_19 ?_
    refine th_mmax rv1q7 rz_12 (fun z_13 rz_13 hz_13 => ?_)
    refine lv_istore_n (lv' := [(1, .int (I z_13)), (0, .ref a), (2, .int (I v2q7))]) hx hb dX9_deepest_22 rfl hl (by decide) rfl (fun ls hl => ?_)
    refine lv_iinc (v := I (v2q7 + 1)) (lv' := [(2, .int (I (v2q7 + 1))), (1, .int (I z_13)), (0, .ref a)]) hx hb dX9_deepest_23 hl (k := 2) rfl (I_add _ _) (by decide) rfl (fun ls hl => ?_)
    refine lv_goto (tgt := 4) hx hb dX9_deepest_26 (by decide) ?_
    exact ihJ_8 (z_13, v2q7 + 1) σ _ _ _ (by first | omega | (dsimp only; omega)) ⟨rfl, hH, hS, lv_sub hl [2, 1, 0] rfl, rz_13, ⟨by first | omega | (dsimp only; omega), by first | omega | (dsimp only; omega)⟩, by first | omega | (dsimp only; omega), by first | omega | (dsimp only; omega)⟩

set_option maxHeartbeats 1000000 in
set_option maxRecDepth 100000 in
theorem t2_deepest (l : Launch) (G : va_G) (y : Nat → ClassId) (b0 : Nat) (σ : th_M) (E : th_E) (hO : ok y E σ) (a : Nat) (h_a : kd E a = 2) : Met l yX9_deepest wsX9_deepest ({ frames := 1, cells := 0, slots := 0, locals := 40 }) (th_P G y b0 σ [.ref a]) (th_Qi G b0 (fun r σ1 => σ1 = σ ∧ (0 ≤ r ∧ (∀ q : Nat, (q : Int) < gI σ a 4 → (aF σ (ad E a 3) q).toInt ≤ r)))) 0 0 (th_A b0) := by
  refine Met.ofW (cc := cX9_deepest) (maxL := 3) (ret := (some .int)) (by decide) rfl ?_
  intro p e s m args below meth c s₁ B hml hv
  obtain ⟨rfl, hH, hK⟩ := hv
  have hx := B.exec
  have hb := B.bytes
  have hr := B.returns
  have hts := atoms_spec (ws := wsX9_deepest) B.pre
  have hown : s.vm.findClass RX9 = some m.cls := findClass_of_methodNamed B.named
  have hlocks := B.notSynchronized
  have h00 : b0 ≤ s.heap.size := hH.1
  have hS : va_S (th_A b0) s.heap s.heap [] := va_S.rf
  have inX9 : ∀ w ∈ wsX90, w ∈ wsX9_deepest := by decide +kernel
  have fl0 := hts (.fieldLink RX9 24 "NestQuery$Tree" "size" "I") (by decide +kernel)
  have fl1 := hts (.fieldLink RX9 21 "NestQuery$Tree" "depths" "[I") (by decide +kernel)
  have fl2 := hts (.methodLink RX9 32 Lib.Math.max.name) (by decide +kernel)
  have fl3 := hts (.static Lib.Math.max.name) (by decide +kernel)
  have fl4 := hts (.initialized "java/lang/Math") (by decide +kernel)
  have fl5 := hts (.code Lib.Math.max.name Lib.Math.max.code 2 (some .int)) (by decide +kernel)
  have hl := lv_entry ([.ref a]) (n := 3) (Nat.le_of_ble_eq_true rfl)
  rw [lg_entry_eq]
  generalize (lg_sl ([.ref a]) ++ List.replicate (3 - (lg_sl ([.ref a])).length) Slot.unset).toArray = ls at hl ⊢
  have hl : lv_has ls 3 [(0, .ref a)] := hl
  obtain ⟨a40, ea40, ra40, la40, ua40⟩ := hO.gi h_a (by decide) k2_4
  refine lv_iconst (v := I 0) hx hb dX9_deepest_0 (by decide) ?_
  refine lv_istore_n (lv' := [(1, .int (I 0)), (0, .ref a)]) hx hb dX9_deepest_1 rfl hl (by decide) rfl (fun ls hl => ?_)
  refine lv_iconst (v := I 0) hx hb dX9_deepest_2 (by decide) ?_
  refine lv_istore_n (lv' := [(2, .int (I 0)), (1, .int (I 0)), (0, .ref a)]) hx hb dX9_deepest_3 rfl hl (by decide) rfl (fun ls hl => ?_)
  refine th_loop (α := Int × Int) (pc := 4) (fun x9 => (128 - x9.2).toNat) (fun x9 σ9 H9 l9 ls9 => σ9 = σ ∧ th_H G b0 σ9 H9 ∧ va_S (th_A b0) s.heap H9 l9 ∧ lv_has ls9 3 [(0, .ref a), (1, .int (I x9.1)), (2, .int (I x9.2))] ∧ rng x9.1 ∧ rng x9.2 ∧ (0 ≤ x9.2) ∧ (0 ≤ x9.1) ∧ (x9.2 ≤ gI σ a 4) ∧ (∀ q : Nat, (q : Int) < x9.2 → (aF σ (ad E a 3) q).toInt ≤ x9.1)) ?_ (0, 0) σ _ _ _ ⟨rfl, hH, hS, lv_sub hl [2, 1, 0] rfl, (show rng 0 from ⟨by decide, by decide⟩), (show rng 0 from ⟨by decide, by decide⟩), by first | omega | (dsimp only; omega), by first | omega | (dsimp only; omega), by first | omega | (dsimp only; omega), deep_0⟩
  intro x9 σ_J_6 H locs ls hI9 ihJ_6
  obtain ⟨v1q5, v2q5⟩ := x9
  obtain ⟨eJ_6, hH, hS, hl, rv1q5, rv2q5, J_6_0, J_6_1, J_6_2, J_6_3⟩ := hI9
  replace eJ_6 := eJ_6.symm
  subst eJ_6
  have hl : lv_has ls 3 [(0, .ref a), (1, .int (I v1q5)), (2, .int (I v2q5))] := hl
  have rv1q5 : rng v1q5 := rv1q5
  have rv2q5 : rng v2q5 := rv2q5
  have J_6_0 : 0 ≤ v2q5 := J_6_0
  have J_6_1 : 0 ≤ v1q5 := J_6_1
  have J_6_2 : v2q5 ≤ gI σ a 4 := J_6_2
  have J_6_3 : ∀ q : Nat, (q : Int) < v2q5 → (aF σ (ad E a 3) q).toInt ≤ v1q5 := J_6_3
  refine lv_iload_n hx hb dX9_deepest_4 rfl (lv_at hl 2 rfl) ?_
  refine lv_aload_n hx hb dX9_deepest_5 rfl (lv_at hl 0 rfl) ?_
  refine ok.getIc hO h_a (by decide) k2_4 ea40 (fun _ _ he hv kk => th_get (ci := 9) (C := RX9) (T := TX9) (N := 5) hx hb hts inX9 hown hK hH he rfl 4 (by decide) fl0 hv dX9_deepest_6 kk) ?_
  refine lv_icmp_ge (tgt := 29) hx hb dX9_deepest_9 (by decide) (fun c_7 => ?_) (fun c_7 => ?_)
  · replace c_7 := (I_le (a := a40) (b := v2q5) ra40 rv2q5).mp c_7
    refine lv_iload_n hx hb dX9_deepest_29 rfl (lv_at hl 1 rfl) ?_
    exact th_iret hx hb hr hlocks hH hS (z := v1q5) rv1q5 ⟨rfl, ⟨by omega, fun q9 hq9 => J_6_3 q9 (by omega)⟩⟩ dX9_deepest_30
  · replace c_7 := mt (I_le (a := a40) (b := v2q5) ra40 rv2q5).mpr c_7
    refine lv_iload_n hx hb dX9_deepest_12 rfl (lv_at hl 1 rfl) ?_
    refine lv_aload_n hx hb dX9_deepest_13 rfl (lv_at hl 0 rfl) ?_
    refine ok.getR hO h_a (by decide) k2_3 (by decide) (fun _ _ he hv kk => th_get (ci := 9) (C := RX9) (T := TX9) (N := 5) hx hb hts inX9 hown hK hH he rfl 3 (by decide) fl1 hv dX9_deepest_14 kk) ?_
    refine lv_iload_n hx hb dX9_deepest_17 rfl (lv_at hl 2 rfl) ?_
    refine ok_iald hx hb hK hH hO h_a (by decide) k2_3 isA1 rv2q5 (by omega) (by omega) dX9_deepest_18 (fun z_8 ez_8 rz_8 el9 => ?_)
    refine va_mmax hx hb (by rw [hml]; exact hl.1.symm) hown fl2 fl3 fl4 fl5 (Nat.le_of_ble_eq_true rfl) (Nat.le_of_ble_eq_true rfl) (Nat.zero_le _) (Nat.zero_le _) dX9_deepest_19 ?_
    refine th_mmax rv1q5 rz_8 (fun z_9 rz_9 hz_9 => ?_)
    refine lv_istore_n (lv' := [(1, .int (I z_9)), (0, .ref a), (2, .int (I v2q5))]) hx hb dX9_deepest_22 rfl hl (by decide) rfl (fun ls hl => ?_)
    refine lv_iinc (v := I (v2q5 + 1)) (lv' := [(2, .int (I (v2q5 + 1))), (1, .int (I z_9)), (0, .ref a)]) hx hb dX9_deepest_23 hl (k := 2) rfl (I_add _ _) (by decide) rfl (fun ls hl => ?_)
    refine lv_goto (tgt := 4) hx hb dX9_deepest_26 (by decide) ?_
    exact ihJ_6 (z_9, v2q5 + 1) σ _ _ _ (by first | omega | (dsimp only; omega)) ⟨rfl, hH, hS, lv_sub hl [2, 1, 0] rfl, rz_9, ⟨by first | omega | (dsimp only; omega), by first | omega | (dsimp only; omega)⟩, by first | omega | (dsimp only; omega), by first | omega | (dsimp only; omega), by first | omega | (dsimp only; omega), deep_s J_6_3 ez_8 (by omega) (by omega) (by omega)⟩

set_option maxHeartbeats 1000000 in
set_option maxRecDepth 100000 in
theorem t12_become (l : Launch) (G : va_G) (y : Nat → ClassId) (b0 : Nat) (σ : th_M) (E : th_E) (hO : ok y E σ) (a : Nat) (h_a : kd E a = 1) (b : Nat) (h_b : kd E b = 2) (hy0 : ∀ q : Nat, (q : Int) < gI σ b 4 → (aF σ (ad E b 3) q).toInt ≤ 7) : Met l yX9_become wsX9_become ({ frames := 1, cells := 0, slots := 0, locals := 60 }) (th_P G y b0 σ [.ref a, .ref b]) (th_Qv G b0 (fun σ1 => ok y E σ1 ∧ fr [1] E σ σ1 ∧ (True))) 0 0 (th_A b0) := by
  refine Met.ofW (cc := cX9_become) (maxL := 3) (ret := none) (by decide) rfl ?_
  intro p e s m args below meth c s₁ B hml hv
  obtain ⟨rfl, hH, hK⟩ := hv
  have hx := B.exec
  have hb := B.bytes
  have hr := B.returns
  have hts := atoms_spec (ws := wsX9_become) B.pre
  have hown : s.vm.findClass RX9 = some m.cls := findClass_of_methodNamed B.named
  have hlocks := B.notSynchronized
  have h00 : b0 ≤ s.heap.size := hH.1
  have hS : va_S (th_A b0) s.heap s.heap [] := va_S.rf
  have hF : fr [1] E σ σ := fr.rf
  have hO0 := hO
  have inX9 : ∀ w ∈ wsX90, w ∈ wsX9_become := by decide +kernel
  have fl0 := hts (.fieldLink RX9 24 "NestQuery$Tree" "size" "I") (by decide +kernel)
  have fl1 := hts (.fieldLink RX9 9 "NestQuery$Tree" "kinds" "[I") (by decide +kernel)
  have fl2 := hts (.methodLink RX9 60 arraycopyName) (by decide +kernel)
  have fl3 := hts (.native arraycopyName) (by decide +kernel)
  have fl4 := hts (.static arraycopyName) (by decide +kernel)
  have fl5 := hts (.initialized "java/lang/System") (by decide +kernel)
  have fl6 := hts (.fieldLink RX9 15 "NestQuery$Tree" "values" "[I") (by decide +kernel)
  have fl7 := hts (.fieldLink RX9 18 "NestQuery$Tree" "keys" "[I") (by decide +kernel)
  have fl8 := hts (.fieldLink RX9 21 "NestQuery$Tree" "depths" "[I") (by decide +kernel)
  have hl := lv_entry ([.ref a, .ref b]) (n := 3) (Nat.le_of_ble_eq_true rfl)
  rw [lg_entry_eq]
  generalize (lg_sl ([.ref a, .ref b]) ++ List.replicate (3 - (lg_sl ([.ref a, .ref b])).length) Slot.unset).toArray = ls at hl ⊢
  have hl : lv_has ls 3 [(0, .ref a), (1, .ref b)] := hl
  refine lv_aload_n hx hb dX9_become_0 rfl (lv_at hl 1 rfl) ?_
  refine ok.getI hO h_b (by decide) k2_4 (fun _ _ he hv kk => th_get (ci := 9) (C := RX9) (T := TX9) (N := 5) hx hb hts inX9 hown hK hH he rfl 4 (by decide) fl0 hv dX9_become_1 kk) (fun z_1 e_2 rz_1 lz_1 uz_1 => ?_)
  refine lv_istore_n (lv' := [(2, .int (I z_1)), (0, .ref a), (1, .ref b)]) hx hb dX9_become_4 rfl hl (by decide) rfl (fun ls hl => ?_)
  refine lv_iload_n hx hb dX9_become_5 rfl (lv_at hl 0 rfl) ?_
  refine lv_if_lt (tgt := 88) hx hb dX9_become_6 (by decide) (fun c_3 => ?_) (fun c_3 => ?_)
  · replace c_3 := (I_lt (a := z_1) (b := 0) rz_1 (show rng 0 from ⟨by decide, by decide⟩)).mp c_3
    exact th_vret hx hb hr hlocks hH hS ⟨hO, hF, trivial⟩ dX9_become_88
  · replace c_3 := mt (I_lt (a := z_1) (b := 0) rz_1 (show rng 0 from ⟨by decide, by decide⟩)).mpr c_3
    refine lv_iload_n hx hb dX9_become_9 rfl (lv_at hl 0 rfl) ?_
    refine lv_aload_n hx hb dX9_become_10 rfl (lv_at hl 1 rfl) ?_
    refine ok.getR hO h_a (by decide) k1_0 (by decide) (fun _ _ he hv kk => th_get (ci := 9) (C := RX9) (T := TX9) (N := 5) hx hb hts inX9 hown hK hH he rfl 0 (by decide) fl1 hv dX9_become_11 kk) ?_
    refine ok_alen hx hb hK hH hO h_a (by decide) k1_0 isA1 (by decide) dX9_become_14 ?_
    refine lv_icmp_gt (tgt := 88) hx hb dX9_become_15 (by decide) (fun c_4 => ?_) (fun c_4 => ?_)
    · replace c_4 := (I_lt (a := 60) (b := z_1) (show rng 60 from ⟨by decide, by decide⟩) rz_1).mp c_4
      exact th_vret hx hb hr hlocks hH hS ⟨hO, hF, trivial⟩ dX9_become_88
    · replace c_4 := mt (I_lt (a := 60) (b := z_1) (show rng 60 from ⟨by decide, by decide⟩) rz_1).mpr c_4
      refine lv_iload_n hx hb dX9_become_18 rfl (lv_at hl 0 rfl) ?_
      refine lv_aload_n hx hb dX9_become_19 rfl (lv_at hl 2 rfl) ?_
      refine ok.getR hO h_b (by decide) k2_0 (by decide) (fun _ _ he hv kk => th_get (ci := 9) (C := RX9) (T := TX9) (N := 5) hx hb hts inX9 hown hK hH he rfl 0 (by decide) fl1 hv dX9_become_20 kk) ?_
      refine ok_alen hx hb hK hH hO h_b (by decide) k2_0 isA1 (by decide) dX9_become_23 ?_
      refine lv_icmp_gt (tgt := 88) hx hb dX9_become_24 (by decide) (fun c_5 => ?_) (fun c_5 => ?_)
      · replace c_5 := (I_lt (a := 128) (b := z_1) (show rng 128 from ⟨by decide, by decide⟩) rz_1).mp c_5
        exact th_vret hx hb hr hlocks hH hS ⟨hO, hF, trivial⟩ dX9_become_88
      · replace c_5 := mt (I_lt (a := 128) (b := z_1) (show rng 128 from ⟨by decide, by decide⟩) rz_1).mpr c_5
        refine lv_aload_n hx hb dX9_become_27 rfl (lv_at hl 2 rfl) ?_
        refine ok.getR hO h_b (by decide) k2_0 (by decide) (fun _ _ he hv kk => th_get (ci := 9) (C := RX9) (T := TX9) (N := 5) hx hb hts inX9 hown hK hH he rfl 0 (by decide) fl1 hv dX9_become_28 kk) ?_
        refine lv_iconst (v := I 0) hx hb dX9_become_31 (by decide) ?_
        refine lv_aload_n hx hb dX9_become_32 rfl (lv_at hl 1 rfl) ?_
        refine ok.getR hO h_a (by decide) k1_0 (by decide) (fun _ _ he hv kk => th_get (ci := 9) (C := RX9) (T := TX9) (N := 5) hx hb hts inX9 hown hK hH he rfl 0 (by decide) fl1 hv dX9_become_33 kk) ?_
        refine lv_iconst (v := I 0) hx hb dX9_become_36 (by decide) ?_
        refine lv_iload_n hx hb dX9_become_37 rfl (lv_at hl 0 rfl) ?_
        refine ok_copy hx hb (by rw [hml]; exact hl.1.symm) hown fl2 fl3 fl4 fl5 hK hH hS h00 hO h_a (by decide) k1_0 isA1 h_b (by decide) k2_0 isA1 (show rng 0 from ⟨by decide, by decide⟩) (show rng 0 from ⟨by decide, by decide⟩) rz_1 (by omega) (by omega) (by omega) (by omega) (by omega) (fun _ => el1) (Nat.le_of_ble_eq_true rfl) (Nat.le_of_ble_eq_true rfl) dX9_become_38 (fun σ_s_6 H locs hO hF9 hi9 hH hS => ?_)
        replace hF := hF.tu hF9 (by decide)
        have e_7 : gI σ_s_6 b 4 = z_1 := (hi9 _ _).trans e_2
        refine lv_aload_n hx hb dX9_become_41 rfl (lv_at hl 2 rfl) ?_
        refine ok.getR hO h_b (by decide) k2_1 (by decide) (fun _ _ he hv kk => th_get (ci := 9) (C := RX9) (T := TX9) (N := 5) hx hb hts inX9 hown hK hH he rfl 1 (by decide) fl6 hv dX9_become_42 kk) ?_
        refine lv_iconst (v := I 0) hx hb dX9_become_45 (by decide) ?_
        refine lv_aload_n hx hb dX9_become_46 rfl (lv_at hl 1 rfl) ?_
        refine ok.getR hO h_a (by decide) k1_1 (by decide) (fun _ _ he hv kk => th_get (ci := 9) (C := RX9) (T := TX9) (N := 5) hx hb hts inX9 hown hK hH he rfl 1 (by decide) fl6 hv dX9_become_47 kk) ?_
        refine lv_iconst (v := I 0) hx hb dX9_become_50 (by decide) ?_
        refine lv_iload_n hx hb dX9_become_51 rfl (lv_at hl 0 rfl) ?_
        refine ok_copy hx hb (by rw [hml]; exact hl.1.symm) hown fl2 fl3 fl4 fl5 hK hH hS h00 hO h_a (by decide) k1_1 isA1 h_b (by decide) k2_1 isA1 (show rng 0 from ⟨by decide, by decide⟩) (show rng 0 from ⟨by decide, by decide⟩) rz_1 (by omega) (by omega) (by omega) (by omega) (by omega) (fun _ => el1) (Nat.le_of_ble_eq_true rfl) (Nat.le_of_ble_eq_true rfl) dX9_become_52 (fun σ_s_8 H locs hO hF9 hi9 hH hS => ?_)
        replace hF := hF.tu hF9 (by decide)
        have e_9 : gI σ_s_8 b 4 = z_1 := (hi9 _ _).trans e_7
        refine lv_aload_n hx hb dX9_become_55 rfl (lv_at hl 2 rfl) ?_
        refine ok.getR hO h_b (by decide) k2_2 (by decide) (fun _ _ he hv kk => th_get (ci := 9) (C := RX9) (T := TX9) (N := 5) hx hb hts inX9 hown hK hH he rfl 2 (by decide) fl7 hv dX9_become_56 kk) ?_
        refine lv_iconst (v := I 0) hx hb dX9_become_59 (by decide) ?_
        refine lv_aload_n hx hb dX9_become_60 rfl (lv_at hl 1 rfl) ?_
        refine ok.getR hO h_a (by decide) k1_2 (by decide) (fun _ _ he hv kk => th_get (ci := 9) (C := RX9) (T := TX9) (N := 5) hx hb hts inX9 hown hK hH he rfl 2 (by decide) fl7 hv dX9_become_61 kk) ?_
        refine lv_iconst (v := I 0) hx hb dX9_become_64 (by decide) ?_
        refine lv_iload_n hx hb dX9_become_65 rfl (lv_at hl 0 rfl) ?_
        refine ok_copy hx hb (by rw [hml]; exact hl.1.symm) hown fl2 fl3 fl4 fl5 hK hH hS h00 hO h_a (by decide) k1_2 isA1 h_b (by decide) k2_2 isA1 (show rng 0 from ⟨by decide, by decide⟩) (show rng 0 from ⟨by decide, by decide⟩) rz_1 (by omega) (by omega) (by omega) (by omega) (by omega) (fun _ => el1) (Nat.le_of_ble_eq_true rfl) (Nat.le_of_ble_eq_true rfl) dX9_become_66 (fun σ_s_10 H locs hO hF9 hi9 hH hS => ?_)
        replace hF := hF.tu hF9 (by decide)
        have e_11 : gI σ_s_10 b 4 = z_1 := (hi9 _ _).trans e_9
        refine lv_aload_n hx hb dX9_become_69 rfl (lv_at hl 2 rfl) ?_
        refine ok.getR hO h_b (by decide) k2_3 (by decide) (fun _ _ he hv kk => th_get (ci := 9) (C := RX9) (T := TX9) (N := 5) hx hb hts inX9 hown hK hH he rfl 3 (by decide) fl8 hv dX9_become_70 kk) ?_
        refine lv_iconst (v := I 0) hx hb dX9_become_73 (by decide) ?_
        refine lv_aload_n hx hb dX9_become_74 rfl (lv_at hl 1 rfl) ?_
        refine ok.getR hO h_a (by decide) k1_3 (by decide) (fun _ _ he hv kk => th_get (ci := 9) (C := RX9) (T := TX9) (N := 5) hx hb hts inX9 hown hK hH he rfl 3 (by decide) fl8 hv dX9_become_75 kk) ?_
        refine lv_iconst (v := I 0) hx hb dX9_become_78 (by decide) ?_
        refine lv_iload_n hx hb dX9_become_79 rfl (lv_at hl 0 rfl) ?_
        refine ok_copy hx hb (by rw [hml]; exact hl.1.symm) hown fl2 fl3 fl4 fl5 hK hH hS h00 hO h_a (by decide) k1_3 isA7 h_b (by decide) k2_3 isA1 (show rng 0 from ⟨by decide, by decide⟩) (show rng 0 from ⟨by decide, by decide⟩) rz_1 (by omega) (by omega) (by omega) (by omega) (by omega) (va_cpy_el2 (fun q9 hq9 => el7 (ad_move hy0 hO0 hF h_b (by decide) q9 (by omega))) (hO.arr h_a (by decide) k1_3 isA7).2.2) (Nat.le_of_ble_eq_true rfl) (Nat.le_of_ble_eq_true rfl) dX9_become_80 (fun σ_s_12 H locs hO hF9 hi9 hH hS => ?_)
        replace hF := hF.tu hF9 (by decide)
        have e_13 : gI σ_s_12 b 4 = z_1 := (hi9 _ _).trans e_11
        refine lv_aload_n hx hb dX9_become_83 rfl (lv_at hl 1 rfl) ?_
        refine lv_iload_n hx hb dX9_become_84 rfl (lv_at hl 0 rfl) ?_
        refine ok.putI hO h_a (by decide) k1_4 rz_1 (by omega) (by omega) (fun _ he hl9 kk => th_put (ci := 9) (v := .int (I z_1)) (ty := .int) (C := RX9) (T := TX9) (N := 5) hx hb hts inX9 tyX9 tyX9_ok nmX9 hown hK hH hS h00 he rfl 4 (by decide) fl0 rfl (by decide +kernel) rfl rfl hl9 dX9_become_85 kk) (fun σ_s_14 H locs hO hF9 hg9 hi9 ha9 hH hS => ?_)
        replace hF := hF.tu hF9 (by decide)
        have e_15 := hg9
        exact th_vret hx hb hr hlocks hH hS ⟨hO, hF, trivial⟩ dX9_become_88

set_option maxHeartbeats 1000000 in
set_option maxRecDepth 100000 in
theorem e_remember (l : Launch) (G : va_G) (y : Nat → ClassId) (b0 : Nat) (σ : th_M) (E : th_E) (hO : ok y E σ) (a : Nat) (h_a : kd E a = 5) : Met l yX6_remember wsX6_remember ({ frames := 2, cells := 5, slots := 245, locals := 86 }) (th_P G y b0 σ [.ref a]) (th_Qv G b0 (fun σ1 => ∃ E1, ext E E1 ∧ ok y E1 σ1 ∧ fr [5, 1] E σ σ1 ∧ (True))) 5 245 (th_A b0) := by
  refine Met.ofW (cc := cX6_remember) (maxL := 2) (ret := none) (by decide) rfl ?_
  intro p e s m args below meth c s₁ B hml hv
  obtain ⟨rfl, hH, hK⟩ := hv
  have hx := B.exec
  have hb := B.bytes
  have hr := B.returns
  have hts := atoms_spec (ws := wsX6_remember) B.pre
  have hown : s.vm.findClass RX6 = some m.cls := findClass_of_methodNamed B.named
  have hlocks := B.notSynchronized
  have h00 : b0 ≤ s.heap.size := hH.1
  have hS : va_S (th_A b0) s.heap s.heap [] := va_S.rf
  have hF : fr [5, 1] E σ σ := fr.rf
  have hX : ext E E := ext.rf
  have inX6 : ∀ w ∈ wsX60, w ∈ wsX6_remember := by decide +kernel
  have inX9 : ∀ w ∈ wsX90, w ∈ wsX6_remember := by decide +kernel
  have fl0 := hts (.fieldLink RX6 35 "NestQuery$State" "actCount" "I") (by decide +kernel)
  have fl1 := hts (.fieldLink RX6 20 "NestQuery$State" "before" "[LNestQuery$Tree;") (by decide +kernel)
  have fl2 := hts (.classLink RX6 9 RX9) (by decide +kernel)
  have fl3 := hts (.instantiable RX9 5) (by decide +kernel)
  have fl4 := hts (.initialized RX9) (by decide +kernel)
  have fl5 := hts (.methodLink RX6 11 yX9_init) (by decide +kernel)
  have fl6 := hts (.instanceMethod yX9_init) (by decide +kernel)
  have fl7 := hts (.fieldLink RX6 14 "NestQuery$State" "tree" "LNestQuery$Tree;") (by decide +kernel)
  have hl := lv_entry ([.ref a]) (n := 2) (Nat.le_of_ble_eq_true rfl)
  rw [lg_entry_eq]
  generalize (lg_sl ([.ref a]) ++ List.replicate (2 - (lg_sl ([.ref a])).length) Slot.unset).toArray = ls at hl ⊢
  have hl : lv_has ls 2 [(0, .ref a)] := hl
  refine lv_aload_n hx hb dX6_remember_0 rfl (lv_at hl 0 rfl) ?_
  refine ok.getI hO h_a (by decide) k5_2 (fun _ _ he hv kk => th_get (ci := 6) (C := RX6) (T := TX6) (N := 7) hx hb hts inX6 hown hK hH he rfl 2 (by decide) fl0 hv dX6_remember_1 kk) (fun z_1 e_2 rz_1 lz_1 uz_1 => ?_)
  refine lv_bipush (v := I 40) hx hb dX6_remember_4 (by decide) ?_
  refine th_join (α := Unit) (J := 13) (stk := fun x9 => []) (fun x9 σ9 H9 l9 ls9 => ok y E σ9 ∧ fr [5, 1] E σ σ9 ∧ th_H G b0 σ9 H9 ∧ va_S (th_A b0) s.heap H9 l9 ∧ lv_has ls9 2 [(0, .ref a)]) ?_ (fun jK_8 => ?_)
  · intro x9 σ_K_8 H locs ls hI9
    obtain ⟨hO, hF, hH, hS, hl⟩ := hI9
    have hl : lv_has ls 2 [(0, .ref a)] := hl
    refine lv_aload_n hx hb dX6_remember_13 rfl (lv_at hl 0 rfl) ?_
    refine ok.getI hO h_a (by decide) k5_2 (fun _ _ he hv kk => th_get (ci := 6) (C := RX6) (T := TX6) (N := 7) hx hb hts inX6 hown hK hH he rfl 2 (by decide) fl0 hv dX6_remember_14 kk) (fun z_9 e_10 rz_9 lz_9 uz_9 => ?_)
    refine lv_if_lt (tgt := 81) hx hb dX6_remember_17 (by decide) (fun c_11 => ?_) (fun c_11 => ?_)
    · replace c_11 := (I_lt (a := z_9) (b := 0) rz_9 (show rng 0 from ⟨by decide, by decide⟩)).mp c_11
      refine W.widen (k := 5) (n := 245) (Nat.le_of_ble_eq_true rfl) (Nat.le_of_ble_eq_true rfl) ?_
      exact th_vret hx hb hr hlocks hH hS ⟨E, hX, hO, hF, trivial⟩ dX6_remember_81
    · replace c_11 := mt (I_lt (a := z_9) (b := 0) rz_9 (show rng 0 from ⟨by decide, by decide⟩)).mpr c_11
      refine lv_aload_n hx hb dX6_remember_20 rfl (lv_at hl 0 rfl) ?_
      refine ok.getIc hO h_a (by decide) k5_2 e_10 (fun _ _ he hv kk => th_get (ci := 6) (C := RX6) (T := TX6) (N := 7) hx hb hts inX6 hown hK hH he rfl 2 (by decide) fl0 hv dX6_remember_21 kk) ?_
      refine lv_bipush (v := I 40) hx hb dX6_remember_24 (by decide) ?_
      refine lv_icmp_ge (tgt := 81) hx hb dX6_remember_26 (by decide) (fun c_12 => ?_) (fun c_12 => ?_)
      · replace c_12 := (I_le (a := 40) (b := z_9) (show rng 40 from ⟨by decide, by decide⟩) rz_9).mp c_12
        refine W.widen (k := 5) (n := 245) (Nat.le_of_ble_eq_true rfl) (Nat.le_of_ble_eq_true rfl) ?_
        exact th_vret hx hb hr hlocks hH hS ⟨E, hX, hO, hF, trivial⟩ dX6_remember_81
      · replace c_12 := mt (I_le (a := 40) (b := z_9) (show rng 40 from ⟨by decide, by decide⟩) rz_9).mpr c_12
        refine lv_aload_n hx hb dX6_remember_29 rfl (lv_at hl 0 rfl) ?_
        refine ok.getR hO h_a (by decide) k5_1 (by decide) (fun _ _ he hv kk => th_get (ci := 6) (C := RX6) (T := TX6) (N := 7) hx hb hts inX6 hown hK hH he rfl 1 (by decide) fl1 hv dX6_remember_30 kk) ?_
        refine lv_aload_n hx hb dX6_remember_33 rfl (lv_at hl 0 rfl) ?_
        refine ok.getIc hO h_a (by decide) k5_2 e_10 (fun _ _ he hv kk => th_get (ci := 6) (C := RX6) (T := TX6) (N := 7) hx hb hts inX6 hown hK hH he rfl 2 (by decide) fl0 hv dX6_remember_34 kk) ?_
        refine ok_aald hx hb hK hH hO h_a (by decide) k5_1 (Or.inr rfl) rfl rz_9 (by omega) (by omega) dX6_remember_37 (fun x_13 hx_14 => ?_)
        cases x_13 with
        | none =>
          refine lv_astore_nN (lv' := [(1, .null), (0, .ref a)]) hx hb dX6_remember_38 rfl hl (by decide) rfl (fun ls hl => ?_)
          refine lv_aload_nN hx hb dX6_remember_39 rfl (lv_at hl 0 rfl) ?_
          refine lv_ifnonnullN hx hb dX6_remember_40 ?_
          refine th_new (ci := 9) (fs := [.null, .null, .null, .null, .int 0]) (C := RX9) (T := TX9) (N := 5) hx hb hts inX9 tyX9 tyX9_ok hown fl2 fl3 fl4 hK hH hS h00 rfl nq_defX9 (Nat.le_of_ble_eq_true rfl) (Nat.le_of_ble_eq_true rfl) dX6_remember_43 (fun q_17 H hn9 hb9 hH hS => ?_)
          refine lv_dup hx hb dX6_remember_46 rfl ?_
          refine lv_bipush (v := 60) hx hb dX6_remember_47 (by decide) ?_
          have hz9 := th_non_up hH
          obtain ⟨k9, hk9⟩ := hH.pos (th_up_at _ _ _)
          refine th_ctor (va_runI (As := [.int 60]) (rest := [.ref q_17]) ⟨hx, hb, hml, hown, hts⟩ (i_Tree60 l G y H.size q_17) (cwI 1 hts gX6_remember_X9_init rfl rfl rfl fl4 fl5 fl6 rfl (by decide +kernel) ⟨Nat.le_of_ble_eq_true rfl, Nat.le_of_ble_eq_true rfl⟩) (nq_PS hK hH.P hH.D [k9] (by simp only [List.map, hk9]) rfl) rfl rfl hl.1 rfl (lv_room (Nat.le_of_ble_eq_true rfl)) dX6_remember_49 ⟨Nat.le_of_ble_eq_true rfl, Nat.le_of_ble_eq_true rfl⟩) hH (th_up_at _ _ _) (fun u => ⟨0, _, rfl⟩) hS (fun u9 H locs _ hD9 hH hS => ?_)
          obtain ⟨E_18, hX9, hO9, hF9, hp_19⟩ := nt_tree hO hn9 hz9 (show va_D _ (ntW_tree y q_17 u9) from hD9)
          have hH : th_H G b0 (th_lay (th_up σ_K_8 q_17 (.inr (9, [.null, .null, .null, .null, .int 0]))) (ntW_tree y q_17 u9)) H := hH
          generalize th_lay (th_up σ_K_8 q_17 (.inr (9, [.null, .null, .null, .null, .int 0]))) (ntW_tree y q_17 u9) = σ_s_20 at hH hO9 hF9
          have e_21 : gI σ_s_20 a 2 = z_9 := (fr.ki hO hF9 h_a (by decide) (by decide) _).trans e_10
          replace hO := hO9
          replace hF := hF.ex hX hF9 (by decide)
          replace hX := hX.tr hX9
          have hp_22 : kd E_18 a = 5 := hX9.kd2 h_a (by decide)
          refine lv_astore_n (lv' := [(1, .ref q_17), (0, .ref a)]) hx hb dX6_remember_52 rfl hl (by decide) rfl (fun ls hl => ?_)
          refine lv_aload_n hx hb dX6_remember_53 rfl (lv_at hl 1 rfl) ?_
          refine ok.getR hO hp_22 (by decide) k5_1 (by decide) (fun _ _ he hv kk => th_get (ci := 6) (C := RX6) (T := TX6) (N := 7) hx hb hts inX6 hown hK hH he rfl 1 (by decide) fl1 hv dX6_remember_54 kk) ?_
          refine lv_aload_n hx hb dX6_remember_57 rfl (lv_at hl 1 rfl) ?_
          refine ok.getIc hO hp_22 (by decide) k5_2 e_21 (fun _ _ he hv kk => th_get (ci := 6) (C := RX6) (T := TX6) (N := 7) hx hb hts inX6 hown hK hH he rfl 2 (by decide) fl0 hv dX6_remember_58 kk) ?_
          refine lv_aload_n hx hb dX6_remember_61 rfl (lv_at hl 0 rfl) ?_
          refine ok_aast hx hb hK hH hS h00 hO hp_22 (by decide) k5_1 (Or.inr rfl) (v := q_17) hp_19 rz_9 (by omega) (by omega) dX6_remember_62 (fun σ_s_23 H locs hO hF9 hi9 hH hS => ?_)
          replace hF := hF.ex hX hF9 (by decide)
          have e_24 : gI σ_s_23 a 2 = z_9 := (hi9 _ _).trans e_21
          refine lv_aload_n hx hb dX6_remember_63 rfl (lv_at hl 0 rfl) ?_
          refine lv_aload_n hx hb dX6_remember_64 rfl (lv_at hl 1 rfl) ?_
          have hp_25 : kd E_18 (ad E_18 a 0) = 1 := ok.pk hO hp_22 (by decide) k5_0 rfl
          refine ok.getR hO hp_22 (by decide) k5_0 (by decide) (fun _ _ he hv kk => th_get (ci := 6) (C := RX6) (T := TX6) (N := 7) hx hb hts inX6 hown hK hH he rfl 0 (by decide) fl7 hv dX6_remember_65 kk) ?_
          obtain ⟨_, hc_26⟩ := hO.cell hp_19 (by decide) (ci := 9) rfl
          refine th_callv (va_runV (As := [.ref (ad E_18 a 0)]) (rest := []) ⟨hx, hb, hml, hown, hts⟩ (t11_become l G y b0 σ_s_23 E_18 hO q_17 hp_19 (ad E_18 a 0) hp_25) (cwV 1 hts gX6_remember_X9_become rfl rfl rfl (by decide +kernel) ⟨Nat.le_of_ble_eq_true rfl, Nat.le_of_ble_eq_true rfl⟩) (th_PV hK hH rfl hc_26) rfl rfl hl.1 rfl (lv_room (Nat.le_of_ble_eq_true rfl)) dX6_remember_68 ⟨Nat.le_of_ble_eq_true rfl, Nat.le_of_ble_eq_true rfl⟩) hS (fun σ_s_28 H locs hw_27 hH hS => ?_)
          obtain ⟨hO9, hF9, hw_27⟩ := hw_27
          have e_29 : gI σ_s_28 a 2 = z_9 := (fr.ki hO hF9 hp_22 (by decide) (by decide) _).trans e_24
          replace hO := hO9
          replace hF := hF.ex hX hF9 (by decide)
          refine lv_aload_n hx hb dX6_remember_71 rfl (lv_at hl 1 rfl) ?_
          refine lv_dup hx hb dX6_remember_72 rfl ?_
          refine ok.getIc hO hp_22 (by decide) k5_2 e_29 (fun _ _ he hv kk => th_get (ci := 6) (C := RX6) (T := TX6) (N := 7) hx hb hts inX6 hown hK hH he rfl 2 (by decide) fl0 hv dX6_remember_73 kk) ?_
          refine lv_iconst (v := I 1) hx hb dX6_remember_76 (by decide) ?_
          refine lv_iadd hx hb dX6_remember_77 ?_
          refine nq_top (I_add _ _) ?_
          refine ok.putI hO hp_22 (by decide) k5_2 ⟨by omega, by omega⟩ (by omega) (by omega) (fun _ he hl9 kk => th_put (ci := 6) (v := .int (I (z_9 + 1))) (ty := .int) (C := RX6) (T := TX6) (N := 7) hx hb hts inX6 tyX6 tyX6_ok nmX6 hown hK hH hS h00 he rfl 2 (by decide) fl0 rfl (by decide +kernel) rfl rfl hl9 dX6_remember_78 kk) (fun σ_s_30 H locs hO hF9 hg9 hi9 ha9 hH hS => ?_)
          replace hF := hF.ex hX hF9 (by decide)
          have e_31 := hg9
          exact th_vret hx hb hr hlocks hH hS ⟨E_18, hX, hO, hF, trivial⟩ dX6_remember_81
        | some b_15 =>
          have hb_16 : kd E b_15 = 1 := hx_14 b_15 rfl
          refine lv_astore_n (lv' := [(1, .ref b_15), (0, .ref a)]) hx hb dX6_remember_38 rfl hl (by decide) rfl (fun ls hl => ?_)
          refine lv_aload_n hx hb dX6_remember_39 rfl (lv_at hl 0 rfl) ?_
          refine lv_ifnonnull (tgt := 63) hx hb dX6_remember_40 (by decide) ?_
          refine lv_aload_n hx hb dX6_remember_63 rfl (lv_at hl 0 rfl) ?_
          refine lv_aload_n hx hb dX6_remember_64 rfl (lv_at hl 1 rfl) ?_
          have hp_32 : kd E (ad E a 0) = 1 := ok.pk hO h_a (by decide) k5_0 rfl
          refine ok.getR hO h_a (by decide) k5_0 (by decide) (fun _ _ he hv kk => th_get (ci := 6) (C := RX6) (T := TX6) (N := 7) hx hb hts inX6 hown hK hH he rfl 0 (by decide) fl7 hv dX6_remember_65 kk) ?_
          obtain ⟨_, hc_33⟩ := hO.cell hb_16 (by decide) (ci := 9) rfl
          refine th_callv (va_runV (As := [.ref (ad E a 0)]) (rest := []) ⟨hx, hb, hml, hown, hts⟩ (t11_become l G y b0 σ_K_8 E hO b_15 hb_16 (ad E a 0) hp_32) (cwV 1 hts gX6_remember_X9_become rfl rfl rfl (by decide +kernel) ⟨Nat.le_of_ble_eq_true rfl, Nat.le_of_ble_eq_true rfl⟩) (th_PV hK hH rfl hc_33) rfl rfl hl.1 rfl (lv_room (Nat.le_of_ble_eq_true rfl)) dX6_remember_68 ⟨Nat.le_of_ble_eq_true rfl, Nat.le_of_ble_eq_true rfl⟩) hS (fun σ_s_35 H locs hw_34 hH hS => ?_)
          obtain ⟨hO9, hF9, hw_34⟩ := hw_34
          have e_36 : gI σ_s_35 a 2 = z_9 := (fr.ki hO hF9 h_a (by decide) (by decide) _).trans e_10
          replace hO := hO9
          replace hF := hF.ex hX hF9 (by decide)
          refine lv_aload_n hx hb dX6_remember_71 rfl (lv_at hl 1 rfl) ?_
          refine lv_dup hx hb dX6_remember_72 rfl ?_
          refine ok.getIc hO h_a (by decide) k5_2 e_36 (fun _ _ he hv kk => th_get (ci := 6) (C := RX6) (T := TX6) (N := 7) hx hb hts inX6 hown hK hH he rfl 2 (by decide) fl0 hv dX6_remember_73 kk) ?_
          refine lv_iconst (v := I 1) hx hb dX6_remember_76 (by decide) ?_
          refine lv_iadd hx hb dX6_remember_77 ?_
          refine nq_top (I_add _ _) ?_
          refine ok.putI hO h_a (by decide) k5_2 ⟨by omega, by omega⟩ (by omega) (by omega) (fun _ he hl9 kk => th_put (ci := 6) (v := .int (I (z_9 + 1))) (ty := .int) (C := RX6) (T := TX6) (N := 7) hx hb hts inX6 tyX6 tyX6_ok nmX6 hown hK hH hS h00 he rfl 2 (by decide) fl0 rfl (by decide +kernel) rfl rfl hl9 dX6_remember_78 kk) (fun σ_s_37 H locs hO hF9 hg9 hi9 ha9 hH hS => ?_)
          replace hF := hF.ex hX hF9 (by decide)
          have e_38 := hg9
          refine W.widen (k := 5) (n := 245) (Nat.le_of_ble_eq_true rfl) (Nat.le_of_ble_eq_true rfl) ?_
          exact th_vret hx hb hr hlocks hH hS ⟨E, hX, hO, hF, trivial⟩ dX6_remember_81
  · refine lv_icmp_lt (tgt := 13) hx hb dX6_remember_6 (by decide) (fun c_39 => ?_) (fun c_39 => ?_)
    · replace c_39 := (I_lt (a := z_1) (b := 40) rz_1 (show rng 40 from ⟨by decide, by decide⟩)).mp c_39
      exact jK_8 () σ _ _ _ ⟨hO, hF, hH, hS, lv_sub hl [0] rfl⟩
    · replace c_39 := mt (I_lt (a := z_1) (b := 40) rz_1 (show rng 40 from ⟨by decide, by decide⟩)).mpr c_39
      refine lv_aload_n hx hb dX6_remember_9 rfl (lv_at hl 0 rfl) ?_
      obtain ⟨_, hc_40⟩ := hO.cell h_a (by decide) (ci := 6) rfl
      refine th_callv (va_runV (As := []) (rest := []) ⟨hx, hb, hml, hown, hts⟩ (e_lose l G y b0 σ E hO a h_a) (cwV 0 hts gX6_remember_X6_loseOldest rfl rfl rfl (by decide +kernel) ⟨Nat.le_of_ble_eq_true rfl, Nat.le_of_ble_eq_true rfl⟩) (th_PV hK hH rfl hc_40) rfl rfl hl.1 rfl (lv_room (Nat.le_of_ble_eq_true rfl)) dX6_remember_10 ⟨Nat.le_of_ble_eq_true rfl, Nat.le_of_ble_eq_true rfl⟩) hS (fun σ_s_42 H locs hw_41 hH hS => ?_)
      obtain ⟨hO9, hF9, hw_41⟩ := hw_41
      replace hO := hO9
      replace hF := hF.ex hX hF9 (by decide)
      exact jK_8 () σ_s_42 _ _ _ ⟨hO, hF, hH, hS, lv_sub hl [0] rfl⟩

set_option maxHeartbeats 1000000 in
set_option maxRecDepth 100000 in
theorem e_takeBefore0 (l : Launch) (G : va_G) (y : Nat → ClassId) (b0 : Nat) (σ : th_M) (E : th_E) (hO : ok y E σ) (a : Nat) (h_a : kd E a = 5) (i : Int) (ri : rng i) : Met l yX6_takeBefore wsX6_takeBefore ({ frames := 0, cells := 0, slots := 0, locals := 0 }) (th_P G y b0 σ [.ref a, .int (I i), .null]) (th_Qv G b0 (fun σ1 => ∃ E1, ext E E1 ∧ ok y E1 σ1 ∧ fr [5, 1] E σ σ1 ∧ (True))) 0 0 (th_A b0) := by
  refine Met.ofW (cc := cX6_takeBefore) (maxL := 4) (ret := none) (by decide) rfl ?_
  intro p e s m args below meth c s₁ B hml hv
  obtain ⟨rfl, hH, hK⟩ := hv
  have hx := B.exec
  have hb := B.bytes
  have hr := B.returns
  have hts := atoms_spec (ws := wsX6_takeBefore) B.pre
  have hown : s.vm.findClass RX6 = some m.cls := findClass_of_methodNamed B.named
  have hlocks := B.notSynchronized
  have h00 : b0 ≤ s.heap.size := hH.1
  have hS : va_S (th_A b0) s.heap s.heap [] := va_S.rf
  have hF : fr [5, 1] E σ σ := fr.rf
  have hX : ext E E := ext.rf
  have hl := lv_entry ([.ref a, .int (I i), .null]) (n := 4) (Nat.le_of_ble_eq_true rfl)
  rw [lg_entry_eq]
  generalize (lg_sl ([.ref a, .int (I i), .null]) ++ List.replicate (4 - (lg_sl ([.ref a, .int (I i), .null])).length) Slot.unset).toArray = ls at hl ⊢
  have hl : lv_has ls 4 [(0, .ref a), (1, .int (I i)), (2, .null)] := hl
  refine lv_iload_n hx hb dX6_takeBefore_0 rfl (lv_at hl 1 rfl) ?_
  refine lv_if_lt (tgt := 14) hx hb dX6_takeBefore_1 (by decide) (fun c_1 => ?_) (fun c_1 => ?_)
  · replace c_1 := (I_lt (a := i) (b := 0) ri (show rng 0 from ⟨by decide, by decide⟩)).mp c_1
    exact th_vret hx hb hr hlocks hH hS ⟨E, hX, hO, hF, trivial⟩ dX6_takeBefore_14
  · replace c_1 := mt (I_lt (a := i) (b := 0) ri (show rng 0 from ⟨by decide, by decide⟩)).mpr c_1
    refine lv_iload_n hx hb dX6_takeBefore_4 rfl (lv_at hl 1 rfl) ?_
    refine lv_bipush (v := I 40) hx hb dX6_takeBefore_5 (by decide) ?_
    refine lv_icmp_ge (tgt := 14) hx hb dX6_takeBefore_7 (by decide) (fun c_2 => ?_) (fun c_2 => ?_)
    · replace c_2 := (I_le (a := 40) (b := i) (show rng 40 from ⟨by decide, by decide⟩) ri).mp c_2
      exact th_vret hx hb hr hlocks hH hS ⟨E, hX, hO, hF, trivial⟩ dX6_takeBefore_14
    · replace c_2 := mt (I_le (a := 40) (b := i) (show rng 40 from ⟨by decide, by decide⟩) ri).mpr c_2
      refine lv_aload_nN hx hb dX6_takeBefore_10 rfl (lv_at hl 2 rfl) ?_
      refine lv_ifnonnullN hx hb dX6_takeBefore_11 ?_
      exact th_vret hx hb hr hlocks hH hS ⟨E, hX, hO, hF, trivial⟩ dX6_takeBefore_14

set_option maxHeartbeats 1000000 in
set_option maxRecDepth 100000 in
theorem e_takeBefore (l : Launch) (G : va_G) (y : Nat → ClassId) (b0 : Nat) (σ : th_M) (E : th_E) (hO : ok y E σ) (a : Nat) (h_a : kd E a = 5) (i : Int) (ri : rng i) (b : Nat) (h_b : kd E b = 1) : Met l yX6_takeBefore wsX6_takeBefore ({ frames := 2, cells := 5, slots := 245, locals := 86 }) (th_P G y b0 σ [.ref a, .int (I i), .ref b]) (th_Qv G b0 (fun σ1 => ∃ E1, ext E E1 ∧ ok y E1 σ1 ∧ fr [5, 1] E σ σ1 ∧ (True))) 5 245 (th_A b0) := by
  refine Met.ofW (cc := cX6_takeBefore) (maxL := 4) (ret := none) (by decide) rfl ?_
  intro p e s m args below meth c s₁ B hml hv
  obtain ⟨rfl, hH, hK⟩ := hv
  have hx := B.exec
  have hb := B.bytes
  have hr := B.returns
  have hts := atoms_spec (ws := wsX6_takeBefore) B.pre
  have hown : s.vm.findClass RX6 = some m.cls := findClass_of_methodNamed B.named
  have hlocks := B.notSynchronized
  have h00 : b0 ≤ s.heap.size := hH.1
  have hS : va_S (th_A b0) s.heap s.heap [] := va_S.rf
  have hF : fr [5, 1] E σ σ := fr.rf
  have hX : ext E E := ext.rf
  have inX6 : ∀ w ∈ wsX60, w ∈ wsX6_takeBefore := by decide +kernel
  have inX9 : ∀ w ∈ wsX90, w ∈ wsX6_takeBefore := by decide +kernel
  have fl0 := hts (.fieldLink RX6 20 "NestQuery$State" "before" "[LNestQuery$Tree;") (by decide +kernel)
  have fl1 := hts (.classLink RX6 9 RX9) (by decide +kernel)
  have fl2 := hts (.instantiable RX9 5) (by decide +kernel)
  have fl3 := hts (.initialized RX9) (by decide +kernel)
  have fl4 := hts (.methodLink RX6 11 yX9_init) (by decide +kernel)
  have fl5 := hts (.instanceMethod yX9_init) (by decide +kernel)
  have hl := lv_entry ([.ref a, .int (I i), .ref b]) (n := 4) (Nat.le_of_ble_eq_true rfl)
  rw [lg_entry_eq]
  generalize (lg_sl ([.ref a, .int (I i), .ref b]) ++ List.replicate (4 - (lg_sl ([.ref a, .int (I i), .ref b])).length) Slot.unset).toArray = ls at hl ⊢
  have hl : lv_has ls 4 [(0, .ref a), (1, .int (I i)), (2, .ref b)] := hl
  refine lv_iload_n hx hb dX6_takeBefore_0 rfl (lv_at hl 1 rfl) ?_
  refine lv_if_lt (tgt := 14) hx hb dX6_takeBefore_1 (by decide) (fun c_1 => ?_) (fun c_1 => ?_)
  · replace c_1 := (I_lt (a := i) (b := 0) ri (show rng 0 from ⟨by decide, by decide⟩)).mp c_1
    refine W.widen (k := 5) (n := 245) (Nat.le_of_ble_eq_true rfl) (Nat.le_of_ble_eq_true rfl) ?_
    exact th_vret hx hb hr hlocks hH hS ⟨E, hX, hO, hF, trivial⟩ dX6_takeBefore_14
  · replace c_1 := mt (I_lt (a := i) (b := 0) ri (show rng 0 from ⟨by decide, by decide⟩)).mpr c_1
    refine lv_iload_n hx hb dX6_takeBefore_4 rfl (lv_at hl 1 rfl) ?_
    refine lv_bipush (v := I 40) hx hb dX6_takeBefore_5 (by decide) ?_
    refine lv_icmp_ge (tgt := 14) hx hb dX6_takeBefore_7 (by decide) (fun c_2 => ?_) (fun c_2 => ?_)
    · replace c_2 := (I_le (a := 40) (b := i) (show rng 40 from ⟨by decide, by decide⟩) ri).mp c_2
      refine W.widen (k := 5) (n := 245) (Nat.le_of_ble_eq_true rfl) (Nat.le_of_ble_eq_true rfl) ?_
      exact th_vret hx hb hr hlocks hH hS ⟨E, hX, hO, hF, trivial⟩ dX6_takeBefore_14
    · replace c_2 := mt (I_le (a := 40) (b := i) (show rng 40 from ⟨by decide, by decide⟩) ri).mpr c_2
      refine lv_aload_n hx hb dX6_takeBefore_10 rfl (lv_at hl 2 rfl) ?_
      refine lv_ifnonnull (tgt := 15) hx hb dX6_takeBefore_11 (by decide) ?_
      refine lv_aload_n hx hb dX6_takeBefore_15 rfl (lv_at hl 0 rfl) ?_
      refine ok.getR hO h_a (by decide) k5_1 (by decide) (fun _ _ he hv kk => th_get (ci := 6) (C := RX6) (T := TX6) (N := 7) hx hb hts inX6 hown hK hH he rfl 1 (by decide) fl0 hv dX6_takeBefore_16 kk) ?_
      refine lv_iload_n hx hb dX6_takeBefore_19 rfl (lv_at hl 1 rfl) ?_
      refine ok_aald hx hb hK hH hO h_a (by decide) k5_1 (Or.inr rfl) rfl ri (by omega) (by omega) dX6_takeBefore_20 (fun x_3 hx_4 => ?_)
      cases x_3 with
      | none =>
        refine lv_astore_nN (lv' := [(3, .null), (0, .ref a), (1, .int (I i)), (2, .ref b)]) hx hb dX6_takeBefore_21 rfl hl (by decide) rfl (fun ls hl => ?_)
        refine lv_aload_nN hx hb dX6_takeBefore_22 rfl (lv_at hl 0 rfl) ?_
        refine lv_ifnonnullN hx hb dX6_takeBefore_23 ?_
        refine th_new (ci := 9) (fs := [.null, .null, .null, .null, .int 0]) (C := RX9) (T := TX9) (N := 5) hx hb hts inX9 tyX9 tyX9_ok hown fl1 fl2 fl3 hK hH hS h00 rfl nq_defX9 (Nat.le_of_ble_eq_true rfl) (Nat.le_of_ble_eq_true rfl) dX6_takeBefore_26 (fun q_7 H hn9 hb9 hH hS => ?_)
        refine lv_dup hx hb dX6_takeBefore_29 rfl ?_
        refine lv_bipush (v := 60) hx hb dX6_takeBefore_30 (by decide) ?_
        have hz9 := th_non_up hH
        obtain ⟨k9, hk9⟩ := hH.pos (th_up_at _ _ _)
        refine th_ctor (va_runI (As := [.int 60]) (rest := [.ref q_7]) ⟨hx, hb, hml, hown, hts⟩ (i_Tree60 l G y H.size q_7) (cwI 1 hts gX6_takeBefore_X9_init rfl rfl rfl fl3 fl4 fl5 rfl (by decide +kernel) ⟨Nat.le_of_ble_eq_true rfl, Nat.le_of_ble_eq_true rfl⟩) (nq_PS hK hH.P hH.D [k9] (by simp only [List.map, hk9]) rfl) rfl rfl hl.1 rfl (lv_room (Nat.le_of_ble_eq_true rfl)) dX6_takeBefore_32 ⟨Nat.le_of_ble_eq_true rfl, Nat.le_of_ble_eq_true rfl⟩) hH (th_up_at _ _ _) (fun u => ⟨0, _, rfl⟩) hS (fun u9 H locs _ hD9 hH hS => ?_)
        obtain ⟨E_8, hX9, hO9, hF9, hp_9⟩ := nt_tree hO hn9 hz9 (show va_D _ (ntW_tree y q_7 u9) from hD9)
        have hH : th_H G b0 (th_lay (th_up σ q_7 (.inr (9, [.null, .null, .null, .null, .int 0]))) (ntW_tree y q_7 u9)) H := hH
        generalize th_lay (th_up σ q_7 (.inr (9, [.null, .null, .null, .null, .int 0]))) (ntW_tree y q_7 u9) = σ_s_10 at hH hO9 hF9
        replace hO := hO9
        replace hF := hF.ex hX hF9 (by decide)
        replace hX := hX.tr hX9
        have hp_11 : kd E_8 a = 5 := hX9.kd2 h_a (by decide)
        have hp_12 : kd E_8 b = 1 := hX9.kd2 h_b (by decide)
        refine lv_astore_n (lv' := [(3, .ref q_7), (0, .ref a), (1, .int (I i)), (2, .ref b)]) hx hb dX6_takeBefore_35 rfl hl (by decide) rfl (fun ls hl => ?_)
        refine lv_aload_n hx hb dX6_takeBefore_36 rfl (lv_at hl 1 rfl) ?_
        refine ok.getR hO hp_11 (by decide) k5_1 (by decide) (fun _ _ he hv kk => th_get (ci := 6) (C := RX6) (T := TX6) (N := 7) hx hb hts inX6 hown hK hH he rfl 1 (by decide) fl0 hv dX6_takeBefore_37 kk) ?_
        refine lv_iload_n hx hb dX6_takeBefore_40 rfl (lv_at hl 2 rfl) ?_
        refine lv_aload_n hx hb dX6_takeBefore_41 rfl (lv_at hl 0 rfl) ?_
        refine ok_aast hx hb hK hH hS h00 hO hp_11 (by decide) k5_1 (Or.inr rfl) (v := q_7) hp_9 ri (by omega) (by omega) dX6_takeBefore_42 (fun σ_s_13 H locs hO hF9 hi9 hH hS => ?_)
        replace hF := hF.ex hX hF9 (by decide)
        refine lv_aload_n hx hb dX6_takeBefore_43 rfl (lv_at hl 0 rfl) ?_
        refine lv_aload_n hx hb dX6_takeBefore_44 rfl (lv_at hl 3 rfl) ?_
        obtain ⟨_, hc_14⟩ := hO.cell hp_9 (by decide) (ci := 9) rfl
        refine th_callv (va_runV (As := [.ref b]) (rest := []) ⟨hx, hb, hml, hown, hts⟩ (t11_become l G y b0 σ_s_13 E_8 hO q_7 hp_9 b hp_12) (cwV 1 hts gX6_takeBefore_X9_become rfl rfl rfl (by decide +kernel) ⟨Nat.le_of_ble_eq_true rfl, Nat.le_of_ble_eq_true rfl⟩) (th_PV hK hH rfl hc_14) rfl rfl hl.1 rfl (lv_room (Nat.le_of_ble_eq_true rfl)) dX6_takeBefore_45 ⟨Nat.le_of_ble_eq_true rfl, Nat.le_of_ble_eq_true rfl⟩) hS (fun σ_s_16 H locs hw_15 hH hS => ?_)
        obtain ⟨hO9, hF9, hw_15⟩ := hw_15
        replace hO := hO9
        replace hF := hF.ex hX hF9 (by decide)
        exact th_vret hx hb hr hlocks hH hS ⟨E_8, hX, hO, hF, trivial⟩ dX6_takeBefore_48
      | some b_5 =>
        have hb_6 : kd E b_5 = 1 := hx_4 b_5 rfl
        refine lv_astore_n (lv' := [(3, .ref b_5), (0, .ref a), (1, .int (I i)), (2, .ref b)]) hx hb dX6_takeBefore_21 rfl hl (by decide) rfl (fun ls hl => ?_)
        refine lv_aload_n hx hb dX6_takeBefore_22 rfl (lv_at hl 0 rfl) ?_
        refine lv_ifnonnull (tgt := 43) hx hb dX6_takeBefore_23 (by decide) ?_
        refine lv_aload_n hx hb dX6_takeBefore_43 rfl (lv_at hl 0 rfl) ?_
        refine lv_aload_n hx hb dX6_takeBefore_44 rfl (lv_at hl 3 rfl) ?_
        obtain ⟨_, hc_17⟩ := hO.cell hb_6 (by decide) (ci := 9) rfl
        refine th_callv (va_runV (As := [.ref b]) (rest := []) ⟨hx, hb, hml, hown, hts⟩ (t11_become l G y b0 σ E hO b_5 hb_6 b h_b) (cwV 1 hts gX6_takeBefore_X9_become rfl rfl rfl (by decide +kernel) ⟨Nat.le_of_ble_eq_true rfl, Nat.le_of_ble_eq_true rfl⟩) (th_PV hK hH rfl hc_17) rfl rfl hl.1 rfl (lv_room (Nat.le_of_ble_eq_true rfl)) dX6_takeBefore_45 ⟨Nat.le_of_ble_eq_true rfl, Nat.le_of_ble_eq_true rfl⟩) hS (fun σ_s_19 H locs hw_18 hH hS => ?_)
        obtain ⟨hO9, hF9, hw_18⟩ := hw_18
        replace hO := hO9
        replace hF := hF.ex hX hF9 (by decide)
        refine W.widen (k := 5) (n := 245) (Nat.le_of_ble_eq_true rfl) (Nat.le_of_ble_eq_true rfl) ?_
        exact th_vret hx hb hr hlocks hH hS ⟨E, hX, hO, hF, trivial⟩ dX6_takeBefore_48

set_option maxHeartbeats 1000000 in
set_option maxRecDepth 100000 in
theorem e_takeAll (l : Launch) (G : va_G) (y : Nat → ClassId) (b0 : Nat) (σ : th_M) (E : th_E) (hO : ok y E σ) (a : Nat) (h_a : kd E a = 5) (b : Nat) (h_b : kd E b = 5) : Met l yX6_takeAll wsX6_takeAll ({ frames := 3, cells := 200, slots := 9800, locals := 113 }) (th_P G y b0 σ [.ref a, .ref b]) (th_Qv G b0 (fun σ1 => ∃ E1, ext E E1 ∧ ok y E1 σ1 ∧ fr [5, 1] E σ σ1 ∧ (True))) 200 9800 (th_A b0) := by
  refine Met.ofW (cc := cX6_takeAll) (maxL := 3) (ret := none) (by decide) rfl ?_
  intro p e s m args below meth c s₁ B hml hv
  obtain ⟨rfl, hH, hK⟩ := hv
  have hx := B.exec
  have hb := B.bytes
  have hr := B.returns
  have hts := atoms_spec (ws := wsX6_takeAll) B.pre
  have hown : s.vm.findClass RX6 = some m.cls := findClass_of_methodNamed B.named
  have hlocks := B.notSynchronized
  have h00 : b0 ≤ s.heap.size := hH.1
  have hS : va_S (th_A b0) s.heap s.heap [] := va_S.rf
  have hF : fr [5, 1] E σ σ := fr.rf
  have hX : ext E E := ext.rf
  have inX6 : ∀ w ∈ wsX60, w ∈ wsX6_takeAll := by decide +kernel
  have fl0 := hts (.fieldLink RX6 14 "NestQuery$State" "tree" "LNestQuery$Tree;") (by decide +kernel)
  have fl1 := hts (.fieldLink RX6 35 "NestQuery$State" "actCount" "I") (by decide +kernel)
  have fl2 := hts (.fieldLink RX6 46 "NestQuery$State" "notedCount" "I") (by decide +kernel)
  have fl3 := hts (.fieldLink RX6 32 "NestQuery$State" "refused" "[I") (by decide +kernel)
  have fl4 := hts (.fieldLink RX6 24 "NestQuery$State" "notedThings" "[I") (by decide +kernel)
  have fl5 := hts (.fieldLink RX6 28 "NestQuery$State" "notedIs" "[Z") (by decide +kernel)
  have fl6 := hts (.fieldLink RX6 20 "NestQuery$State" "before" "[LNestQuery$Tree;") (by decide +kernel)
  have hl := lv_entry ([.ref a, .ref b]) (n := 3) (Nat.le_of_ble_eq_true rfl)
  rw [lg_entry_eq]
  generalize (lg_sl ([.ref a, .ref b]) ++ List.replicate (3 - (lg_sl ([.ref a, .ref b])).length) Slot.unset).toArray = ls at hl ⊢
  have hl : lv_has ls 3 [(0, .ref a), (1, .ref b)] := hl
  refine lv_aload_n hx hb dX6_takeAll_0 rfl (lv_at hl 0 rfl) ?_
  have hp_1 : kd E (ad E a 0) = 1 := ok.pk hO h_a (by decide) k5_0 rfl
  refine ok.getR hO h_a (by decide) k5_0 (by decide) (fun _ _ he hv kk => th_get (ci := 6) (C := RX6) (T := TX6) (N := 7) hx hb hts inX6 hown hK hH he rfl 0 (by decide) fl0 hv dX6_takeAll_1 kk) ?_
  refine lv_aload_n hx hb dX6_takeAll_4 rfl (lv_at hl 1 rfl) ?_
  have hp_2 : kd E (ad E b 0) = 1 := ok.pk hO h_b (by decide) k5_0 rfl
  refine ok.getR hO h_b (by decide) k5_0 (by decide) (fun _ _ he hv kk => th_get (ci := 6) (C := RX6) (T := TX6) (N := 7) hx hb hts inX6 hown hK hH he rfl 0 (by decide) fl0 hv dX6_takeAll_5 kk) ?_
  obtain ⟨_, hc_3⟩ := hO.cell hp_1 (by decide) (ci := 9) rfl
  refine th_callv (va_runV (As := [.ref (ad E b 0)]) (rest := []) ⟨hx, hb, hml, hown, hts⟩ (t11_become l G y b0 σ E hO (ad E a 0) hp_1 (ad E b 0) hp_2) (cwV 1 hts gX6_takeAll_X9_become rfl rfl rfl (by decide +kernel) ⟨Nat.le_of_ble_eq_true rfl, Nat.le_of_ble_eq_true rfl⟩) (th_PV hK hH rfl hc_3) rfl rfl hl.1 rfl (lv_room (Nat.le_of_ble_eq_true rfl)) dX6_takeAll_8 ⟨Nat.le_of_ble_eq_true rfl, Nat.le_of_ble_eq_true rfl⟩) hS (fun σ_s_5 H locs hw_4 hH hS => ?_)
  obtain ⟨hO9, hF9, hw_4⟩ := hw_4
  replace hO := hO9
  replace hF := hF.ex hX hF9 (by decide)
  refine lv_aload_n hx hb dX6_takeAll_11 rfl (lv_at hl 0 rfl) ?_
  refine lv_aload_n hx hb dX6_takeAll_12 rfl (lv_at hl 1 rfl) ?_
  refine ok.getI hO h_b (by decide) k5_2 (fun _ _ he hv kk => th_get (ci := 6) (C := RX6) (T := TX6) (N := 7) hx hb hts inX6 hown hK hH he rfl 2 (by decide) fl1 hv dX6_takeAll_13 kk) (fun z_6 e_7 rz_6 lz_6 uz_6 => ?_)
  refine ok.putI hO h_a (by decide) k5_2 rz_6 (by omega) (by omega) (fun _ he hl9 kk => th_put (ci := 6) (v := .int (I z_6)) (ty := .int) (C := RX6) (T := TX6) (N := 7) hx hb hts inX6 tyX6 tyX6_ok nmX6 hown hK hH hS h00 he rfl 2 (by decide) fl1 rfl (by decide +kernel) rfl rfl hl9 dX6_takeAll_16 kk) (fun σ_s_8 H locs hO hF9 hg9 hi9 ha9 hH hS => ?_)
  replace hF := hF.ex hX hF9 (by decide)
  have e_9 := hg9
  refine lv_iconst (v := I 0) hx hb dX6_takeAll_19 (by decide) ?_
  refine lv_istore_n (lv' := [(2, .int (I 0)), (0, .ref a), (1, .ref b)]) hx hb dX6_takeAll_20 rfl hl (by decide) rfl (fun ls hl => ?_)
  refine W.widen (Nat.le_of_ble_eq_true rfl) (Nat.le_of_ble_eq_true rfl) (th_loop2 (α := Int × th_E) (pc := 21) (fun x9 => 0 + 5 * (x9.1).toNat) (fun x9 => 0 + 245 * (x9.1).toNat) (fun x9 => (40 - x9.1).toNat) (fun x9 σ9 H9 l9 ls9 => ext E x9.2 ∧ ok y x9.2 σ9 ∧ fr [5, 1] E σ σ9 ∧ kd x9.2 a = 5 ∧ kd x9.2 b = 5 ∧ th_H G b0 σ9 H9 ∧ va_S (th_A b0) s.heap H9 l9 ∧ lv_has ls9 3 [(0, .ref a), (1, .ref b), (2, .int (I x9.1))] ∧ rng x9.1 ∧ (0 ≤ x9.1) ∧ (x9.1 ≤ 40)) ?_ (0, E) σ_s_8 _ _ _ ⟨hX, hO, hF, h_a, h_b, hH, hS, lv_sub hl [1, 2, 0] rfl, (show rng 0 from ⟨by decide, by decide⟩), by first | omega | (dsimp only; omega), by first | omega | (dsimp only; omega)⟩)
  intro x9 σ_J_92 H locs ls hI9 ihJ_92
  obtain ⟨v2q90, Ev91⟩ := x9
  obtain ⟨hX, hO, hF, hp_93, hp_94, hH, hS, hl, rv2q90, J_92_0, J_92_1⟩ := hI9
  have hX : ext E Ev91 := hX
  have hO : ok y Ev91 σ_J_92 := hO
  have hp_93 : kd Ev91 a = 5 := hp_93
  have hp_94 : kd Ev91 b = 5 := hp_94
  have hl : lv_has ls 3 [(0, .ref a), (1, .ref b), (2, .int (I v2q90))] := hl
  have rv2q90 : rng v2q90 := rv2q90
  have J_92_0 : 0 ≤ v2q90 := J_92_0
  have J_92_1 : v2q90 ≤ 40 := J_92_1
  refine lv_iload_n hx hb dX6_takeAll_21 rfl (lv_at hl 2 rfl) ?_
  refine lv_aload_n hx hb dX6_takeAll_22 rfl (lv_at hl 0 rfl) ?_
  refine ok.getI hO hp_93 (by decide) k5_2 (fun _ _ he hv kk => th_get (ci := 6) (C := RX6) (T := TX6) (N := 7) hx hb hts inX6 hown hK hH he rfl 2 (by decide) fl1 hv dX6_takeAll_23 kk) (fun z_95 e_96 rz_95 lz_95 uz_95 => ?_)
  refine th_join (α := Unit) (J := 52) (stk := fun x9 => []) (fun x9 σ9 H9 l9 ls9 => σ9 = σ_J_92 ∧ th_H G b0 σ9 H9 ∧ va_S (th_A b0) s.heap H9 l9 ∧ lv_has ls9 3 [(0, .ref a), (1, .ref b)]) ?_ (fun jK_116 => ?_)
  · intro x9 σ_K_116 H locs ls hI9
    obtain ⟨eK_116, hH, hS, hl⟩ := hI9
    replace eK_116 := eK_116.symm
    subst eK_116
    have hl : lv_has ls 3 [(0, .ref a), (1, .ref b)] := hl
    refine lv_aload_n hx hb dX6_takeAll_52 rfl (lv_at hl 0 rfl) ?_
    refine lv_aload_n hx hb dX6_takeAll_53 rfl (lv_at hl 1 rfl) ?_
    refine ok.getI hO hp_94 (by decide) k5_5 (fun _ _ he hv kk => th_get (ci := 6) (C := RX6) (T := TX6) (N := 7) hx hb hts inX6 hown hK hH he rfl 5 (by decide) fl2 hv dX6_takeAll_54 kk) (fun z_117 e_118 rz_117 lz_117 uz_117 => ?_)
    refine ok.putI hO hp_93 (by decide) k5_5 rz_117 (by omega) (by omega) (fun _ he hl9 kk => th_put (ci := 6) (v := .int (I z_117)) (ty := .int) (C := RX6) (T := TX6) (N := 7) hx hb hts inX6 tyX6 tyX6_ok nmX6 hown hK hH hS h00 he rfl 5 (by decide) fl2 rfl (by decide +kernel) rfl rfl hl9 dX6_takeAll_57 kk) (fun σ_s_119 H locs hO hF9 hg9 hi9 ha9 hH hS => ?_)
    replace hF := hF.ex hX hF9 (by decide)
    have e_120 : gI σ_s_119 a 2 = z_95 := (hi9 _ _ (Or.inr (by decide))).trans e_96
    have e_121 := hg9
    refine lv_iconst (v := I 0) hx hb dX6_takeAll_60 (by decide) ?_
    refine lv_istore_n (lv' := [(2, .int (I 0)), (0, .ref a), (1, .ref b)]) hx hb dX6_takeAll_61 rfl hl (by decide) rfl (fun ls hl => ?_)
    refine th_loop (α := Int) (pc := 62) (fun x9 => (8 - x9).toNat) (fun x9 σ9 H9 l9 ls9 => ok y Ev91 σ9 ∧ fr [5, 1] E σ σ9 ∧ th_H G b0 σ9 H9 ∧ va_S (th_A b0) s.heap H9 l9 ∧ lv_has ls9 3 [(0, .ref a), (1, .ref b), (2, .int (I x9))] ∧ rng x9 ∧ (0 ≤ x9) ∧ (x9 ≤ 8) ∧ (gI σ9 a 2 = z_95) ∧ (gI σ9 a 5 = z_117)) ?_ (0) σ_s_119 _ _ _ ⟨hO, hF, hH, hS, lv_sub hl [1, 2, 0] rfl, (show rng 0 from ⟨by decide, by decide⟩), by first | omega | (dsimp only; omega), by first | omega | (dsimp only; omega), e_120, e_121⟩
    intro x9 σ_J_133 H locs ls hI9 ihJ_133
    obtain ⟨v2q132, ex9⟩ : ∃ z, z = x9 := ⟨_, rfl⟩
    subst ex9
    obtain ⟨hO, hF, hH, hS, hl, rv2q132, J_133_0, J_133_1, J_133_2, J_133_3⟩ := hI9
    have hl : lv_has ls 3 [(0, .ref a), (1, .ref b), (2, .int (I v2q132))] := hl
    have rv2q132 : rng v2q132 := rv2q132
    have J_133_0 : 0 ≤ v2q132 := J_133_0
    have J_133_1 : v2q132 ≤ 8 := J_133_1
    have J_133_2 : gI σ_J_133 a 2 = z_95 := J_133_2
    have J_133_3 : gI σ_J_133 a 5 = z_117 := J_133_3
    refine lv_iload_n hx hb dX6_takeAll_62 rfl (lv_at hl 2 rfl) ?_
    refine lv_bipush (v := I 8) hx hb dX6_takeAll_63 (by decide) ?_
    refine lv_icmp_ge (tgt := 98) hx hb dX6_takeAll_65 (by decide) (fun c_134 => ?_) (fun c_134 => ?_)
    · replace c_134 := (I_le (a := 8) (b := v2q132) (show rng 8 from ⟨by decide, by decide⟩) rv2q132).mp c_134
      refine lv_iconst (v := I 0) hx hb dX6_takeAll_98 (by decide) ?_
      refine lv_istore_n (lv' := [(2, .int (I 0)), (0, .ref a), (1, .ref b)]) hx hb dX6_takeAll_99 rfl hl (by decide) rfl (fun ls hl => ?_)
      refine th_loop (α := Int) (pc := 100) (fun x9 => (3 - x9).toNat) (fun x9 σ9 H9 l9 ls9 => ok y Ev91 σ9 ∧ fr [5, 1] E σ σ9 ∧ th_H G b0 σ9 H9 ∧ va_S (th_A b0) s.heap H9 l9 ∧ lv_has ls9 3 [(0, .ref a), (1, .ref b), (2, .int (I x9))] ∧ rng x9 ∧ (0 ≤ x9) ∧ (x9 ≤ 3) ∧ (gI σ9 a 2 = z_95) ∧ (gI σ9 a 5 = z_117)) ?_ (0) σ_J_133 _ _ _ ⟨hO, hF, hH, hS, lv_sub hl [1, 2, 0] rfl, (show rng 0 from ⟨by decide, by decide⟩), by first | omega | (dsimp only; omega), by first | omega | (dsimp only; omega), J_133_2, J_133_3⟩
      intro x9 σ_J_143 H locs ls hI9 ihJ_143
      obtain ⟨v2q142, ex9⟩ : ∃ z, z = x9 := ⟨_, rfl⟩
      subst ex9
      obtain ⟨hO, hF, hH, hS, hl, rv2q142, J_143_0, J_143_1, J_143_2, J_143_3⟩ := hI9
      have hl : lv_has ls 3 [(0, .ref a), (1, .ref b), (2, .int (I v2q142))] := hl
      have rv2q142 : rng v2q142 := rv2q142
      have J_143_0 : 0 ≤ v2q142 := J_143_0
      have J_143_1 : v2q142 ≤ 3 := J_143_1
      have J_143_2 : gI σ_J_143 a 2 = z_95 := J_143_2
      have J_143_3 : gI σ_J_143 a 5 = z_117 := J_143_3
      refine lv_iload_n hx hb dX6_takeAll_100 rfl (lv_at hl 2 rfl) ?_
      refine lv_aload_n hx hb dX6_takeAll_101 rfl (lv_at hl 0 rfl) ?_
      refine ok.getR hO hp_93 (by decide) k5_6 (by decide) (fun _ _ he hv kk => th_get (ci := 6) (C := RX6) (T := TX6) (N := 7) hx hb hts inX6 hown hK hH he rfl 6 (by decide) fl3 hv dX6_takeAll_102 kk) ?_
      refine ok_alen hx hb hK hH hO hp_93 (by decide) k5_6 isA1 (by decide) dX6_takeAll_105 ?_
      refine lv_icmp_ge (tgt := 136) hx hb dX6_takeAll_106 (by decide) (fun c_144 => ?_) (fun c_144 => ?_)
      · replace c_144 := (I_le (a := 3) (b := v2q142) (show rng 3 from ⟨by decide, by decide⟩) rv2q142).mp c_144
        refine W.widen (k := 200) (n := 9800) (by first | omega | (dsimp only; omega)) (by first | omega | (dsimp only; omega)) ?_
        exact th_vret hx hb hr hlocks hH hS ⟨Ev91, hX, hO, hF, trivial⟩ dX6_takeAll_136
      · replace c_144 := mt (I_le (a := 3) (b := v2q142) (show rng 3 from ⟨by decide, by decide⟩) rv2q142).mpr c_144
        refine lv_iload_n hx hb dX6_takeAll_109 rfl (lv_at hl 2 rfl) ?_
        refine lv_aload_n hx hb dX6_takeAll_110 rfl (lv_at hl 1 rfl) ?_
        refine ok.getR hO hp_94 (by decide) k5_6 (by decide) (fun _ _ he hv kk => th_get (ci := 6) (C := RX6) (T := TX6) (N := 7) hx hb hts inX6 hown hK hH he rfl 6 (by decide) fl3 hv dX6_takeAll_111 kk) ?_
        refine ok_alen hx hb hK hH hO hp_94 (by decide) k5_6 isA1 (by decide) dX6_takeAll_114 ?_
        refine lv_icmp_ge (tgt := 136) hx hb dX6_takeAll_115 (by decide) (fun c_145 => ?_) (fun c_145 => ?_)
        · replace c_145 := (I_le (a := 3) (b := v2q142) (show rng 3 from ⟨by decide, by decide⟩) rv2q142).mp c_145
          refine W.widen (k := 200) (n := 9800) (by first | omega | (dsimp only; omega)) (by first | omega | (dsimp only; omega)) ?_
          exact th_vret hx hb hr hlocks hH hS ⟨Ev91, hX, hO, hF, trivial⟩ dX6_takeAll_136
        · replace c_145 := mt (I_le (a := 3) (b := v2q142) (show rng 3 from ⟨by decide, by decide⟩) rv2q142).mpr c_145
          refine lv_aload_n hx hb dX6_takeAll_118 rfl (lv_at hl 0 rfl) ?_
          refine ok.getR hO hp_93 (by decide) k5_6 (by decide) (fun _ _ he hv kk => th_get (ci := 6) (C := RX6) (T := TX6) (N := 7) hx hb hts inX6 hown hK hH he rfl 6 (by decide) fl3 hv dX6_takeAll_119 kk) ?_
          refine lv_iload_n hx hb dX6_takeAll_122 rfl (lv_at hl 2 rfl) ?_
          refine lv_aload_n hx hb dX6_takeAll_123 rfl (lv_at hl 1 rfl) ?_
          refine ok.getR hO hp_94 (by decide) k5_6 (by decide) (fun _ _ he hv kk => th_get (ci := 6) (C := RX6) (T := TX6) (N := 7) hx hb hts inX6 hown hK hH he rfl 6 (by decide) fl3 hv dX6_takeAll_124 kk) ?_
          refine lv_iload_n hx hb dX6_takeAll_127 rfl (lv_at hl 2 rfl) ?_
          refine ok_iald hx hb hK hH hO hp_94 (by decide) k5_6 isA1 rv2q142 (by omega) (by omega) dX6_takeAll_128 (fun z_146 ez_146 rz_146 el9 => ?_)
          refine ok_iast hx hb hK hH hS h00 hO hp_93 (by decide) k5_6 isA1 rv2q142 (by omega) (by omega) rz_146 el1 dX6_takeAll_129 (fun σ_s_147 H locs hO hF9 hi9 ha9 hH hS => ?_)
          replace hF := hF.ex hX hF9 (by decide)
          have e_148 : gI σ_s_147 a 2 = z_95 := (hi9 _ _).trans J_143_2
          have e_149 : gI σ_s_147 a 5 = z_117 := (hi9 _ _).trans J_143_3
          refine lv_iinc (v := I (v2q142 + 1)) (lv' := [(2, .int (I (v2q142 + 1))), (0, .ref a), (1, .ref b)]) hx hb dX6_takeAll_130 hl (k := 2) rfl (I_add _ _) (by decide) rfl (fun ls hl => ?_)
          refine lv_goto (tgt := 100) hx hb dX6_takeAll_133 (by decide) ?_
          exact ihJ_143 (v2q142 + 1) σ_s_147 _ _ _ (by first | omega | (dsimp only; omega)) ⟨hO, hF, hH, hS, lv_sub hl [1, 2, 0] rfl, ⟨by first | omega | (dsimp only; omega), by first | omega | (dsimp only; omega)⟩, by first | omega | (dsimp only; omega), by first | omega | (dsimp only; omega), e_148, e_149⟩
    · replace c_134 := mt (I_le (a := 8) (b := v2q132) (show rng 8 from ⟨by decide, by decide⟩) rv2q132).mpr c_134
      refine lv_aload_n hx hb dX6_takeAll_68 rfl (lv_at hl 0 rfl) ?_
      refine ok.getR hO hp_93 (by decide) k5_3 (by decide) (fun _ _ he hv kk => th_get (ci := 6) (C := RX6) (T := TX6) (N := 7) hx hb hts inX6 hown hK hH he rfl 3 (by decide) fl4 hv dX6_takeAll_69 kk) ?_
      refine lv_iload_n hx hb dX6_takeAll_72 rfl (lv_at hl 2 rfl) ?_
      refine lv_aload_n hx hb dX6_takeAll_73 rfl (lv_at hl 1 rfl) ?_
      refine ok.getR hO hp_94 (by decide) k5_3 (by decide) (fun _ _ he hv kk => th_get (ci := 6) (C := RX6) (T := TX6) (N := 7) hx hb hts inX6 hown hK hH he rfl 3 (by decide) fl4 hv dX6_takeAll_74 kk) ?_
      refine lv_iload_n hx hb dX6_takeAll_77 rfl (lv_at hl 2 rfl) ?_
      refine ok_iald hx hb hK hH hO hp_94 (by decide) k5_3 isA1 rv2q132 (by omega) (by omega) dX6_takeAll_78 (fun z_150 ez_150 rz_150 el9 => ?_)
      refine ok_iast hx hb hK hH hS h00 hO hp_93 (by decide) k5_3 isA1 rv2q132 (by omega) (by omega) rz_150 el1 dX6_takeAll_79 (fun σ_s_151 H locs hO hF9 hi9 ha9 hH hS => ?_)
      replace hF := hF.ex hX hF9 (by decide)
      have e_152 : gI σ_s_151 a 2 = z_95 := (hi9 _ _).trans J_133_2
      have e_153 : gI σ_s_151 a 5 = z_117 := (hi9 _ _).trans J_133_3
      refine lv_aload_n hx hb dX6_takeAll_80 rfl (lv_at hl 0 rfl) ?_
      refine ok.getR hO hp_93 (by decide) k5_4 (by decide) (fun _ _ he hv kk => th_get (ci := 6) (C := RX6) (T := TX6) (N := 7) hx hb hts inX6 hown hK hH he rfl 4 (by decide) fl5 hv dX6_takeAll_81 kk) ?_
      refine lv_iload_n hx hb dX6_takeAll_84 rfl (lv_at hl 2 rfl) ?_
      refine lv_aload_n hx hb dX6_takeAll_85 rfl (lv_at hl 1 rfl) ?_
      refine ok.getR hO hp_94 (by decide) k5_4 (by decide) (fun _ _ he hv kk => th_get (ci := 6) (C := RX6) (T := TX6) (N := 7) hx hb hts inX6 hown hK hH he rfl 4 (by decide) fl5 hv dX6_takeAll_86 kk) ?_
      refine lv_iload_n hx hb dX6_takeAll_89 rfl (lv_at hl 2 rfl) ?_
      refine ok_zald hx hb hK hH hO hp_94 (by decide) k5_4 rv2q132 (by omega) (by omega) dX6_takeAll_90 (fun z_154 ez_154 rz_154 uz_154 => ?_)
      refine ok_zast hx hb hK hH hS h00 hO hp_93 (by decide) k5_4 rv2q132 (by omega) (by omega) (by omega) dX6_takeAll_91 (fun σ_s_155 H locs hO hF9 hi9 ha9 hH hS => ?_)
      replace hF := hF.ex hX hF9 (by decide)
      have e_156 : gI σ_s_155 a 2 = z_95 := (hi9 _ _).trans e_152
      have e_157 : gI σ_s_155 a 5 = z_117 := (hi9 _ _).trans e_153
      refine lv_iinc (v := I (v2q132 + 1)) (lv' := [(2, .int (I (v2q132 + 1))), (0, .ref a), (1, .ref b)]) hx hb dX6_takeAll_92 hl (k := 2) rfl (I_add _ _) (by decide) rfl (fun ls hl => ?_)
      refine lv_goto (tgt := 62) hx hb dX6_takeAll_95 (by decide) ?_
      exact ihJ_133 (v2q132 + 1) σ_s_155 _ _ _ (by first | omega | (dsimp only; omega)) ⟨hO, hF, hH, hS, lv_sub hl [1, 2, 0] rfl, ⟨by first | omega | (dsimp only; omega), by first | omega | (dsimp only; omega)⟩, by first | omega | (dsimp only; omega), by first | omega | (dsimp only; omega), e_156, e_157⟩
  · refine lv_icmp_ge (tgt := 52) hx hb dX6_takeAll_26 (by decide) (fun c_158 => ?_) (fun c_158 => ?_)
    · replace c_158 := (I_le (a := z_95) (b := v2q90) rz_95 rv2q90).mp c_158
      replace hl : lv_has ls 3 [(0, .ref a), (1, .ref b)] := lv_sub hl [0, 1] rfl
      exact jK_116 () σ_J_92 _ _ _ ⟨rfl, hH, hS, lv_sub hl [0, 1] rfl⟩
    · replace c_158 := mt (I_le (a := z_95) (b := v2q90) rz_95 rv2q90).mpr c_158
      refine lv_iload_n hx hb dX6_takeAll_29 rfl (lv_at hl 2 rfl) ?_
      refine lv_bipush (v := I 40) hx hb dX6_takeAll_30 (by decide) ?_
      refine lv_icmp_ge (tgt := 52) hx hb dX6_takeAll_32 (by decide) (fun c_159 => ?_) (fun c_159 => ?_)
      · replace c_159 := (I_le (a := 40) (b := v2q90) (show rng 40 from ⟨by decide, by decide⟩) rv2q90).mp c_159
        replace hl : lv_has ls 3 [(0, .ref a), (1, .ref b)] := lv_sub hl [0, 1] rfl
        exact jK_116 () σ_J_92 _ _ _ ⟨rfl, hH, hS, lv_sub hl [0, 1] rfl⟩
      · replace c_159 := mt (I_le (a := 40) (b := v2q90) (show rng 40 from ⟨by decide, by decide⟩) rv2q90).mpr c_159
        refine lv_aload_n hx hb dX6_takeAll_35 rfl (lv_at hl 0 rfl) ?_
        refine lv_iload_n hx hb dX6_takeAll_36 rfl (lv_at hl 2 rfl) ?_
        refine lv_aload_n hx hb dX6_takeAll_37 rfl (lv_at hl 1 rfl) ?_
        refine ok.getR hO hp_94 (by decide) k5_1 (by decide) (fun _ _ he hv kk => th_get (ci := 6) (C := RX6) (T := TX6) (N := 7) hx hb hts inX6 hown hK hH he rfl 1 (by decide) fl6 hv dX6_takeAll_38 kk) ?_
        refine lv_iload_n hx hb dX6_takeAll_41 rfl (lv_at hl 2 rfl) ?_
        refine ok_aald hx hb hK hH hO hp_94 (by decide) k5_1 (Or.inr rfl) rfl rv2q90 (by omega) (by omega) dX6_takeAll_42 (fun x_160 hx_161 => ?_)
        cases x_160 with
        | none =>
          obtain ⟨_, hc_164⟩ := hO.cell hp_93 (by decide) (ci := 6) rfl
          refine th_callv (va_runV (As := [.int (I v2q90), .null]) (rest := []) ⟨hx, hb, hml, hown, hts⟩ (e_takeBefore0 l G y b0 σ_J_92 Ev91 hO a hp_93 v2q90 (show rng v2q90 from rv2q90)) (cwV 2 hts gX6_takeAll_X6_takeBefore rfl rfl rfl (by decide +kernel) ⟨(by first | (simp only [headSpec]; omega) | omega | (dsimp only; omega)), (by first | (simp only [headSpec]; omega) | omega | (dsimp only; omega))⟩) (th_PV hK hH rfl hc_164) rfl rfl hl.1 rfl (lv_room (Nat.le_of_ble_eq_true rfl)) dX6_takeAll_43 ⟨(by first | (simp only [headSpec]; omega) | omega | (dsimp only; omega)), (by first | (simp only [headSpec]; omega) | omega | (dsimp only; omega))⟩) hS (fun σ_s_166 H locs hw_165 hH hS => ?_)
          obtain ⟨E_167, hX9, hO9, hF9, hw_165⟩ := hw_165
          replace hO := hO9
          replace hF := hF.ex hX hF9 (by decide)
          replace hX := hX.tr hX9
          have hp_168 : kd E_167 a = 5 := hX9.kd2 hp_93 (by decide)
          have hp_169 : kd E_167 b = 5 := hX9.kd2 hp_94 (by decide)
          refine lv_iinc (v := I (v2q90 + 1)) (lv' := [(2, .int (I (v2q90 + 1))), (0, .ref a), (1, .ref b)]) hx hb dX6_takeAll_46 hl (k := 2) rfl (I_add _ _) (by decide) rfl (fun ls hl => ?_)
          refine lv_goto (tgt := 21) hx hb dX6_takeAll_49 (by decide) ?_
          exact W.widen (by first | omega | (dsimp only; omega)) (by first | omega | (dsimp only; omega)) (ihJ_92 (v2q90 + 1, E_167) σ_s_166 _ _ _ (by first | omega | (dsimp only; omega)) ⟨hX, hO, hF, hp_168, hp_169, hH, hS, lv_sub hl [1, 2, 0] rfl, ⟨by first | omega | (dsimp only; omega), by first | omega | (dsimp only; omega)⟩, by first | omega | (dsimp only; omega), by first | omega | (dsimp only; omega)⟩)
        | some b_162 =>
          have hb_163 : kd Ev91 b_162 = 1 := hx_161 b_162 rfl
          obtain ⟨_, hc_170⟩ := hO.cell hp_93 (by decide) (ci := 6) rfl
          refine th_callv (va_runV (As := [.int (I v2q90), .ref b_162]) (rest := []) ⟨hx, hb, hml, hown, hts⟩ (e_takeBefore l G y b0 σ_J_92 Ev91 hO a hp_93 v2q90 (show rng v2q90 from rv2q90) b_162 hb_163) (cwV 2 hts gX6_takeAll_X6_takeBefore rfl rfl rfl (by decide +kernel) ⟨(by first | (simp only [headSpec]; omega) | omega | (dsimp only; omega)), (by first | (simp only [headSpec]; omega) | omega | (dsimp only; omega))⟩) (th_PV hK hH rfl hc_170) rfl rfl hl.1 rfl (lv_room (Nat.le_of_ble_eq_true rfl)) dX6_takeAll_43 ⟨(by first | (simp only [headSpec]; omega) | omega | (dsimp only; omega)), (by first | (simp only [headSpec]; omega) | omega | (dsimp only; omega))⟩) hS (fun σ_s_172 H locs hw_171 hH hS => ?_)
          obtain ⟨E_173, hX9, hO9, hF9, hw_171⟩ := hw_171
          replace hO := hO9
          replace hF := hF.ex hX hF9 (by decide)
          replace hX := hX.tr hX9
          have hp_174 : kd E_173 a = 5 := hX9.kd2 hp_93 (by decide)
          have hp_175 : kd E_173 b = 5 := hX9.kd2 hp_94 (by decide)
          refine lv_iinc (v := I (v2q90 + 1)) (lv' := [(2, .int (I (v2q90 + 1))), (0, .ref a), (1, .ref b)]) hx hb dX6_takeAll_46 hl (k := 2) rfl (I_add _ _) (by decide) rfl (fun ls hl => ?_)
          refine lv_goto (tgt := 21) hx hb dX6_takeAll_49 (by decide) ?_
          exact W.widen (by first | omega | (dsimp only; omega)) (by first | omega | (dsimp only; omega)) (ihJ_92 (v2q90 + 1, E_173) σ_s_172 _ _ _ (by first | omega | (dsimp only; omega)) ⟨hX, hO, hF, hp_174, hp_175, hH, hS, lv_sub hl [1, 2, 0] rfl, ⟨by first | omega | (dsimp only; omega), by first | omega | (dsimp only; omega)⟩, by first | omega | (dsimp only; omega), by first | omega | (dsimp only; omega)⟩)

set_option maxHeartbeats 1000000 in
set_option maxRecDepth 100000 in
theorem c_commit (l : Launch) (G : va_G) (y : Nat → ClassId) (b0 : Nat) (σ : th_M) (E : th_E) (hO : ok y E σ) (a : Nat) (h_a : kd E a = 6) : Met l yX0_commit wsX0_commit ({ frames := 3, cells := 5, slots := 245, locals := 111 }) (th_P G y b0 σ [.ref a]) (th_Qi G b0 (fun r σ1 => ∃ E1, ext E E1 ∧ ok y E1 σ1 ∧ fr [5, 1] E σ σ1 ∧ (0 ≤ r ∧ r ≤ 1) ∧ (True))) 5 245 (th_A b0) := by
  refine Met.ofW (cc := cX0_commit) (maxL := 1) (ret := (some .boolean)) (by decide) rfl ?_
  intro p e s m args below meth c s₁ B hml hv
  obtain ⟨rfl, hH, hK⟩ := hv
  have hx := B.exec
  have hb := B.bytes
  have hr := B.returns
  have hts := atoms_spec (ws := wsX0_commit) B.pre
  have hown : s.vm.findClass RX0 = some m.cls := findClass_of_methodNamed B.named
  have hlocks := B.notSynchronized
  have h00 : b0 ≤ s.heap.size := hH.1
  have hS : va_S (th_A b0) s.heap s.heap [] := va_S.rf
  have hF : fr [5, 1] E σ σ := fr.rf
  have hX : ext E E := ext.rf
  have inX0 : ∀ w ∈ wsX00, w ∈ wsX0_commit := by decide +kernel
  have inX6 : ∀ w ∈ wsX60, w ∈ wsX0_commit := by decide +kernel
  have inX9 : ∀ w ∈ wsX90, w ∈ wsX0_commit := by decide +kernel
  have fl0 := hts (.fieldLink RX0 14 "NestQuery$Acts" "work" "LNestQuery$Tree;") (by decide +kernel)
  have fl1 := hts (.fieldLink RX0 27 "NestQuery$Acts" "now" "LNestQuery$State;") (by decide +kernel)
  have hl := lv_entry ([.ref a]) (n := 1) (Nat.le_of_ble_eq_true rfl)
  rw [lg_entry_eq]
  generalize (lg_sl ([.ref a]) ++ List.replicate (1 - (lg_sl ([.ref a])).length) Slot.unset).toArray = ls at hl ⊢
  have hl : lv_has ls 1 [(0, .ref a)] := hl
  refine lv_aload_n hx hb dX0_commit_0 rfl (lv_at hl 0 rfl) ?_
  have hp_1 : kd E (ad E a 1) = 2 := ok.pk hO h_a (by decide) k6_1 rfl
  refine ok.getR hO h_a (by decide) k6_1 (by decide) (fun _ _ he hv kk => th_get (ci := 0) (C := RX0) (T := TX0) (N := 4) hx hb hts inX0 hown hK hH he rfl 1 (by decide) fl0 hv dX0_commit_1 kk) ?_
  refine ok.getI hO hp_1 (by decide) k2_4 (fun _ _ he hv kk => th_getN (ci := 9) (C := RX9) (T := TX9) (N := 5) hx hb hts inX9 hown hK hH he rfl 4 (by decide) (nl_9 hK) hv dX0_commit_4 kk) (fun z_2 e_3 rz_2 lz_2 uz_2 => ?_)
  refine lv_iconst (v := I 1) hx hb dX0_commit_7 (by decide) ?_
  refine lv_icmp_lt (tgt := 35) hx hb dX0_commit_8 (by decide) (fun c_4 => ?_) (fun c_4 => ?_)
  · replace c_4 := (I_lt (a := z_2) (b := 1) rz_2 (show rng 1 from ⟨by decide, by decide⟩)).mp c_4
    refine lv_iconst (v := I 0) hx hb dX0_commit_35 (by decide) ?_
    refine W.widen (k := 5) (n := 245) (Nat.le_of_ble_eq_true rfl) (Nat.le_of_ble_eq_true rfl) ?_
    exact th_zret hx hb hr hlocks hH hS (z := 0) (by omega) ⟨E, hX, hO, hF, ⟨by omega, by omega⟩, trivial⟩ dX0_commit_36
  · replace c_4 := mt (I_lt (a := z_2) (b := 1) rz_2 (show rng 1 from ⟨by decide, by decide⟩)).mpr c_4
    refine lv_aload_n hx hb dX0_commit_11 rfl (lv_at hl 0 rfl) ?_
    refine ok.getR hO h_a (by decide) k6_1 (by decide) (fun _ _ he hv kk => th_get (ci := 0) (C := RX0) (T := TX0) (N := 4) hx hb hts inX0 hown hK hH he rfl 1 (by decide) fl0 hv dX0_commit_12 kk) ?_
    refine ok.getIc hO hp_1 (by decide) k2_4 e_3 (fun _ _ he hv kk => th_getN (ci := 9) (C := RX9) (T := TX9) (N := 5) hx hb hts inX9 hown hK hH he rfl 4 (by decide) (nl_9 hK) hv dX0_commit_15 kk) ?_
    refine lv_bipush (v := I 60) hx hb dX0_commit_18 (by decide) ?_
    refine lv_icmp_gt (tgt := 35) hx hb dX0_commit_20 (by decide) (fun c_5 => ?_) (fun c_5 => ?_)
    · replace c_5 := (I_lt (a := 60) (b := z_2) (show rng 60 from ⟨by decide, by decide⟩) rz_2).mp c_5
      refine lv_iconst (v := I 0) hx hb dX0_commit_35 (by decide) ?_
      refine W.widen (k := 5) (n := 245) (Nat.le_of_ble_eq_true rfl) (Nat.le_of_ble_eq_true rfl) ?_
      exact th_zret hx hb hr hlocks hH hS (z := 0) (by omega) ⟨E, hX, hO, hF, ⟨by omega, by omega⟩, trivial⟩ dX0_commit_36
    · replace c_5 := mt (I_lt (a := 60) (b := z_2) (show rng 60 from ⟨by decide, by decide⟩) rz_2).mpr c_5
      refine lv_aload_n hx hb dX0_commit_23 rfl (lv_at hl 0 rfl) ?_
      refine ok.getR hO h_a (by decide) k6_1 (by decide) (fun _ _ he hv kk => th_get (ci := 0) (C := RX0) (T := TX0) (N := 4) hx hb hts inX0 hown hK hH he rfl 1 (by decide) fl0 hv dX0_commit_24 kk) ?_
      obtain ⟨_, hc_6⟩ := hO.cell hp_1 (by decide) (ci := 9) rfl
      refine th_calli (va_runV (As := []) (rest := []) ⟨hx, hb, hml, hown, hts⟩ (t2_deepest l G y b0 σ E hO (ad E a 1) hp_1) (cwV 0 hts gX0_commit_X9_deepest rfl rfl rfl (by decide +kernel) ⟨Nat.le_of_ble_eq_true rfl, Nat.le_of_ble_eq_true rfl⟩) (th_PV hK hH rfl hc_6) rfl rfl hl.1 rfl (lv_room (Nat.le_of_ble_eq_true rfl)) dX0_commit_27 ⟨Nat.le_of_ble_eq_true rfl, Nat.le_of_ble_eq_true rfl⟩) hS (fun z_9 σ_s_8 H locs rz_9 hw_7 hH hS => ?_)
      obtain ⟨e9, hw_7⟩ := hw_7
      replace e9 := e9.symm
      subst e9
      have hw_7 : 0 ≤ z_9 ∧ (∀ q : Nat, (q : Int) < gI σ (ad E a 1) 4 → (aF σ (ad E (ad E a 1) 3) q).toInt ≤ z_9) := hw_7
      refine lv_bipush (v := I 7) hx hb dX0_commit_30 (by decide) ?_
      refine lv_icmp_le (tgt := 37) hx hb dX0_commit_32 (by decide) (fun c_10 => ?_) (fun c_10 => ?_)
      · replace c_10 := (I_le (a := z_9) (b := 7) rz_9 (show rng 7 from ⟨by decide, by decide⟩)).mp c_10
        refine lv_aload_n hx hb dX0_commit_37 rfl (lv_at hl 0 rfl) ?_
        have hp_11 : kd E (ad E a 0) = 5 := ok.pk hO h_a (by decide) k6_0 rfl
        refine ok.getR hO h_a (by decide) k6_0 (by decide) (fun _ _ he hv kk => th_get (ci := 0) (C := RX0) (T := TX0) (N := 4) hx hb hts inX0 hown hK hH he rfl 0 (by decide) fl1 hv dX0_commit_38 kk) ?_
        obtain ⟨_, hc_12⟩ := hO.cell hp_11 (by decide) (ci := 6) rfl
        refine th_callv (va_runV (As := []) (rest := []) ⟨hx, hb, hml, hown, hts⟩ (e_remember l G y b0 σ E hO (ad E a 0) hp_11) (cwV 0 hts gX0_commit_X6_remember rfl rfl rfl (by decide +kernel) ⟨Nat.le_of_ble_eq_true rfl, Nat.le_of_ble_eq_true rfl⟩) (th_PV hK hH rfl hc_12) rfl rfl hl.1 rfl (lv_room (Nat.le_of_ble_eq_true rfl)) dX0_commit_41 ⟨Nat.le_of_ble_eq_true rfl, Nat.le_of_ble_eq_true rfl⟩) hS (fun σ_s_14 H locs hw_13 hH hS => ?_)
        obtain ⟨E_15, hX9, hO9, hF9, hw_13⟩ := hw_13
        have e_16 : gI σ_s_14 (ad E a 1) 4 = z_2 := (fr.ki hO hF9 hp_1 (by decide) (by decide) _).trans e_3
        have hdp9 := dp_move hw_7.2 (by omega) hO hF9 hX9 hp_1 (by decide)
        rw [← hX9.ad2 h_a (by decide) 1] at hdp9
        replace hO := hO9
        replace hF := hF.ex hX hF9 (by decide)
        replace hX := hX.tr hX9
        have hp_17 : kd E_15 a = 6 := hX9.kd2 h_a (by decide)
        refine lv_aload_n hx hb dX0_commit_44 rfl (lv_at hl 0 rfl) ?_
        have hp_18 : kd E_15 (ad E_15 a 0) = 5 := ok.pk hO hp_17 (by decide) k6_0 rfl
        refine ok.getR hO hp_17 (by decide) k6_0 (by decide) (fun _ _ he hv kk => th_get (ci := 0) (C := RX0) (T := TX0) (N := 4) hx hb hts inX0 hown hK hH he rfl 0 (by decide) fl1 hv dX0_commit_45 kk) ?_
        have hp_19 : kd E_15 (ad E_15 (ad E_15 a 0) 0) = 1 := ok.pk hO hp_18 (by decide) k5_0 rfl
        refine ok.getR hO hp_18 (by decide) k5_0 (by decide) (fun _ _ he hv kk => th_getN (ci := 6) (C := RX6) (T := TX6) (N := 7) hx hb hts inX6 hown hK hH he rfl 0 (by decide) (nl_14 hK) hv dX0_commit_48 kk) ?_
        refine lv_aload_n hx hb dX0_commit_51 rfl (lv_at hl 0 rfl) ?_
        have hp_20 : kd E_15 (ad E_15 a 1) = 2 := ok.pk hO hp_17 (by decide) k6_1 rfl
        refine ok.getR hO hp_17 (by decide) k6_1 (by decide) (fun _ _ he hv kk => th_get (ci := 0) (C := RX0) (T := TX0) (N := 4) hx hb hts inX0 hown hK hH he rfl 1 (by decide) fl0 hv dX0_commit_52 kk) ?_
        obtain ⟨_, hc_21⟩ := hO.cell hp_19 (by decide) (ci := 9) rfl
        refine th_callv (va_runV (As := [.ref (ad E_15 a 1)]) (rest := []) ⟨hx, hb, hml, hown, hts⟩ (t12_become l G y b0 σ_s_14 E_15 hO (ad E_15 (ad E_15 a 0) 0) hp_19 (ad E_15 a 1) hp_20 (hdp9)) (cwV 1 hts gX0_commit_X9_become rfl rfl rfl (by decide +kernel) ⟨Nat.le_of_ble_eq_true rfl, Nat.le_of_ble_eq_true rfl⟩) (th_PV hK hH rfl hc_21) rfl rfl hl.1 rfl (lv_room (Nat.le_of_ble_eq_true rfl)) dX0_commit_55 ⟨Nat.le_of_ble_eq_true rfl, Nat.le_of_ble_eq_true rfl⟩) hS (fun σ_s_23 H locs hw_22 hH hS => ?_)
        obtain ⟨hO9, hF9, hw_22⟩ := hw_22
        replace hO := hO9
        replace hF := hF.ex hX hF9 (by decide)
        refine lv_iconst (v := I 1) hx hb dX0_commit_58 (by decide) ?_
        exact th_zret hx hb hr hlocks hH hS (z := 1) (by omega) ⟨E_15, hX, hO, hF, ⟨by omega, by omega⟩, trivial⟩ dX0_commit_59
      · replace c_10 := mt (I_le (a := z_9) (b := 7) rz_9 (show rng 7 from ⟨by decide, by decide⟩)).mpr c_10
        refine lv_iconst (v := I 0) hx hb dX0_commit_35 (by decide) ?_
        refine W.widen (k := 5) (n := 245) (Nat.le_of_ble_eq_true rfl) (Nat.le_of_ble_eq_true rfl) ?_
        exact th_zret hx hb hr hlocks hH hS (z := 0) (by omega) ⟨E, hX, hO, hF, ⟨by omega, by omega⟩, trivial⟩ dX0_commit_36

set_option maxHeartbeats 1000000 in
set_option maxRecDepth 100000 in
theorem c_putAll (l : Launch) (G : va_G) (y : Nat → ClassId) (b0 : Nat) (σ : th_M) (E : th_E) (hO : ok y E σ) (a : Nat) (h_a : kd E a = 6) (w : Int64) (b : Nat) (h_b : kd E b = 1) : Met l yX0_putAll wsX0_putAll ({ frames := 4, cells := 5, slots := 245, locals := 149 }) (th_P G y b0 σ [.ref a, .long w, .ref b]) (th_Qi G b0 (fun r σ1 => ∃ E1, ext E E1 ∧ ok y E1 σ1 ∧ fr [5, 1, 2] E σ σ1 ∧ (True))) 5 245 (th_A b0) := by
  refine Met.ofW (cc := cX0_putAll) (maxL := 7) (ret := (some .int)) (by decide) rfl ?_
  intro p e s m args below meth c s₁ B hml hv
  obtain ⟨rfl, hH, hK⟩ := hv
  have hx := B.exec
  have hb := B.bytes
  have hr := B.returns
  have hts := atoms_spec (ws := wsX0_putAll) B.pre
  have hown : s.vm.findClass RX0 = some m.cls := findClass_of_methodNamed B.named
  have hlocks := B.notSynchronized
  have h00 : b0 ≤ s.heap.size := hH.1
  have hS : va_S (th_A b0) s.heap s.heap [] := va_S.rf
  have hF : fr [5, 1, 2] E σ σ := fr.rf
  have hX : ext E E := ext.rf
  have inX0 : ∀ w ∈ wsX00, w ∈ wsX0_putAll := by decide +kernel
  have inX6 : ∀ w ∈ wsX60, w ∈ wsX0_putAll := by decide +kernel
  have fl0 := hts (.fieldLink RX0 14 "NestQuery$Acts" "work" "LNestQuery$Tree;") (by decide +kernel)
  have fl1 := hts (.fieldLink RX0 27 "NestQuery$Acts" "now" "LNestQuery$State;") (by decide +kernel)
  have fl2 := hts (.initialized RX10) (by decide +kernel)
  have fl3 := hts (.static yX10_isIn) (by decide +kernel)
  have hl := lv_entry ([.ref a, .long w, .ref b]) (n := 7) (Nat.le_of_ble_eq_true rfl)
  rw [lg_entry_eq]
  generalize (lg_sl ([.ref a, .long w, .ref b]) ++ List.replicate (7 - (lg_sl ([.ref a, .long w, .ref b])).length) Slot.unset).toArray = ls at hl ⊢
  have hl : lv_has ls 7 [(0, .ref a), (1, .long w), (3, .ref b)] := hl
  refine lv_aload_n hx hb dX0_putAll_0 rfl (lv_at hl 0 rfl) ?_
  refine lv_lload_n hx hb dX0_putAll_1 rfl (lv_at hl 1 rfl) ?_
  obtain ⟨_, hc_1⟩ := hO.cell h_a (by decide) (ci := 0) rfl
  refine th_calll (va_runV (As := [.long w]) (rest := []) ⟨hx, hb, hml, hown, hts⟩ (c_outermost l G y b0 σ E hO a h_a w) (cwV 1 hts gX0_putAll_X0_outermost rfl rfl rfl (by decide +kernel) ⟨Nat.le_of_ble_eq_true rfl, Nat.le_of_ble_eq_true rfl⟩) (th_PV hK hH rfl hc_1) rfl rfl hl.1 rfl (lv_room (Nat.le_of_ble_eq_true rfl)) dX0_putAll_2 ⟨Nat.le_of_ble_eq_true rfl, Nat.le_of_ble_eq_true rfl⟩) hS (fun w_4 σ_s_3 H locs hw_2 hH hS => ?_)
  obtain ⟨e9, hw_2⟩ := hw_2
  replace e9 := e9.symm
  subst e9
  refine lv_lstore (lv' := [(4, .long w_4), (0, .ref a), (1, .long w), (3, .ref b)]) hx hb dX0_putAll_5 hl (by decide) rfl (fun ls hl => ?_)
  refine lv_lload hx hb dX0_putAll_7 (lv_at hl 0 rfl) ?_
  refine lv_lconst (v := 0) hx hb dX0_putAll_9 (by decide) ?_
  refine W.lcmp hx hb dX0_putAll_10 ?_
  refine th_topi (fun z_5 rz_5 => ?_)
  refine lv_if_eq (tgt := 23) hx hb dX0_putAll_11 (by decide) (fun c_6 => ?_) (fun c_6 => ?_)
  · replace c_6 := (I_eq (a := z_5) (b := 0) rz_5 (show rng 0 from ⟨by decide, by decide⟩)).mp c_6
    refine lv_iconst (v := I (-1)) hx hb dX0_putAll_23 (by decide) ?_
    refine W.widen (k := 5) (n := 245) (Nat.le_of_ble_eq_true rfl) (Nat.le_of_ble_eq_true rfl) ?_
    exact th_iret hx hb hr hlocks hH hS (z := (-1)) (show rng (-1) from ⟨by decide, by decide⟩) ⟨E, hX, hO, hF, trivial⟩ dX0_putAll_24
  · replace c_6 := mt (I_eq (a := z_5) (b := 0) rz_5 (show rng 0 from ⟨by decide, by decide⟩)).mpr c_6
    refine lv_lload hx hb dX0_putAll_14 (lv_at hl 0 rfl) ?_
    refine lv_aload_n hx hb dX0_putAll_16 rfl (lv_at hl 3 rfl) ?_
    refine th_calli (va_runS (As := [.long w_4, .ref b]) (rest := []) ⟨hx, hb, hml, hown, hts⟩ (c_tooMany l G y b0 σ E hO w_4 b h_b) (va_cwS 2 hts gX0_putAll_X0_tooManyCopies rfl rfl rfl (by decide +kernel) ⟨Nat.le_of_ble_eq_true rfl, Nat.le_of_ble_eq_true rfl⟩) (th_PS hK hH) rfl rfl hl.1 rfl (lv_room (Nat.le_of_ble_eq_true rfl)) dX0_putAll_17 ⟨Nat.le_of_ble_eq_true rfl, Nat.le_of_ble_eq_true rfl⟩) hS (fun z_9 σ_s_8 H locs rz_9 hw_7 hH hS => ?_)
    obtain ⟨e9, bhw_7, hw_7⟩ := hw_7
    replace e9 := e9.symm
    subst e9
    refine lv_if_eq (tgt := 25) hx hb dX0_putAll_20 (by decide) (fun c_10 => ?_) (fun c_10 => ?_)
    · replace c_10 := (I_eq (a := z_9) (b := 0) rz_9 (show rng 0 from ⟨by decide, by decide⟩)).mp c_10
      refine lv_aload_n hx hb dX0_putAll_25 rfl (lv_at hl 1 rfl) ?_
      have hp_11 : kd E (ad E a 1) = 2 := ok.pk hO h_a (by decide) k6_1 rfl
      refine ok.getR hO h_a (by decide) k6_1 (by decide) (fun _ _ he hv kk => th_get (ci := 0) (C := RX0) (T := TX0) (N := 4) hx hb hts inX0 hown hK hH he rfl 1 (by decide) fl0 hv dX0_putAll_26 kk) ?_
      refine lv_aload_n hx hb dX0_putAll_29 rfl (lv_at hl 1 rfl) ?_
      have hp_12 : kd E (ad E a 0) = 5 := ok.pk hO h_a (by decide) k6_0 rfl
      refine ok.getR hO h_a (by decide) k6_0 (by decide) (fun _ _ he hv kk => th_get (ci := 0) (C := RX0) (T := TX0) (N := 4) hx hb hts inX0 hown hK hH he rfl 0 (by decide) fl1 hv dX0_putAll_30 kk) ?_
      have hp_13 : kd E (ad E (ad E a 0) 0) = 1 := ok.pk hO hp_12 (by decide) k5_0 rfl
      refine ok.getR hO hp_12 (by decide) k5_0 (by decide) (fun _ _ he hv kk => th_getN (ci := 6) (C := RX6) (T := TX6) (N := 7) hx hb hts inX6 hown hK hH he rfl 0 (by decide) (nl_14 hK) hv dX0_putAll_33 kk) ?_
      obtain ⟨_, hc_14⟩ := hO.cell hp_11 (by decide) (ci := 9) rfl
      refine th_callv (va_runV (As := [.ref (ad E (ad E a 0) 0)]) (rest := []) ⟨hx, hb, hml, hown, hts⟩ (t21_become l G y b0 σ E hO (ad E a 1) hp_11 (ad E (ad E a 0) 0) hp_13) (cwV 1 hts gX0_putAll_X9_become rfl rfl rfl (by decide +kernel) ⟨Nat.le_of_ble_eq_true rfl, Nat.le_of_ble_eq_true rfl⟩) (th_PV hK hH rfl hc_14) rfl rfl hl.1 rfl (lv_room (Nat.le_of_ble_eq_true rfl)) dX0_putAll_36 ⟨Nat.le_of_ble_eq_true rfl, Nat.le_of_ble_eq_true rfl⟩) hS (fun σ_s_16 H locs hw_15 hH hS => ?_)
      obtain ⟨hO9, hF9, hw_15⟩ := hw_15
      replace hO := hO9
      replace hF := hF.ex hX hF9 (by decide)
      have hw_15 : gI σ_s_16 (ad E a 1) 4 = gI σ (ad E (ad E a 0) 0) 4 := hw_15
      refine lv_bipush (v := I 59) hx hb dX0_putAll_39 (by decide) ?_
      refine lv_istore (lv' := [(6, .int (I 59)), (4, .long w_4), (0, .ref a), (1, .long w), (3, .ref b)]) hx hb dX0_putAll_41 hl (by decide) rfl (fun ls hl => ?_)
      replace hl : lv_has ls 7 [(6, .int (I 59)), (4, .long w_4), (0, .ref a), (3, .ref b)] := lv_sub hl [0, 1, 2, 4] rfl
      refine th_loop (α := Int) (pc := 43) (fun x9 => (x9 + 1).toNat) (fun x9 σ9 H9 l9 ls9 => ok y E σ9 ∧ fr [5, 1, 2] E σ σ9 ∧ th_H G b0 σ9 H9 ∧ va_S (th_A b0) s.heap H9 l9 ∧ lv_has ls9 7 [(0, .ref a), (3, .ref b), (4, .long w_4), (6, .int (I x9))] ∧ rng x9 ∧ (-1 ≤ x9) ∧ (x9 ≤ 59)) ?_ (59) σ_s_16 _ _ _ ⟨hO, hF, hH, hS, lv_sub hl [2, 3, 1, 0] rfl, (show rng 59 from ⟨by decide, by decide⟩), by first | omega | (dsimp only; omega), by first | omega | (dsimp only; omega)⟩
      intro x9 σ_J_29 H locs ls hI9 ihJ_29
      obtain ⟨v6q28, ex9⟩ : ∃ z, z = x9 := ⟨_, rfl⟩
      subst ex9
      obtain ⟨hO, hF, hH, hS, hl, rv6q28, J_29_0, J_29_1⟩ := hI9
      have hl : lv_has ls 7 [(0, .ref a), (3, .ref b), (4, .long w_4), (6, .int (I v6q28))] := hl
      have rv6q28 : rng v6q28 := rv6q28
      have J_29_0 : -1 ≤ v6q28 := J_29_0
      have J_29_1 : v6q28 ≤ 59 := J_29_1
      refine lv_iload hx hb dX0_putAll_43 (lv_at hl 3 rfl) ?_
      refine lv_if_lt (tgt := 80) hx hb dX0_putAll_45 (by decide) (fun c_30 => ?_) (fun c_30 => ?_)
      · replace c_30 := (I_lt (a := v6q28) (b := 0) rv6q28 (show rng 0 from ⟨by decide, by decide⟩)).mp c_30
        refine lv_aload_n hx hb dX0_putAll_80 rfl (lv_at hl 0 rfl) ?_
        obtain ⟨_, hc_31⟩ := hO.cell h_a (by decide) (ci := 0) rfl
        refine th_calli (va_runV (As := []) (rest := []) ⟨hx, hb, hml, hown, hts⟩ (c_commit l G y b0 σ_J_29 E hO a h_a) (cwV 0 hts gX0_putAll_X0_commit rfl rfl rfl (by decide +kernel) ⟨Nat.le_of_ble_eq_true rfl, Nat.le_of_ble_eq_true rfl⟩) (th_PV hK hH rfl hc_31) rfl rfl hl.1 rfl (lv_room (Nat.le_of_ble_eq_true rfl)) dX0_putAll_81 ⟨Nat.le_of_ble_eq_true rfl, Nat.le_of_ble_eq_true rfl⟩) hS (fun z_34 σ_s_33 H locs rz_34 hw_32 hH hS => ?_)
        obtain ⟨E_35, hX9, hO9, hF9, bhw_32, hw_32⟩ := hw_32
        replace hO := hO9
        replace hF := hF.ex hX hF9 (by decide)
        replace hX := hX.tr hX9
        have hp_36 : kd E_35 a = 6 := hX9.kd2 h_a (by decide)
        have hp_37 : kd E_35 b = 1 := hX9.kd2 h_b (by decide)
        refine lv_if_eq (tgt := 95) hx hb dX0_putAll_84 (by decide) (fun c_38 => ?_) (fun c_38 => ?_)
        · replace c_38 := (I_eq (a := z_34) (b := 0) rz_34 (show rng 0 from ⟨by decide, by decide⟩)).mp c_38
          refine lv_iconst (v := I (-1)) hx hb dX0_putAll_95 (by decide) ?_
          exact th_iret hx hb hr hlocks hH hS (z := (-1)) (show rng (-1) from ⟨by decide, by decide⟩) ⟨E_35, hX, hO, hF, trivial⟩ dX0_putAll_96
        · replace c_38 := mt (I_eq (a := z_34) (b := 0) rz_34 (show rng 0 from ⟨by decide, by decide⟩)).mpr c_38
          refine lv_lload hx hb dX0_putAll_87 (lv_at hl 2 rfl) ?_
          refine th_calli (va_runS (As := [.long w_4]) (rest := []) ⟨hx, hb, hml, hown, hts⟩ (j_bitCountL l G y b0 σ_s_33 E_35 hO w_4) (va_cwS 1 hts gX0_putAll_J13_bitCount_95d88 rfl rfl rfl (by decide +kernel) ⟨Nat.le_of_ble_eq_true rfl, Nat.le_of_ble_eq_true rfl⟩) (th_PS hK hH) rfl rfl hl.1 rfl (lv_room (Nat.le_of_ble_eq_true rfl)) dX0_putAll_89 ⟨Nat.le_of_ble_eq_true rfl, Nat.le_of_ble_eq_true rfl⟩) hS (fun z_41 σ_s_40 H locs rz_41 hw_39 hH hS => ?_)
          obtain ⟨e9, hw_39⟩ := hw_39
          replace e9 := e9.symm
          subst e9
          refine lv_goto (tgt := 96) hx hb dX0_putAll_92 (by decide) ?_
          exact th_iret hx hb hr hlocks hH hS (z := z_41) rz_41 ⟨E_35, hX, hO, hF, trivial⟩ dX0_putAll_96
      · replace c_30 := mt (I_lt (a := v6q28) (b := 0) rv6q28 (show rng 0 from ⟨by decide, by decide⟩)).mpr c_30
        refine lv_lload hx hb dX0_putAll_48 (lv_at hl 2 rfl) ?_
        refine lv_iload hx hb dX0_putAll_50 (lv_at hl 3 rfl) ?_
        refine th_calli (va_runSN (As := [.long w_4, .int (I v6q28)]) (rest := []) ⟨hx, hb, hml, hown, hts⟩ (n_isIn l G y b0 σ_J_29 E hO w_4 v6q28 (show rng v6q28 from rv6q28)) ⟨(va_cnB 2 hts gX0_putAll_X10_isIn_n51 rfl rfl rfl (ml_7 hK) fl2 (by decide +kernel) ⟨Nat.le_of_ble_eq_true rfl, Nat.le_of_ble_eq_true rfl⟩), fl3, trivial⟩ (th_PS hK hH) rfl rfl hl.1 rfl (lv_room (Nat.le_of_ble_eq_true rfl)) dX0_putAll_52 ⟨Nat.le_of_ble_eq_true rfl, Nat.le_of_ble_eq_true rfl⟩) hS (fun z_44 σ_s_43 H locs rz_44 hw_42 hH hS => ?_)
        obtain ⟨e9, bhw_42, hw_42⟩ := hw_42
        replace e9 := e9.symm
        subst e9
        refine lv_if_eq (tgt := 74) hx hb dX0_putAll_55 (by decide) (fun c_45 => ?_) (fun c_45 => ?_)
        · replace c_45 := (I_eq (a := z_44) (b := 0) rz_44 (show rng 0 from ⟨by decide, by decide⟩)).mp c_45
          refine lv_iinc (v := I (v6q28 + (-1))) (lv' := [(6, .int (I (v6q28 + (-1)))), (0, .ref a), (3, .ref b), (4, .long w_4)]) hx hb dX0_putAll_74 hl (k := 3) rfl (I_add _ _) (by decide) rfl (fun ls hl => ?_)
          refine lv_goto (tgt := 43) hx hb dX0_putAll_77 (by decide) ?_
          exact ihJ_29 (v6q28 + (-1)) σ_J_29 _ _ _ (by first | omega | (dsimp only; omega)) ⟨hO, hF, hH, hS, lv_sub hl [1, 2, 3, 0] rfl, ⟨by first | omega | (dsimp only; omega), by first | omega | (dsimp only; omega)⟩, by first | omega | (dsimp only; omega), by first | omega | (dsimp only; omega)⟩
        · replace c_45 := mt (I_eq (a := z_44) (b := 0) rz_44 (show rng 0 from ⟨by decide, by decide⟩)).mpr c_45
          refine lv_aload_n hx hb dX0_putAll_58 rfl (lv_at hl 0 rfl) ?_
          refine ok.getR hO h_a (by decide) k6_1 (by decide) (fun _ _ he hv kk => th_get (ci := 0) (C := RX0) (T := TX0) (N := 4) hx hb hts inX0 hown hK hH he rfl 1 (by decide) fl0 hv dX0_putAll_59 kk) ?_
          refine lv_iload hx hb dX0_putAll_62 (lv_at hl 3 rfl) ?_
          refine lv_aload_n hx hb dX0_putAll_64 rfl (lv_at hl 1 rfl) ?_
          refine lv_iconst (v := I 0) hx hb dX0_putAll_65 (by decide) ?_
          obtain ⟨_, hc_46⟩ := hO.cell hp_11 (by decide) (ci := 9) rfl
          refine th_calli (va_runV (As := [.int (I v6q28), .ref b, .int (I 0)]) (rest := []) ⟨hx, hb, hml, hown, hts⟩ (t21_replace l G y b0 σ_J_29 E hO (ad E a 1) hp_11 v6q28 (show rng v6q28 from rv6q28) (by omega) (by omega) b h_b 0 (show rng 0 from (show rng 0 from ⟨by decide, by decide⟩)) (by omega) (by omega)) (cwV 3 hts gX0_putAll_X9_replace rfl rfl rfl (by decide +kernel) ⟨Nat.le_of_ble_eq_true rfl, Nat.le_of_ble_eq_true rfl⟩) (th_PV hK hH rfl hc_46) rfl rfl hl.1 rfl (lv_room (Nat.le_of_ble_eq_true rfl)) dX0_putAll_66 ⟨Nat.le_of_ble_eq_true rfl, Nat.le_of_ble_eq_true rfl⟩) hS (fun z_49 σ_s_48 H locs rz_49 hw_47 hH hS => ?_)
          obtain ⟨hO9, hF9, bhw_47, hw_47⟩ := hw_47
          replace hO := hO9
          replace hF := hF.ex hX hF9 (by decide)
          refine lv_if_ne (tgt := 74) hx hb dX0_putAll_69 (by decide) (fun c_50 => ?_) (fun c_50 => ?_)
          · replace c_50 := mt (I_eq (a := z_49) (b := 0) rz_49 (show rng 0 from ⟨by decide, by decide⟩)).mpr c_50
            refine lv_iinc (v := I (v6q28 + (-1))) (lv' := [(6, .int (I (v6q28 + (-1)))), (0, .ref a), (3, .ref b), (4, .long w_4)]) hx hb dX0_putAll_74 hl (k := 3) rfl (I_add _ _) (by decide) rfl (fun ls hl => ?_)
            refine lv_goto (tgt := 43) hx hb dX0_putAll_77 (by decide) ?_
            exact ihJ_29 (v6q28 + (-1)) σ_s_48 _ _ _ (by first | omega | (dsimp only; omega)) ⟨hO, hF, hH, hS, lv_sub hl [1, 2, 3, 0] rfl, ⟨by first | omega | (dsimp only; omega), by first | omega | (dsimp only; omega)⟩, by first | omega | (dsimp only; omega), by first | omega | (dsimp only; omega)⟩
          · replace c_50 := (I_eq (a := z_49) (b := 0) rz_49 (show rng 0 from ⟨by decide, by decide⟩)).mp c_50
            refine lv_iconst (v := I (-1)) hx hb dX0_putAll_72 (by decide) ?_
            refine W.widen (k := 5) (n := 245) (Nat.le_of_ble_eq_true rfl) (Nat.le_of_ble_eq_true rfl) ?_
            exact th_iret hx hb hr hlocks hH hS (z := (-1)) (show rng (-1) from ⟨by decide, by decide⟩) ⟨E, hX, hO, hF, trivial⟩ dX0_putAll_73
    · replace c_10 := mt (I_eq (a := z_9) (b := 0) rz_9 (show rng 0 from ⟨by decide, by decide⟩)).mpr c_10
      refine lv_iconst (v := I (-1)) hx hb dX0_putAll_23 (by decide) ?_
      refine W.widen (k := 5) (n := 245) (Nat.le_of_ble_eq_true rfl) (Nat.le_of_ble_eq_true rfl) ?_
      exact th_iret hx hb hr hlocks hH hS (z := (-1)) (show rng (-1) from ⟨by decide, by decide⟩) ⟨E, hX, hO, hF, trivial⟩ dX0_putAll_24

set_option maxHeartbeats 1000000 in
set_option maxRecDepth 100000 in
theorem c_appendAll (l : Launch) (G : va_G) (y : Nat → ClassId) (b0 : Nat) (σ : th_M) (E : th_E) (hO : ok y E σ) (a : Nat) (h_a : kd E a = 6) (w : Int64) (b : Nat) (h_b : kd E b = 1) : Met l yX0_appendAll wsX0_appendAll ({ frames := 4, cells := 5, slots := 245, locals := 148 }) (th_P G y b0 σ [.ref a, .long w, .ref b]) (th_Qi G b0 (fun r σ1 => ∃ E1, ext E E1 ∧ ok y E1 σ1 ∧ fr [5, 1, 2] E σ σ1 ∧ (True))) 5 245 (th_A b0) := by
  refine Met.ofW (cc := cX0_appendAll) (maxL := 7) (ret := (some .int)) (by decide) rfl ?_
  intro p e s m args below meth c s₁ B hml hv
  obtain ⟨rfl, hH, hK⟩ := hv
  have hx := B.exec
  have hb := B.bytes
  have hr := B.returns
  have hts := atoms_spec (ws := wsX0_appendAll) B.pre
  have hown : s.vm.findClass RX0 = some m.cls := findClass_of_methodNamed B.named
  have hlocks := B.notSynchronized
  have h00 : b0 ≤ s.heap.size := hH.1
  have hS : va_S (th_A b0) s.heap s.heap [] := va_S.rf
  have hF : fr [5, 1, 2] E σ σ := fr.rf
  have hX : ext E E := ext.rf
  have inX0 : ∀ w ∈ wsX00, w ∈ wsX0_appendAll := by decide +kernel
  have inX6 : ∀ w ∈ wsX60, w ∈ wsX0_appendAll := by decide +kernel
  have fl0 := hts (.fieldLink RX0 14 "NestQuery$Acts" "work" "LNestQuery$Tree;") (by decide +kernel)
  have fl1 := hts (.fieldLink RX0 27 "NestQuery$Acts" "now" "LNestQuery$State;") (by decide +kernel)
  have fl2 := hts (.initialized RX10) (by decide +kernel)
  have fl3 := hts (.static yX10_isIn) (by decide +kernel)
  have hl := lv_entry ([.ref a, .long w, .ref b]) (n := 7) (Nat.le_of_ble_eq_true rfl)
  rw [lg_entry_eq]
  generalize (lg_sl ([.ref a, .long w, .ref b]) ++ List.replicate (7 - (lg_sl ([.ref a, .long w, .ref b])).length) Slot.unset).toArray = ls at hl ⊢
  have hl : lv_has ls 7 [(0, .ref a), (1, .long w), (3, .ref b)] := hl
  refine lv_aload_n hx hb dX0_appendAll_0 rfl (lv_at hl 0 rfl) ?_
  refine lv_lload_n hx hb dX0_appendAll_1 rfl (lv_at hl 1 rfl) ?_
  refine lv_iconst (v := I 2) hx hb dX0_appendAll_2 (by decide) ?_
  obtain ⟨_, hc_1⟩ := hO.cell h_a (by decide) (ci := 0) rfl
  refine th_calll (va_runV (As := [.long w, .int (I 2)]) (rest := []) ⟨hx, hb, hml, hown, hts⟩ (c_ofKind l G y b0 σ E hO a h_a w 2 (show rng 2 from (show rng 2 from ⟨by decide, by decide⟩))) (cwV 2 hts gX0_appendAll_X0_ofKind rfl rfl rfl (by decide +kernel) ⟨Nat.le_of_ble_eq_true rfl, Nat.le_of_ble_eq_true rfl⟩) (th_PV hK hH rfl hc_1) rfl rfl hl.1 rfl (lv_room (Nat.le_of_ble_eq_true rfl)) dX0_appendAll_3 ⟨Nat.le_of_ble_eq_true rfl, Nat.le_of_ble_eq_true rfl⟩) hS (fun w_4 σ_s_3 H locs hw_2 hH hS => ?_)
  obtain ⟨e9, hw_2⟩ := hw_2
  replace e9 := e9.symm
  subst e9
  refine lv_lstore (lv' := [(4, .long w_4), (0, .ref a), (1, .long w), (3, .ref b)]) hx hb dX0_appendAll_6 hl (by decide) rfl (fun ls hl => ?_)
  refine lv_lload hx hb dX0_appendAll_8 (lv_at hl 0 rfl) ?_
  refine lv_lconst (v := 0) hx hb dX0_appendAll_10 (by decide) ?_
  refine W.lcmp hx hb dX0_appendAll_11 ?_
  refine th_topi (fun z_5 rz_5 => ?_)
  refine lv_if_eq (tgt := 24) hx hb dX0_appendAll_12 (by decide) (fun c_6 => ?_) (fun c_6 => ?_)
  · replace c_6 := (I_eq (a := z_5) (b := 0) rz_5 (show rng 0 from ⟨by decide, by decide⟩)).mp c_6
    refine lv_iconst (v := I (-1)) hx hb dX0_appendAll_24 (by decide) ?_
    refine W.widen (k := 5) (n := 245) (Nat.le_of_ble_eq_true rfl) (Nat.le_of_ble_eq_true rfl) ?_
    exact th_iret hx hb hr hlocks hH hS (z := (-1)) (show rng (-1) from ⟨by decide, by decide⟩) ⟨E, hX, hO, hF, trivial⟩ dX0_appendAll_25
  · replace c_6 := mt (I_eq (a := z_5) (b := 0) rz_5 (show rng 0 from ⟨by decide, by decide⟩)).mpr c_6
    refine lv_lload hx hb dX0_appendAll_15 (lv_at hl 0 rfl) ?_
    refine lv_aload_n hx hb dX0_appendAll_17 rfl (lv_at hl 3 rfl) ?_
    refine th_calli (va_runS (As := [.long w_4, .ref b]) (rest := []) ⟨hx, hb, hml, hown, hts⟩ (c_tooMany l G y b0 σ E hO w_4 b h_b) (va_cwS 2 hts gX0_appendAll_X0_tooManyCopies rfl rfl rfl (by decide +kernel) ⟨Nat.le_of_ble_eq_true rfl, Nat.le_of_ble_eq_true rfl⟩) (th_PS hK hH) rfl rfl hl.1 rfl (lv_room (Nat.le_of_ble_eq_true rfl)) dX0_appendAll_18 ⟨Nat.le_of_ble_eq_true rfl, Nat.le_of_ble_eq_true rfl⟩) hS (fun z_9 σ_s_8 H locs rz_9 hw_7 hH hS => ?_)
    obtain ⟨e9, bhw_7, hw_7⟩ := hw_7
    replace e9 := e9.symm
    subst e9
    refine lv_if_eq (tgt := 26) hx hb dX0_appendAll_21 (by decide) (fun c_10 => ?_) (fun c_10 => ?_)
    · replace c_10 := (I_eq (a := z_9) (b := 0) rz_9 (show rng 0 from ⟨by decide, by decide⟩)).mp c_10
      refine lv_aload_n hx hb dX0_appendAll_26 rfl (lv_at hl 1 rfl) ?_
      have hp_11 : kd E (ad E a 1) = 2 := ok.pk hO h_a (by decide) k6_1 rfl
      refine ok.getR hO h_a (by decide) k6_1 (by decide) (fun _ _ he hv kk => th_get (ci := 0) (C := RX0) (T := TX0) (N := 4) hx hb hts inX0 hown hK hH he rfl 1 (by decide) fl0 hv dX0_appendAll_27 kk) ?_
      refine lv_aload_n hx hb dX0_appendAll_30 rfl (lv_at hl 1 rfl) ?_
      have hp_12 : kd E (ad E a 0) = 5 := ok.pk hO h_a (by decide) k6_0 rfl
      refine ok.getR hO h_a (by decide) k6_0 (by decide) (fun _ _ he hv kk => th_get (ci := 0) (C := RX0) (T := TX0) (N := 4) hx hb hts inX0 hown hK hH he rfl 0 (by decide) fl1 hv dX0_appendAll_31 kk) ?_
      have hp_13 : kd E (ad E (ad E a 0) 0) = 1 := ok.pk hO hp_12 (by decide) k5_0 rfl
      refine ok.getR hO hp_12 (by decide) k5_0 (by decide) (fun _ _ he hv kk => th_getN (ci := 6) (C := RX6) (T := TX6) (N := 7) hx hb hts inX6 hown hK hH he rfl 0 (by decide) (nl_14 hK) hv dX0_appendAll_34 kk) ?_
      obtain ⟨_, hc_14⟩ := hO.cell hp_11 (by decide) (ci := 9) rfl
      refine th_callv (va_runV (As := [.ref (ad E (ad E a 0) 0)]) (rest := []) ⟨hx, hb, hml, hown, hts⟩ (t21_become l G y b0 σ E hO (ad E a 1) hp_11 (ad E (ad E a 0) 0) hp_13) (cwV 1 hts gX0_appendAll_X9_become rfl rfl rfl (by decide +kernel) ⟨Nat.le_of_ble_eq_true rfl, Nat.le_of_ble_eq_true rfl⟩) (th_PV hK hH rfl hc_14) rfl rfl hl.1 rfl (lv_room (Nat.le_of_ble_eq_true rfl)) dX0_appendAll_37 ⟨Nat.le_of_ble_eq_true rfl, Nat.le_of_ble_eq_true rfl⟩) hS (fun σ_s_16 H locs hw_15 hH hS => ?_)
      obtain ⟨hO9, hF9, hw_15⟩ := hw_15
      replace hO := hO9
      replace hF := hF.ex hX hF9 (by decide)
      have hw_15 : gI σ_s_16 (ad E a 1) 4 = gI σ (ad E (ad E a 0) 0) 4 := hw_15
      refine lv_bipush (v := I 59) hx hb dX0_appendAll_40 (by decide) ?_
      refine lv_istore (lv' := [(6, .int (I 59)), (4, .long w_4), (0, .ref a), (1, .long w), (3, .ref b)]) hx hb dX0_appendAll_42 hl (by decide) rfl (fun ls hl => ?_)
      replace hl : lv_has ls 7 [(6, .int (I 59)), (4, .long w_4), (0, .ref a), (3, .ref b)] := lv_sub hl [0, 1, 2, 4] rfl
      refine th_loop (α := Int) (pc := 44) (fun x9 => (x9 + 1).toNat) (fun x9 σ9 H9 l9 ls9 => ok y E σ9 ∧ fr [5, 1, 2] E σ σ9 ∧ th_H G b0 σ9 H9 ∧ va_S (th_A b0) s.heap H9 l9 ∧ lv_has ls9 7 [(0, .ref a), (3, .ref b), (4, .long w_4), (6, .int (I x9))] ∧ rng x9 ∧ (-1 ≤ x9) ∧ (x9 ≤ 59)) ?_ (59) σ_s_16 _ _ _ ⟨hO, hF, hH, hS, lv_sub hl [2, 3, 1, 0] rfl, (show rng 59 from ⟨by decide, by decide⟩), by first | omega | (dsimp only; omega), by first | omega | (dsimp only; omega)⟩
      intro x9 σ_J_29 H locs ls hI9 ihJ_29
      obtain ⟨v6q28, ex9⟩ : ∃ z, z = x9 := ⟨_, rfl⟩
      subst ex9
      obtain ⟨hO, hF, hH, hS, hl, rv6q28, J_29_0, J_29_1⟩ := hI9
      have hl : lv_has ls 7 [(0, .ref a), (3, .ref b), (4, .long w_4), (6, .int (I v6q28))] := hl
      have rv6q28 : rng v6q28 := rv6q28
      have J_29_0 : -1 ≤ v6q28 := J_29_0
      have J_29_1 : v6q28 ≤ 59 := J_29_1
      refine lv_iload hx hb dX0_appendAll_44 (lv_at hl 3 rfl) ?_
      refine lv_if_lt (tgt := 82) hx hb dX0_appendAll_46 (by decide) (fun c_30 => ?_) (fun c_30 => ?_)
      · replace c_30 := (I_lt (a := v6q28) (b := 0) rv6q28 (show rng 0 from ⟨by decide, by decide⟩)).mp c_30
        refine lv_aload_n hx hb dX0_appendAll_82 rfl (lv_at hl 0 rfl) ?_
        obtain ⟨_, hc_31⟩ := hO.cell h_a (by decide) (ci := 0) rfl
        refine th_calli (va_runV (As := []) (rest := []) ⟨hx, hb, hml, hown, hts⟩ (c_commit l G y b0 σ_J_29 E hO a h_a) (cwV 0 hts gX0_appendAll_X0_commit rfl rfl rfl (by decide +kernel) ⟨Nat.le_of_ble_eq_true rfl, Nat.le_of_ble_eq_true rfl⟩) (th_PV hK hH rfl hc_31) rfl rfl hl.1 rfl (lv_room (Nat.le_of_ble_eq_true rfl)) dX0_appendAll_83 ⟨Nat.le_of_ble_eq_true rfl, Nat.le_of_ble_eq_true rfl⟩) hS (fun z_34 σ_s_33 H locs rz_34 hw_32 hH hS => ?_)
        obtain ⟨E_35, hX9, hO9, hF9, bhw_32, hw_32⟩ := hw_32
        replace hO := hO9
        replace hF := hF.ex hX hF9 (by decide)
        replace hX := hX.tr hX9
        have hp_36 : kd E_35 a = 6 := hX9.kd2 h_a (by decide)
        have hp_37 : kd E_35 b = 1 := hX9.kd2 h_b (by decide)
        refine lv_if_eq (tgt := 97) hx hb dX0_appendAll_86 (by decide) (fun c_38 => ?_) (fun c_38 => ?_)
        · replace c_38 := (I_eq (a := z_34) (b := 0) rz_34 (show rng 0 from ⟨by decide, by decide⟩)).mp c_38
          refine lv_iconst (v := I (-1)) hx hb dX0_appendAll_97 (by decide) ?_
          exact th_iret hx hb hr hlocks hH hS (z := (-1)) (show rng (-1) from ⟨by decide, by decide⟩) ⟨E_35, hX, hO, hF, trivial⟩ dX0_appendAll_98
        · replace c_38 := mt (I_eq (a := z_34) (b := 0) rz_34 (show rng 0 from ⟨by decide, by decide⟩)).mpr c_38
          refine lv_lload hx hb dX0_appendAll_89 (lv_at hl 2 rfl) ?_
          refine th_calli (va_runS (As := [.long w_4]) (rest := []) ⟨hx, hb, hml, hown, hts⟩ (j_bitCountL l G y b0 σ_s_33 E_35 hO w_4) (va_cwS 1 hts gX0_appendAll_J13_bitCount_95d88 rfl rfl rfl (by decide +kernel) ⟨Nat.le_of_ble_eq_true rfl, Nat.le_of_ble_eq_true rfl⟩) (th_PS hK hH) rfl rfl hl.1 rfl (lv_room (Nat.le_of_ble_eq_true rfl)) dX0_appendAll_91 ⟨Nat.le_of_ble_eq_true rfl, Nat.le_of_ble_eq_true rfl⟩) hS (fun z_41 σ_s_40 H locs rz_41 hw_39 hH hS => ?_)
          obtain ⟨e9, hw_39⟩ := hw_39
          replace e9 := e9.symm
          subst e9
          refine lv_goto (tgt := 98) hx hb dX0_appendAll_94 (by decide) ?_
          exact th_iret hx hb hr hlocks hH hS (z := z_41) rz_41 ⟨E_35, hX, hO, hF, trivial⟩ dX0_appendAll_98
      · replace c_30 := mt (I_lt (a := v6q28) (b := 0) rv6q28 (show rng 0 from ⟨by decide, by decide⟩)).mpr c_30
        refine lv_lload hx hb dX0_appendAll_49 (lv_at hl 2 rfl) ?_
        refine lv_iload hx hb dX0_appendAll_51 (lv_at hl 3 rfl) ?_
        refine th_calli (va_runSN (As := [.long w_4, .int (I v6q28)]) (rest := []) ⟨hx, hb, hml, hown, hts⟩ (n_isIn l G y b0 σ_J_29 E hO w_4 v6q28 (show rng v6q28 from rv6q28)) ⟨(va_cnB 2 hts gX0_appendAll_X10_isIn_n51 rfl rfl rfl (ml_7 hK) fl2 (by decide +kernel) ⟨Nat.le_of_ble_eq_true rfl, Nat.le_of_ble_eq_true rfl⟩), fl3, trivial⟩ (th_PS hK hH) rfl rfl hl.1 rfl (lv_room (Nat.le_of_ble_eq_true rfl)) dX0_appendAll_53 ⟨Nat.le_of_ble_eq_true rfl, Nat.le_of_ble_eq_true rfl⟩) hS (fun z_44 σ_s_43 H locs rz_44 hw_42 hH hS => ?_)
        obtain ⟨e9, bhw_42, hw_42⟩ := hw_42
        replace e9 := e9.symm
        subst e9
        refine lv_if_eq (tgt := 76) hx hb dX0_appendAll_56 (by decide) (fun c_45 => ?_) (fun c_45 => ?_)
        · replace c_45 := (I_eq (a := z_44) (b := 0) rz_44 (show rng 0 from ⟨by decide, by decide⟩)).mp c_45
          refine lv_iinc (v := I (v6q28 + (-1))) (lv' := [(6, .int (I (v6q28 + (-1)))), (0, .ref a), (3, .ref b), (4, .long w_4)]) hx hb dX0_appendAll_76 hl (k := 3) rfl (I_add _ _) (by decide) rfl (fun ls hl => ?_)
          refine lv_goto (tgt := 44) hx hb dX0_appendAll_79 (by decide) ?_
          exact ihJ_29 (v6q28 + (-1)) σ_J_29 _ _ _ (by first | omega | (dsimp only; omega)) ⟨hO, hF, hH, hS, lv_sub hl [1, 2, 3, 0] rfl, ⟨by first | omega | (dsimp only; omega), by first | omega | (dsimp only; omega)⟩, by first | omega | (dsimp only; omega), by first | omega | (dsimp only; omega)⟩
        · replace c_45 := mt (I_eq (a := z_44) (b := 0) rz_44 (show rng 0 from ⟨by decide, by decide⟩)).mpr c_45
          refine lv_aload_n hx hb dX0_appendAll_59 rfl (lv_at hl 0 rfl) ?_
          refine ok.getR hO h_a (by decide) k6_1 (by decide) (fun _ _ he hv kk => th_get (ci := 0) (C := RX0) (T := TX0) (N := 4) hx hb hts inX0 hown hK hH he rfl 1 (by decide) fl0 hv dX0_appendAll_60 kk) ?_
          refine lv_iload hx hb dX0_appendAll_63 (lv_at hl 3 rfl) ?_
          refine lv_iconst (v := I 0) hx hb dX0_appendAll_65 (by decide) ?_
          refine lv_aload_n hx hb dX0_appendAll_66 rfl (lv_at hl 1 rfl) ?_
          refine lv_iconst (v := I 0) hx hb dX0_appendAll_67 (by decide) ?_
          obtain ⟨_, hc_46⟩ := hO.cell hp_11 (by decide) (ci := 9) rfl
          refine th_calli (va_runV (As := [.int (I v6q28), .int (I 0), .ref b, .int (I 0)]) (rest := []) ⟨hx, hb, hml, hown, hts⟩ (t21_behind l G y b0 σ_J_29 E hO (ad E a 1) hp_11 v6q28 (show rng v6q28 from rv6q28) 0 (show rng 0 from (show rng 0 from ⟨by decide, by decide⟩)) b h_b 0 (show rng 0 from (show rng 0 from ⟨by decide, by decide⟩)) (by omega) (by omega)) (cwV 4 hts gX0_appendAll_X9_graftBehindAll rfl rfl rfl (by decide +kernel) ⟨Nat.le_of_ble_eq_true rfl, Nat.le_of_ble_eq_true rfl⟩) (th_PV hK hH rfl hc_46) rfl rfl hl.1 rfl (lv_room (Nat.le_of_ble_eq_true rfl)) dX0_appendAll_68 ⟨Nat.le_of_ble_eq_true rfl, Nat.le_of_ble_eq_true rfl⟩) hS (fun z_49 σ_s_48 H locs rz_49 hw_47 hH hS => ?_)
          obtain ⟨hO9, hF9, bhw_47, hw_47⟩ := hw_47
          replace hO := hO9
          replace hF := hF.ex hX hF9 (by decide)
          refine lv_if_ne (tgt := 76) hx hb dX0_appendAll_71 (by decide) (fun c_50 => ?_) (fun c_50 => ?_)
          · replace c_50 := mt (I_eq (a := z_49) (b := 0) rz_49 (show rng 0 from ⟨by decide, by decide⟩)).mpr c_50
            refine lv_iinc (v := I (v6q28 + (-1))) (lv' := [(6, .int (I (v6q28 + (-1)))), (0, .ref a), (3, .ref b), (4, .long w_4)]) hx hb dX0_appendAll_76 hl (k := 3) rfl (I_add _ _) (by decide) rfl (fun ls hl => ?_)
            refine lv_goto (tgt := 44) hx hb dX0_appendAll_79 (by decide) ?_
            exact ihJ_29 (v6q28 + (-1)) σ_s_48 _ _ _ (by first | omega | (dsimp only; omega)) ⟨hO, hF, hH, hS, lv_sub hl [1, 2, 3, 0] rfl, ⟨by first | omega | (dsimp only; omega), by first | omega | (dsimp only; omega)⟩, by first | omega | (dsimp only; omega), by first | omega | (dsimp only; omega)⟩
          · replace c_50 := (I_eq (a := z_49) (b := 0) rz_49 (show rng 0 from ⟨by decide, by decide⟩)).mp c_50
            refine lv_iconst (v := I (-1)) hx hb dX0_appendAll_74 (by decide) ?_
            refine W.widen (k := 5) (n := 245) (Nat.le_of_ble_eq_true rfl) (Nat.le_of_ble_eq_true rfl) ?_
            exact th_iret hx hb hr hlocks hH hS (z := (-1)) (show rng (-1) from ⟨by decide, by decide⟩) ⟨E, hX, hO, hF, trivial⟩ dX0_appendAll_75
    · replace c_10 := mt (I_eq (a := z_9) (b := 0) rz_9 (show rng 0 from ⟨by decide, by decide⟩)).mpr c_10
      refine lv_iconst (v := I (-1)) hx hb dX0_appendAll_24 (by decide) ?_
      refine W.widen (k := 5) (n := 245) (Nat.le_of_ble_eq_true rfl) (Nat.le_of_ble_eq_true rfl) ?_
      exact th_iret hx hb hr hlocks hH hS (z := (-1)) (show rng (-1) from ⟨by decide, by decide⟩) ⟨E, hX, hO, hF, trivial⟩ dX0_appendAll_25

set_option maxHeartbeats 1000000 in
set_option maxRecDepth 100000 in
theorem c_keyAll (l : Launch) (G : va_G) (y : Nat → ClassId) (b0 : Nat) (σ : th_M) (E : th_E) (hO : ok y E σ) (a : Nat) (h_a : kd E a = 6) (w : Int64) (ky : Int) (rky : rng ky) (b : Nat) (h_b : kd E b = 1) : Met l yX0_keyAll wsX0_keyAll ({ frames := 5, cells := 5, slots := 245, locals := 177 }) (th_P G y b0 σ [.ref a, .long w, .int (I ky), .ref b]) (th_Qi G b0 (fun r σ1 => ∃ E1, ext E E1 ∧ ok y E1 σ1 ∧ fr [5, 1, 2] E σ σ1 ∧ (True))) 5 245 (th_A b0) := by
  refine Met.ofW (cc := cX0_keyAll) (maxL := 10) (ret := (some .int)) (by decide) rfl ?_
  intro p e s m args below meth c s₁ B hml hv
  obtain ⟨rfl, hH, hK⟩ := hv
  have hx := B.exec
  have hb := B.bytes
  have hr := B.returns
  have hts := atoms_spec (ws := wsX0_keyAll) B.pre
  have hown : s.vm.findClass RX0 = some m.cls := findClass_of_methodNamed B.named
  have hlocks := B.notSynchronized
  have h00 : b0 ≤ s.heap.size := hH.1
  have hS : va_S (th_A b0) s.heap s.heap [] := va_S.rf
  have hF : fr [5, 1, 2] E σ σ := fr.rf
  have hX : ext E E := ext.rf
  have inX0 : ∀ w ∈ wsX00, w ∈ wsX0_keyAll := by decide +kernel
  have inX6 : ∀ w ∈ wsX60, w ∈ wsX0_keyAll := by decide +kernel
  have fl0 := hts (.constantLong RX0 99 (-1)) (by decide +kernel)
  have fl1 := hts (.fieldLink RX0 14 "NestQuery$Acts" "work" "LNestQuery$Tree;") (by decide +kernel)
  have fl2 := hts (.fieldLink RX0 27 "NestQuery$Acts" "now" "LNestQuery$State;") (by decide +kernel)
  have fl3 := hts (.initialized RX10) (by decide +kernel)
  have fl4 := hts (.static yX10_isIn) (by decide +kernel)
  have hl := lv_entry ([.ref a, .long w, .int (I ky), .ref b]) (n := 10) (Nat.le_of_ble_eq_true rfl)
  rw [lg_entry_eq]
  generalize (lg_sl ([.ref a, .long w, .int (I ky), .ref b]) ++ List.replicate (10 - (lg_sl ([.ref a, .long w, .int (I ky), .ref b])).length) Slot.unset).toArray = ls at hl ⊢
  have hl : lv_has ls 10 [(0, .ref a), (1, .long w), (3, .int (I ky)), (4, .ref b)] := hl
  refine lv_aload_n hx hb dX0_keyAll_0 rfl (lv_at hl 0 rfl) ?_
  refine lv_lload_n hx hb dX0_keyAll_1 rfl (lv_at hl 1 rfl) ?_
  refine lv_iconst (v := I 3) hx hb dX0_keyAll_2 (by decide) ?_
  obtain ⟨_, hc_1⟩ := hO.cell h_a (by decide) (ci := 0) rfl
  refine th_calll (va_runV (As := [.long w, .int (I 3)]) (rest := []) ⟨hx, hb, hml, hown, hts⟩ (c_ofKind l G y b0 σ E hO a h_a w 3 (show rng 3 from (show rng 3 from ⟨by decide, by decide⟩))) (cwV 2 hts gX0_keyAll_X0_ofKind rfl rfl rfl (by decide +kernel) ⟨Nat.le_of_ble_eq_true rfl, Nat.le_of_ble_eq_true rfl⟩) (th_PV hK hH rfl hc_1) rfl rfl hl.1 rfl (lv_room (Nat.le_of_ble_eq_true rfl)) dX0_keyAll_3 ⟨Nat.le_of_ble_eq_true rfl, Nat.le_of_ble_eq_true rfl⟩) hS (fun w_4 σ_s_3 H locs hw_2 hH hS => ?_)
  obtain ⟨e9, hw_2⟩ := hw_2
  replace e9 := e9.symm
  subst e9
  refine lv_lstore (lv' := [(5, .long w_4), (0, .ref a), (1, .long w), (3, .int (I ky)), (4, .ref b)]) hx hb dX0_keyAll_6 hl (by decide) rfl (fun ls hl => ?_)
  refine lv_lload hx hb dX0_keyAll_8 (lv_at hl 0 rfl) ?_
  refine lv_aload_n hx hb dX0_keyAll_10 rfl (lv_at hl 1 rfl) ?_
  refine lv_lload hx hb dX0_keyAll_11 (lv_at hl 0 rfl) ?_
  refine lv_iload_n hx hb dX0_keyAll_13 rfl (lv_at hl 3 rfl) ?_
  obtain ⟨_, hc_5⟩ := hO.cell h_a (by decide) (ci := 0) rfl
  refine th_calll (va_runV (As := [.long w_4, .int (I ky)]) (rest := [.long w_4]) ⟨hx, hb, hml, hown, hts⟩ (c_replacedByKey l G y b0 σ E hO a h_a w_4 ky (show rng ky from rky)) (cwV 2 hts gX0_keyAll_X0_replacedByKey rfl rfl rfl (by decide +kernel) ⟨Nat.le_of_ble_eq_true rfl, Nat.le_of_ble_eq_true rfl⟩) (th_PV hK hH rfl hc_5) rfl rfl hl.1 rfl (lv_room (Nat.le_of_ble_eq_true rfl)) dX0_keyAll_14 ⟨Nat.le_of_ble_eq_true rfl, Nat.le_of_ble_eq_true rfl⟩) hS (fun w_8 σ_s_7 H locs hw_6 hH hS => ?_)
  obtain ⟨e9, hw_6⟩ := hw_6
  replace e9 := e9.symm
  subst e9
  refine lv_ldc2 (v := (-1)) hx hb hown fl0 dX0_keyAll_17 ?_
  refine lv_topl (fun w_9 _ => ?_)
  refine lv_lxor hx hb dX0_keyAll_20 ?_
  refine lv_topl (fun w_10 _ => ?_)
  refine lv_land hx hb dX0_keyAll_21 ?_
  refine lv_topl (fun w_11 _ => ?_)
  refine lv_lstore (lv' := [(7, .long w_11), (5, .long w_4), (0, .ref a), (1, .long w), (3, .int (I ky)), (4, .ref b)]) hx hb dX0_keyAll_22 hl (by decide) rfl (fun ls hl => ?_)
  refine lv_lload hx hb dX0_keyAll_24 (lv_at hl 1 rfl) ?_
  refine lv_lconst (v := 0) hx hb dX0_keyAll_26 (by decide) ?_
  refine W.lcmp hx hb dX0_keyAll_27 ?_
  refine th_topi (fun z_12 rz_12 => ?_)
  refine lv_if_eq (tgt := 41) hx hb dX0_keyAll_28 (by decide) (fun c_13 => ?_) (fun c_13 => ?_)
  · replace c_13 := (I_eq (a := z_12) (b := 0) rz_12 (show rng 0 from ⟨by decide, by decide⟩)).mp c_13
    refine lv_iconst (v := I (-1)) hx hb dX0_keyAll_41 (by decide) ?_
    refine W.widen (k := 5) (n := 245) (Nat.le_of_ble_eq_true rfl) (Nat.le_of_ble_eq_true rfl) ?_
    exact th_iret hx hb hr hlocks hH hS (z := (-1)) (show rng (-1) from ⟨by decide, by decide⟩) ⟨E, hX, hO, hF, trivial⟩ dX0_keyAll_42
  · replace c_13 := mt (I_eq (a := z_12) (b := 0) rz_12 (show rng 0 from ⟨by decide, by decide⟩)).mpr c_13
    refine lv_lload hx hb dX0_keyAll_31 (lv_at hl 0 rfl) ?_
    refine lv_aload hx hb dX0_keyAll_33 (lv_at hl 5 rfl) ?_
    refine th_calli (va_runS (As := [.long w_11, .ref b]) (rest := []) ⟨hx, hb, hml, hown, hts⟩ (c_tooMany l G y b0 σ E hO w_11 b h_b) (va_cwS 2 hts gX0_keyAll_X0_tooManyCopies rfl rfl rfl (by decide +kernel) ⟨Nat.le_of_ble_eq_true rfl, Nat.le_of_ble_eq_true rfl⟩) (th_PS hK hH) rfl rfl hl.1 rfl (lv_room (Nat.le_of_ble_eq_true rfl)) dX0_keyAll_35 ⟨Nat.le_of_ble_eq_true rfl, Nat.le_of_ble_eq_true rfl⟩) hS (fun z_16 σ_s_15 H locs rz_16 hw_14 hH hS => ?_)
    obtain ⟨e9, bhw_14, hw_14⟩ := hw_14
    replace e9 := e9.symm
    subst e9
    refine lv_if_eq (tgt := 43) hx hb dX0_keyAll_38 (by decide) (fun c_17 => ?_) (fun c_17 => ?_)
    · replace c_17 := (I_eq (a := z_16) (b := 0) rz_16 (show rng 0 from ⟨by decide, by decide⟩)).mp c_17
      refine lv_aload_n hx hb dX0_keyAll_43 rfl (lv_at hl 2 rfl) ?_
      have hp_18 : kd E (ad E a 1) = 2 := ok.pk hO h_a (by decide) k6_1 rfl
      refine ok.getR hO h_a (by decide) k6_1 (by decide) (fun _ _ he hv kk => th_get (ci := 0) (C := RX0) (T := TX0) (N := 4) hx hb hts inX0 hown hK hH he rfl 1 (by decide) fl1 hv dX0_keyAll_44 kk) ?_
      refine lv_aload_n hx hb dX0_keyAll_47 rfl (lv_at hl 2 rfl) ?_
      have hp_19 : kd E (ad E a 0) = 5 := ok.pk hO h_a (by decide) k6_0 rfl
      refine ok.getR hO h_a (by decide) k6_0 (by decide) (fun _ _ he hv kk => th_get (ci := 0) (C := RX0) (T := TX0) (N := 4) hx hb hts inX0 hown hK hH he rfl 0 (by decide) fl2 hv dX0_keyAll_48 kk) ?_
      have hp_20 : kd E (ad E (ad E a 0) 0) = 1 := ok.pk hO hp_19 (by decide) k5_0 rfl
      refine ok.getR hO hp_19 (by decide) k5_0 (by decide) (fun _ _ he hv kk => th_getN (ci := 6) (C := RX6) (T := TX6) (N := 7) hx hb hts inX6 hown hK hH he rfl 0 (by decide) (nl_14 hK) hv dX0_keyAll_51 kk) ?_
      obtain ⟨_, hc_21⟩ := hO.cell hp_18 (by decide) (ci := 9) rfl
      refine th_callv (va_runV (As := [.ref (ad E (ad E a 0) 0)]) (rest := []) ⟨hx, hb, hml, hown, hts⟩ (t21_become l G y b0 σ E hO (ad E a 1) hp_18 (ad E (ad E a 0) 0) hp_20) (cwV 1 hts gX0_keyAll_X9_become rfl rfl rfl (by decide +kernel) ⟨Nat.le_of_ble_eq_true rfl, Nat.le_of_ble_eq_true rfl⟩) (th_PV hK hH rfl hc_21) rfl rfl hl.1 rfl (lv_room (Nat.le_of_ble_eq_true rfl)) dX0_keyAll_54 ⟨Nat.le_of_ble_eq_true rfl, Nat.le_of_ble_eq_true rfl⟩) hS (fun σ_s_23 H locs hw_22 hH hS => ?_)
      obtain ⟨hO9, hF9, hw_22⟩ := hw_22
      replace hO := hO9
      replace hF := hF.ex hX hF9 (by decide)
      have hw_22 : gI σ_s_23 (ad E a 1) 4 = gI σ (ad E (ad E a 0) 0) 4 := hw_22
      refine lv_bipush (v := I 59) hx hb dX0_keyAll_57 (by decide) ?_
      refine lv_istore (lv' := [(9, .int (I 59)), (7, .long w_11), (5, .long w_4), (0, .ref a), (1, .long w), (3, .int (I ky)), (4, .ref b)]) hx hb dX0_keyAll_59 hl (by decide) rfl (fun ls hl => ?_)
      replace hl : lv_has ls 10 [(9, .int (I 59)), (7, .long w_11), (5, .long w_4), (0, .ref a), (3, .int (I ky)), (4, .ref b)] := lv_sub hl [0, 1, 2, 3, 5, 6] rfl
      refine th_loop (α := Int) (pc := 61) (fun x9 => (x9 + 1).toNat) (fun x9 σ9 H9 l9 ls9 => ok y E σ9 ∧ fr [5, 1, 2] E σ σ9 ∧ th_H G b0 σ9 H9 ∧ va_S (th_A b0) s.heap H9 l9 ∧ lv_has ls9 10 [(0, .ref a), (3, .int (I ky)), (4, .ref b), (5, .long w_4), (7, .long w_11), (9, .int (I x9))] ∧ rng x9 ∧ (-1 ≤ x9) ∧ (x9 ≤ 59)) ?_ (59) σ_s_23 _ _ _ ⟨hO, hF, hH, hS, lv_sub hl [3, 4, 5, 2, 1, 0] rfl, (show rng 59 from ⟨by decide, by decide⟩), by first | omega | (dsimp only; omega), by first | omega | (dsimp only; omega)⟩
      intro x9 σ_J_36 H locs ls hI9 ihJ_36
      obtain ⟨v9q35, ex9⟩ : ∃ z, z = x9 := ⟨_, rfl⟩
      subst ex9
      obtain ⟨hO, hF, hH, hS, hl, rv9q35, J_36_0, J_36_1⟩ := hI9
      have hl : lv_has ls 10 [(0, .ref a), (3, .int (I ky)), (4, .ref b), (5, .long w_4), (7, .long w_11), (9, .int (I v9q35))] := hl
      have rv9q35 : rng v9q35 := rv9q35
      have J_36_0 : -1 ≤ v9q35 := J_36_0
      have J_36_1 : v9q35 ≤ 59 := J_36_1
      refine lv_iload hx hb dX0_keyAll_61 (lv_at hl 5 rfl) ?_
      refine lv_if_lt (tgt := 96) hx hb dX0_keyAll_63 (by decide) (fun c_37 => ?_) (fun c_37 => ?_)
      · replace c_37 := (I_lt (a := v9q35) (b := 0) rv9q35 (show rng 0 from ⟨by decide, by decide⟩)).mp c_37
        refine lv_aload_n hx hb dX0_keyAll_96 rfl (lv_at hl 0 rfl) ?_
        obtain ⟨_, hc_38⟩ := hO.cell h_a (by decide) (ci := 0) rfl
        refine th_calli (va_runV (As := []) (rest := []) ⟨hx, hb, hml, hown, hts⟩ (c_commit l G y b0 σ_J_36 E hO a h_a) (cwV 0 hts gX0_keyAll_X0_commit rfl rfl rfl (by decide +kernel) ⟨Nat.le_of_ble_eq_true rfl, Nat.le_of_ble_eq_true rfl⟩) (th_PV hK hH rfl hc_38) rfl rfl hl.1 rfl (lv_room (Nat.le_of_ble_eq_true rfl)) dX0_keyAll_97 ⟨Nat.le_of_ble_eq_true rfl, Nat.le_of_ble_eq_true rfl⟩) hS (fun z_41 σ_s_40 H locs rz_41 hw_39 hH hS => ?_)
        obtain ⟨E_42, hX9, hO9, hF9, bhw_39, hw_39⟩ := hw_39
        replace hO := hO9
        replace hF := hF.ex hX hF9 (by decide)
        replace hX := hX.tr hX9
        have hp_43 : kd E_42 a = 6 := hX9.kd2 h_a (by decide)
        have hp_44 : kd E_42 b = 1 := hX9.kd2 h_b (by decide)
        refine lv_if_eq (tgt := 111) hx hb dX0_keyAll_100 (by decide) (fun c_45 => ?_) (fun c_45 => ?_)
        · replace c_45 := (I_eq (a := z_41) (b := 0) rz_41 (show rng 0 from ⟨by decide, by decide⟩)).mp c_45
          refine lv_iconst (v := I (-1)) hx hb dX0_keyAll_111 (by decide) ?_
          exact th_iret hx hb hr hlocks hH hS (z := (-1)) (show rng (-1) from ⟨by decide, by decide⟩) ⟨E_42, hX, hO, hF, trivial⟩ dX0_keyAll_112
        · replace c_45 := mt (I_eq (a := z_41) (b := 0) rz_41 (show rng 0 from ⟨by decide, by decide⟩)).mpr c_45
          refine lv_lload hx hb dX0_keyAll_103 (lv_at hl 3 rfl) ?_
          refine th_calli (va_runS (As := [.long w_4]) (rest := []) ⟨hx, hb, hml, hown, hts⟩ (j_bitCountL l G y b0 σ_s_40 E_42 hO w_4) (va_cwS 1 hts gX0_keyAll_J13_bitCount_95d88 rfl rfl rfl (by decide +kernel) ⟨Nat.le_of_ble_eq_true rfl, Nat.le_of_ble_eq_true rfl⟩) (th_PS hK hH) rfl rfl hl.1 rfl (lv_room (Nat.le_of_ble_eq_true rfl)) dX0_keyAll_105 ⟨Nat.le_of_ble_eq_true rfl, Nat.le_of_ble_eq_true rfl⟩) hS (fun z_48 σ_s_47 H locs rz_48 hw_46 hH hS => ?_)
          obtain ⟨e9, hw_46⟩ := hw_46
          replace e9 := e9.symm
          subst e9
          refine lv_goto (tgt := 112) hx hb dX0_keyAll_108 (by decide) ?_
          exact th_iret hx hb hr hlocks hH hS (z := z_48) rz_48 ⟨E_42, hX, hO, hF, trivial⟩ dX0_keyAll_112
      · replace c_37 := mt (I_lt (a := v9q35) (b := 0) rv9q35 (show rng 0 from ⟨by decide, by decide⟩)).mpr c_37
        refine lv_lload hx hb dX0_keyAll_66 (lv_at hl 4 rfl) ?_
        refine lv_iload hx hb dX0_keyAll_68 (lv_at hl 5 rfl) ?_
        refine th_calli (va_runSN (As := [.long w_11, .int (I v9q35)]) (rest := []) ⟨hx, hb, hml, hown, hts⟩ (n_isIn l G y b0 σ_J_36 E hO w_11 v9q35 (show rng v9q35 from rv9q35)) ⟨(va_cnB 2 hts gX0_keyAll_X10_isIn_n51 rfl rfl rfl (ml_7 hK) fl3 (by decide +kernel) ⟨Nat.le_of_ble_eq_true rfl, Nat.le_of_ble_eq_true rfl⟩), fl4, trivial⟩ (th_PS hK hH) rfl rfl hl.1 rfl (lv_room (Nat.le_of_ble_eq_true rfl)) dX0_keyAll_70 ⟨Nat.le_of_ble_eq_true rfl, Nat.le_of_ble_eq_true rfl⟩) hS (fun z_51 σ_s_50 H locs rz_51 hw_49 hH hS => ?_)
        obtain ⟨e9, bhw_49, hw_49⟩ := hw_49
        replace e9 := e9.symm
        subst e9
        refine lv_if_eq (tgt := 90) hx hb dX0_keyAll_73 (by decide) (fun c_52 => ?_) (fun c_52 => ?_)
        · replace c_52 := (I_eq (a := z_51) (b := 0) rz_51 (show rng 0 from ⟨by decide, by decide⟩)).mp c_52
          refine lv_iinc (v := I (v9q35 + (-1))) (lv' := [(9, .int (I (v9q35 + (-1)))), (0, .ref a), (3, .int (I ky)), (4, .ref b), (5, .long w_4), (7, .long w_11)]) hx hb dX0_keyAll_90 hl (k := 5) rfl (I_add _ _) (by decide) rfl (fun ls hl => ?_)
          refine lv_goto (tgt := 61) hx hb dX0_keyAll_93 (by decide) ?_
          exact ihJ_36 (v9q35 + (-1)) σ_J_36 _ _ _ (by first | omega | (dsimp only; omega)) ⟨hO, hF, hH, hS, lv_sub hl [1, 2, 3, 4, 5, 0] rfl, ⟨by first | omega | (dsimp only; omega), by first | omega | (dsimp only; omega)⟩, by first | omega | (dsimp only; omega), by first | omega | (dsimp only; omega)⟩
        · replace c_52 := mt (I_eq (a := z_51) (b := 0) rz_51 (show rng 0 from ⟨by decide, by decide⟩)).mpr c_52
          refine lv_aload_n hx hb dX0_keyAll_76 rfl (lv_at hl 0 rfl) ?_
          refine lv_iload hx hb dX0_keyAll_77 (lv_at hl 5 rfl) ?_
          refine lv_iload_n hx hb dX0_keyAll_79 rfl (lv_at hl 1 rfl) ?_
          refine lv_aload hx hb dX0_keyAll_80 (lv_at hl 2 rfl) ?_
          obtain ⟨_, hc_53⟩ := hO.cell h_a (by decide) (ci := 0) rfl
          refine th_calli (va_runV (As := [.int (I v9q35), .int (I ky), .ref b]) (rest := []) ⟨hx, hb, hml, hown, hts⟩ (c_setByKey l G y b0 σ_J_36 E hO a h_a v9q35 (show rng v9q35 from rv9q35) ky (show rng ky from rky) b h_b) (cwV 3 hts gX0_keyAll_X0_setByKey rfl rfl rfl (by decide +kernel) ⟨Nat.le_of_ble_eq_true rfl, Nat.le_of_ble_eq_true rfl⟩) (th_PV hK hH rfl hc_53) rfl rfl hl.1 rfl (lv_room (Nat.le_of_ble_eq_true rfl)) dX0_keyAll_82 ⟨Nat.le_of_ble_eq_true rfl, Nat.le_of_ble_eq_true rfl⟩) hS (fun z_56 σ_s_55 H locs rz_56 hw_54 hH hS => ?_)
          obtain ⟨hO9, hF9, bhw_54, hw_54⟩ := hw_54
          replace hO := hO9
          replace hF := hF.ex hX hF9 (by decide)
          refine lv_if_ne (tgt := 90) hx hb dX0_keyAll_85 (by decide) (fun c_57 => ?_) (fun c_57 => ?_)
          · replace c_57 := mt (I_eq (a := z_56) (b := 0) rz_56 (show rng 0 from ⟨by decide, by decide⟩)).mpr c_57
            refine lv_iinc (v := I (v9q35 + (-1))) (lv' := [(9, .int (I (v9q35 + (-1)))), (0, .ref a), (3, .int (I ky)), (4, .ref b), (5, .long w_4), (7, .long w_11)]) hx hb dX0_keyAll_90 hl (k := 5) rfl (I_add _ _) (by decide) rfl (fun ls hl => ?_)
            refine lv_goto (tgt := 61) hx hb dX0_keyAll_93 (by decide) ?_
            exact ihJ_36 (v9q35 + (-1)) σ_s_55 _ _ _ (by first | omega | (dsimp only; omega)) ⟨hO, hF, hH, hS, lv_sub hl [1, 2, 3, 4, 5, 0] rfl, ⟨by first | omega | (dsimp only; omega), by first | omega | (dsimp only; omega)⟩, by first | omega | (dsimp only; omega), by first | omega | (dsimp only; omega)⟩
          · replace c_57 := (I_eq (a := z_56) (b := 0) rz_56 (show rng 0 from ⟨by decide, by decide⟩)).mp c_57
            refine lv_iconst (v := I (-1)) hx hb dX0_keyAll_88 (by decide) ?_
            refine W.widen (k := 5) (n := 245) (Nat.le_of_ble_eq_true rfl) (Nat.le_of_ble_eq_true rfl) ?_
            exact th_iret hx hb hr hlocks hH hS (z := (-1)) (show rng (-1) from ⟨by decide, by decide⟩) ⟨E, hX, hO, hF, trivial⟩ dX0_keyAll_89
    · replace c_17 := mt (I_eq (a := z_16) (b := 0) rz_16 (show rng 0 from ⟨by decide, by decide⟩)).mpr c_17
      refine lv_iconst (v := I (-1)) hx hb dX0_keyAll_41 (by decide) ?_
      refine W.widen (k := 5) (n := 245) (Nat.le_of_ble_eq_true rfl) (Nat.le_of_ble_eq_true rfl) ?_
      exact th_iret hx hb hr hlocks hH hS (z := (-1)) (show rng (-1) from ⟨by decide, by decide⟩) ⟨E, hX, hO, hF, trivial⟩ dX0_keyAll_42

set_option maxHeartbeats 1000000 in
set_option maxRecDepth 100000 in
theorem c_addAll (l : Launch) (G : va_G) (y : Nat → ClassId) (b0 : Nat) (σ : th_M) (E : th_E) (hO : ok y E σ) (a : Nat) (h_a : kd E a = 6) (w : Int64) (v : Int) (rv : rng v) (l_v : -999 ≤ v) (u_v : v ≤ 999) : Met l yX0_addAll wsX0_addAll ({ frames := 4, cells := 5, slots := 245, locals := 135 }) (th_P G y b0 σ [.ref a, .long w, .int (I v)]) (th_Qi G b0 (fun r σ1 => ∃ E1, ext E E1 ∧ ok y E1 σ1 ∧ fr [5, 1, 2] E σ σ1 ∧ (True))) 5 245 (th_A b0) := by
  refine Met.ofW (cc := cX0_addAll) (maxL := 8) (ret := (some .int)) (by decide) rfl ?_
  intro p e s m args below meth c s₁ B hml hv
  obtain ⟨rfl, hH, hK⟩ := hv
  have hx := B.exec
  have hb := B.bytes
  have hr := B.returns
  have hts := atoms_spec (ws := wsX0_addAll) B.pre
  have hown : s.vm.findClass RX0 = some m.cls := findClass_of_methodNamed B.named
  have hlocks := B.notSynchronized
  have h00 : b0 ≤ s.heap.size := hH.1
  have hS : va_S (th_A b0) s.heap s.heap [] := va_S.rf
  have hF : fr [5, 1, 2] E σ σ := fr.rf
  have hX : ext E E := ext.rf
  have inX0 : ∀ w ∈ wsX00, w ∈ wsX0_addAll := by decide +kernel
  have inX6 : ∀ w ∈ wsX60, w ∈ wsX0_addAll := by decide +kernel
  have inX9 : ∀ w ∈ wsX90, w ∈ wsX0_addAll := by decide +kernel
  have fl0 := hts (.fieldLink RX0 14 "NestQuery$Acts" "work" "LNestQuery$Tree;") (by decide +kernel)
  have fl1 := hts (.fieldLink RX0 27 "NestQuery$Acts" "now" "LNestQuery$State;") (by decide +kernel)
  have fl2 := hts (.initialized RX10) (by decide +kernel)
  have fl3 := hts (.static yX10_isIn) (by decide +kernel)
  have fl4 := hts (.methodLink RX0 117 Lib.Math.min.name) (by decide +kernel)
  have fl5 := hts (.static Lib.Math.min.name) (by decide +kernel)
  have fl6 := hts (.initialized "java/lang/Math") (by decide +kernel)
  have fl7 := hts (.code Lib.Math.min.name Lib.Math.min.code 2 (some .int)) (by decide +kernel)
  have fl8 := hts (.methodLink RX0 109 Lib.Math.max.name) (by decide +kernel)
  have fl9 := hts (.static Lib.Math.max.name) (by decide +kernel)
  have fl10 := hts (.code Lib.Math.max.name Lib.Math.max.code 2 (some .int)) (by decide +kernel)
  have hl := lv_entry ([.ref a, .long w, .int (I v)]) (n := 8) (Nat.le_of_ble_eq_true rfl)
  rw [lg_entry_eq]
  generalize (lg_sl ([.ref a, .long w, .int (I v)]) ++ List.replicate (8 - (lg_sl ([.ref a, .long w, .int (I v)])).length) Slot.unset).toArray = ls at hl ⊢
  have hl : lv_has ls 8 [(0, .ref a), (1, .long w), (3, .int (I v))] := hl
  refine lv_aload_n hx hb dX0_addAll_0 rfl (lv_at hl 0 rfl) ?_
  refine lv_lload_n hx hb dX0_addAll_1 rfl (lv_at hl 1 rfl) ?_
  refine lv_iconst (v := I 0) hx hb dX0_addAll_2 (by decide) ?_
  obtain ⟨_, hc_1⟩ := hO.cell h_a (by decide) (ci := 0) rfl
  refine th_calll (va_runV (As := [.long w, .int (I 0)]) (rest := []) ⟨hx, hb, hml, hown, hts⟩ (c_ofKind l G y b0 σ E hO a h_a w 0 (show rng 0 from (show rng 0 from ⟨by decide, by decide⟩))) (cwV 2 hts gX0_addAll_X0_ofKind rfl rfl rfl (by decide +kernel) ⟨Nat.le_of_ble_eq_true rfl, Nat.le_of_ble_eq_true rfl⟩) (th_PV hK hH rfl hc_1) rfl rfl hl.1 rfl (lv_room (Nat.le_of_ble_eq_true rfl)) dX0_addAll_3 ⟨Nat.le_of_ble_eq_true rfl, Nat.le_of_ble_eq_true rfl⟩) hS (fun w_4 σ_s_3 H locs hw_2 hH hS => ?_)
  obtain ⟨e9, hw_2⟩ := hw_2
  replace e9 := e9.symm
  subst e9
  refine lv_lstore (lv' := [(4, .long w_4), (0, .ref a), (1, .long w), (3, .int (I v))]) hx hb dX0_addAll_6 hl (by decide) rfl (fun ls hl => ?_)
  refine lv_lload hx hb dX0_addAll_8 (lv_at hl 0 rfl) ?_
  refine lv_lconst (v := 0) hx hb dX0_addAll_10 (by decide) ?_
  refine W.lcmp hx hb dX0_addAll_11 ?_
  refine th_topi (fun z_5 rz_5 => ?_)
  refine lv_if_ne (tgt := 17) hx hb dX0_addAll_12 (by decide) (fun c_6 => ?_) (fun c_6 => ?_)
  · replace c_6 := mt (I_eq (a := z_5) (b := 0) rz_5 (show rng 0 from ⟨by decide, by decide⟩)).mpr c_6
    refine lv_aload_n hx hb dX0_addAll_17 rfl (lv_at hl 1 rfl) ?_
    have hp_7 : kd E (ad E a 1) = 2 := ok.pk hO h_a (by decide) k6_1 rfl
    refine ok.getR hO h_a (by decide) k6_1 (by decide) (fun _ _ he hv kk => th_get (ci := 0) (C := RX0) (T := TX0) (N := 4) hx hb hts inX0 hown hK hH he rfl 1 (by decide) fl0 hv dX0_addAll_18 kk) ?_
    refine lv_aload_n hx hb dX0_addAll_21 rfl (lv_at hl 1 rfl) ?_
    have hp_8 : kd E (ad E a 0) = 5 := ok.pk hO h_a (by decide) k6_0 rfl
    refine ok.getR hO h_a (by decide) k6_0 (by decide) (fun _ _ he hv kk => th_get (ci := 0) (C := RX0) (T := TX0) (N := 4) hx hb hts inX0 hown hK hH he rfl 0 (by decide) fl1 hv dX0_addAll_22 kk) ?_
    have hp_9 : kd E (ad E (ad E a 0) 0) = 1 := ok.pk hO hp_8 (by decide) k5_0 rfl
    refine ok.getR hO hp_8 (by decide) k5_0 (by decide) (fun _ _ he hv kk => th_getN (ci := 6) (C := RX6) (T := TX6) (N := 7) hx hb hts inX6 hown hK hH he rfl 0 (by decide) (nl_14 hK) hv dX0_addAll_25 kk) ?_
    obtain ⟨_, hc_10⟩ := hO.cell hp_7 (by decide) (ci := 9) rfl
    refine th_callv (va_runV (As := [.ref (ad E (ad E a 0) 0)]) (rest := []) ⟨hx, hb, hml, hown, hts⟩ (t21_become l G y b0 σ E hO (ad E a 1) hp_7 (ad E (ad E a 0) 0) hp_9) (cwV 1 hts gX0_addAll_X9_become rfl rfl rfl (by decide +kernel) ⟨Nat.le_of_ble_eq_true rfl, Nat.le_of_ble_eq_true rfl⟩) (th_PV hK hH rfl hc_10) rfl rfl hl.1 rfl (lv_room (Nat.le_of_ble_eq_true rfl)) dX0_addAll_28 ⟨Nat.le_of_ble_eq_true rfl, Nat.le_of_ble_eq_true rfl⟩) hS (fun σ_s_12 H locs hw_11 hH hS => ?_)
    obtain ⟨hO9, hF9, hw_11⟩ := hw_11
    replace hO := hO9
    replace hF := hF.ex hX hF9 (by decide)
    have hw_11 : gI σ_s_12 (ad E a 1) 4 = gI σ (ad E (ad E a 0) 0) 4 := hw_11
    refine lv_iconst (v := I 0) hx hb dX0_addAll_31 (by decide) ?_
    refine lv_istore (lv' := [(6, .int (I 0)), (4, .long w_4), (0, .ref a), (1, .long w), (3, .int (I v))]) hx hb dX0_addAll_32 hl (by decide) rfl (fun ls hl => ?_)
    replace hl : lv_has ls 8 [(6, .int (I 0)), (4, .long w_4), (0, .ref a), (3, .int (I v))] := lv_sub hl [0, 1, 2, 4] rfl
    refine th_loop (α := Int) (pc := 34) (fun x9 => (128 - x9).toNat) (fun x9 σ9 H9 l9 ls9 => ok y E σ9 ∧ fr [5, 1, 2] E σ σ9 ∧ th_H G b0 σ9 H9 ∧ va_S (th_A b0) s.heap H9 l9 ∧ lv_has ls9 8 [(0, .ref a), (3, .int (I v)), (4, .long w_4), (6, .int (I x9))] ∧ rng x9 ∧ (0 ≤ x9) ∧ (x9 ≤ 128)) ?_ (0) σ_s_12 _ _ _ ⟨hO, hF, hH, hS, lv_sub hl [2, 3, 1, 0] rfl, (show rng 0 from ⟨by decide, by decide⟩), by first | omega | (dsimp only; omega), by first | omega | (dsimp only; omega)⟩
    intro x9 σ_J_32 H locs ls hI9 ihJ_32
    obtain ⟨v6q31, ex9⟩ : ∃ z, z = x9 := ⟨_, rfl⟩
    subst ex9
    obtain ⟨hO, hF, hH, hS, hl, rv6q31, J_32_0, J_32_1⟩ := hI9
    have hl : lv_has ls 8 [(0, .ref a), (3, .int (I v)), (4, .long w_4), (6, .int (I v6q31))] := hl
    have rv6q31 : rng v6q31 := rv6q31
    have J_32_0 : 0 ≤ v6q31 := J_32_0
    have J_32_1 : v6q31 ≤ 128 := J_32_1
    refine lv_iload hx hb dX0_addAll_34 (lv_at hl 3 rfl) ?_
    refine lv_aload_n hx hb dX0_addAll_36 rfl (lv_at hl 0 rfl) ?_
    refine ok.getR hO h_a (by decide) k6_1 (by decide) (fun _ _ he hv kk => th_get (ci := 0) (C := RX0) (T := TX0) (N := 4) hx hb hts inX0 hown hK hH he rfl 1 (by decide) fl0 hv dX0_addAll_37 kk) ?_
    refine ok.getI hO hp_7 (by decide) k2_4 (fun _ _ he hv kk => th_getN (ci := 9) (C := RX9) (T := TX9) (N := 5) hx hb hts inX9 hown hK hH he rfl 4 (by decide) (nl_9 hK) hv dX0_addAll_40 kk) (fun z_33 e_34 rz_33 lz_33 uz_33 => ?_)
    refine lv_icmp_ge (tgt := 98) hx hb dX0_addAll_43 (by decide) (fun c_35 => ?_) (fun c_35 => ?_)
    · replace c_35 := (I_le (a := z_33) (b := v6q31) rz_33 rv6q31).mp c_35
      refine lv_aload_n hx hb dX0_addAll_98 rfl (lv_at hl 0 rfl) ?_
      obtain ⟨_, hc_36⟩ := hO.cell h_a (by decide) (ci := 0) rfl
      refine th_calli (va_runV (As := []) (rest := []) ⟨hx, hb, hml, hown, hts⟩ (c_commit l G y b0 σ_J_32 E hO a h_a) (cwV 0 hts gX0_addAll_X0_commit rfl rfl rfl (by decide +kernel) ⟨Nat.le_of_ble_eq_true rfl, Nat.le_of_ble_eq_true rfl⟩) (th_PV hK hH rfl hc_36) rfl rfl hl.1 rfl (lv_room (Nat.le_of_ble_eq_true rfl)) dX0_addAll_99 ⟨Nat.le_of_ble_eq_true rfl, Nat.le_of_ble_eq_true rfl⟩) hS (fun z_39 σ_s_38 H locs rz_39 hw_37 hH hS => ?_)
      obtain ⟨E_40, hX9, hO9, hF9, bhw_37, hw_37⟩ := hw_37
      have e_41 : gI σ_s_38 (ad E a 1) 4 = z_33 := (fr.ki hO hF9 hp_7 (by decide) (by decide) _).trans e_34
      replace hO := hO9
      replace hF := hF.ex hX hF9 (by decide)
      replace hX := hX.tr hX9
      have hp_42 : kd E_40 a = 6 := hX9.kd2 h_a (by decide)
      refine lv_if_eq (tgt := 113) hx hb dX0_addAll_102 (by decide) (fun c_43 => ?_) (fun c_43 => ?_)
      · replace c_43 := (I_eq (a := z_39) (b := 0) rz_39 (show rng 0 from ⟨by decide, by decide⟩)).mp c_43
        refine lv_iconst (v := I (-1)) hx hb dX0_addAll_113 (by decide) ?_
        exact th_iret hx hb hr hlocks hH hS (z := (-1)) (show rng (-1) from ⟨by decide, by decide⟩) ⟨E_40, hX, hO, hF, trivial⟩ dX0_addAll_114
      · replace c_43 := mt (I_eq (a := z_39) (b := 0) rz_39 (show rng 0 from ⟨by decide, by decide⟩)).mpr c_43
        refine lv_lload hx hb dX0_addAll_105 (lv_at hl 2 rfl) ?_
        refine th_calli (va_runS (As := [.long w_4]) (rest := []) ⟨hx, hb, hml, hown, hts⟩ (j_bitCountL l G y b0 σ_s_38 E_40 hO w_4) (va_cwS 1 hts gX0_addAll_J13_bitCount_95d88 rfl rfl rfl (by decide +kernel) ⟨Nat.le_of_ble_eq_true rfl, Nat.le_of_ble_eq_true rfl⟩) (th_PS hK hH) rfl rfl hl.1 rfl (lv_room (Nat.le_of_ble_eq_true rfl)) dX0_addAll_107 ⟨Nat.le_of_ble_eq_true rfl, Nat.le_of_ble_eq_true rfl⟩) hS (fun z_46 σ_s_45 H locs rz_46 hw_44 hH hS => ?_)
        obtain ⟨e9, hw_44⟩ := hw_44
        replace e9 := e9.symm
        subst e9
        refine lv_goto (tgt := 114) hx hb dX0_addAll_110 (by decide) ?_
        exact th_iret hx hb hr hlocks hH hS (z := z_46) rz_46 ⟨E_40, hX, hO, hF, trivial⟩ dX0_addAll_114
    · replace c_35 := mt (I_le (a := z_33) (b := v6q31) rz_33 rv6q31).mpr c_35
      refine lv_lload hx hb dX0_addAll_46 (lv_at hl 2 rfl) ?_
      refine lv_iload hx hb dX0_addAll_48 (lv_at hl 3 rfl) ?_
      refine th_calli (va_runSN (As := [.long w_4, .int (I v6q31)]) (rest := []) ⟨hx, hb, hml, hown, hts⟩ (n_isIn l G y b0 σ_J_32 E hO w_4 v6q31 (show rng v6q31 from rv6q31)) ⟨(va_cnB 2 hts gX0_addAll_X10_isIn_n51 rfl rfl rfl (ml_7 hK) fl2 (by decide +kernel) ⟨Nat.le_of_ble_eq_true rfl, Nat.le_of_ble_eq_true rfl⟩), fl3, trivial⟩ (th_PS hK hH) rfl rfl hl.1 rfl (lv_room (Nat.le_of_ble_eq_true rfl)) dX0_addAll_50 ⟨Nat.le_of_ble_eq_true rfl, Nat.le_of_ble_eq_true rfl⟩) hS (fun z_49 σ_s_48 H locs rz_49 hw_47 hH hS => ?_)
      obtain ⟨e9, bhw_47, hw_47⟩ := hw_47
      replace e9 := e9.symm
      subst e9
      refine lv_if_eq (tgt := 92) hx hb dX0_addAll_53 (by decide) (fun c_50 => ?_) (fun c_50 => ?_)
      · replace c_50 := (I_eq (a := z_49) (b := 0) rz_49 (show rng 0 from ⟨by decide, by decide⟩)).mp c_50
        refine lv_iinc (v := I (v6q31 + 1)) (lv' := [(6, .int (I (v6q31 + 1))), (0, .ref a), (3, .int (I v)), (4, .long w_4)]) hx hb dX0_addAll_92 hl (k := 3) rfl (I_add _ _) (by decide) rfl (fun ls hl => ?_)
        refine lv_goto (tgt := 34) hx hb dX0_addAll_95 (by decide) ?_
        exact ihJ_32 (v6q31 + 1) σ_J_32 _ _ _ (by first | omega | (dsimp only; omega)) ⟨hO, hF, hH, hS, lv_sub hl [1, 2, 3, 0] rfl, ⟨by first | omega | (dsimp only; omega), by first | omega | (dsimp only; omega)⟩, by first | omega | (dsimp only; omega), by first | omega | (dsimp only; omega)⟩
      · replace c_50 := mt (I_eq (a := z_49) (b := 0) rz_49 (show rng 0 from ⟨by decide, by decide⟩)).mpr c_50
        refine lv_aload_n hx hb dX0_addAll_56 rfl (lv_at hl 0 rfl) ?_
        refine ok.getR hO h_a (by decide) k6_1 (by decide) (fun _ _ he hv kk => th_get (ci := 0) (C := RX0) (T := TX0) (N := 4) hx hb hts inX0 hown hK hH he rfl 1 (by decide) fl0 hv dX0_addAll_57 kk) ?_
        refine lv_iload hx hb dX0_addAll_60 (lv_at hl 3 rfl) ?_
        obtain ⟨_, hc_51⟩ := hO.cell hp_7 (by decide) (ci := 9) rfl
        refine th_calli (va_runV (As := [.int (I v6q31)]) (rest := []) ⟨hx, hb, hml, hown, hts⟩ (t_valueAt l G y b0 σ_J_32 (ad E a 1) (tvE E σ_J_32 (ad E a 1) 128) v6q31 (hO.isT2 hp_7) (show rng v6q31 from rv6q31)) (cwV 1 hts gX0_addAll_X9_valueAt rfl rfl rfl (by decide +kernel) ⟨Nat.le_of_ble_eq_true rfl, Nat.le_of_ble_eq_true rfl⟩) (th_PV hK hH rfl hc_51) rfl rfl hl.1 rfl (lv_room (Nat.le_of_ble_eq_true rfl)) dX0_addAll_62 ⟨Nat.le_of_ble_eq_true rfl, Nat.le_of_ble_eq_true rfl⟩) hS (fun z_54 σ_s_53 H locs rz_54 hw_52 hH hS => ?_)
        obtain ⟨e9, hw_52⟩ := hw_52
        replace e9 := e9.symm
        subst e9
        refine lv_iload_n hx hb dX0_addAll_65 rfl (lv_at hl 1 rfl) ?_
        refine lv_iadd hx hb dX0_addAll_66 ?_
        refine th_addo (fun z_55 rz_55 hz_55 => ?_)
        refine lv_istore (lv' := [(7, .int (I z_55)), (0, .ref a), (3, .int (I v)), (4, .long w_4), (6, .int (I v6q31))]) hx hb dX0_addAll_67 hl (by decide) rfl (fun ls hl => ?_)
        refine lv_aload_n hx hb dX0_addAll_69 rfl (lv_at hl 1 rfl) ?_
        refine ok.getR hO h_a (by decide) k6_1 (by decide) (fun _ _ he hv kk => th_get (ci := 0) (C := RX0) (T := TX0) (N := 4) hx hb hts inX0 hown hK hH he rfl 1 (by decide) fl0 hv dX0_addAll_70 kk) ?_
        refine lv_iload hx hb dX0_addAll_73 (lv_at hl 4 rfl) ?_
        refine lv_sipush (v := I (-999)) hx hb dX0_addAll_75 (by decide) ?_
        refine lv_sipush (v := I 999) hx hb dX0_addAll_78 (by decide) ?_
        refine lv_iload hx hb dX0_addAll_81 (lv_at hl 0 rfl) ?_
        refine va_mmin hx hb (by rw [hml]; exact hl.1.symm) hown fl4 fl5 fl6 fl7 (Nat.le_of_ble_eq_true rfl) (Nat.le_of_ble_eq_true rfl) (Nat.zero_le _) (Nat.zero_le _) dX0_addAll_83 ?_
        refine th_mmin (show rng 999 from ⟨by decide, by decide⟩) rz_55 (fun z_56 rz_56 hz_56 => ?_)
        refine va_mmax hx hb (by rw [hml]; exact hl.1.symm) hown fl8 fl9 fl6 fl10 (Nat.le_of_ble_eq_true rfl) (Nat.le_of_ble_eq_true rfl) (Nat.zero_le _) (Nat.zero_le _) dX0_addAll_86 ?_
        refine th_mmax (show rng (-999) from ⟨by decide, by decide⟩) rz_56 (fun z_57 rz_57 hz_57 => ?_)
        obtain ⟨_, hc_58⟩ := hO.cell hp_7 (by decide) (ci := 9) rfl
        refine th_callv (va_runV (As := [.int (I v6q31), .int (I z_57)]) (rest := []) ⟨hx, hb, hml, hown, hts⟩ (tw2_set l G y b0 σ_J_32 E hO (ad E a 1) hp_7 v6q31 (show rng v6q31 from rv6q31) z_57 (show rng z_57 from rz_57)) (cwV 2 hts gX0_addAll_X9_setValue rfl rfl rfl (by decide +kernel) ⟨Nat.le_of_ble_eq_true rfl, Nat.le_of_ble_eq_true rfl⟩) (th_PV hK hH rfl hc_58) rfl rfl hl.1 rfl (lv_room (Nat.le_of_ble_eq_true rfl)) dX0_addAll_89 ⟨Nat.le_of_ble_eq_true rfl, Nat.le_of_ble_eq_true rfl⟩) hS (fun σ_s_60 H locs hw_59 hH hS => ?_)
        obtain ⟨hO9, hF9, hw_59⟩ := hw_59
        replace hO := hO9
        replace hF := hF.ex hX hF9 (by decide)
        have hw_59 : gI σ_s_60 (ad E a 1) 4 = gI σ_J_32 (ad E a 1) 4 := hw_59
        refine lv_iinc (v := I (v6q31 + 1)) (lv' := [(6, .int (I (v6q31 + 1))), (7, .int (I z_55)), (0, .ref a), (3, .int (I v)), (4, .long w_4)]) hx hb dX0_addAll_92 hl (k := 4) rfl (I_add _ _) (by decide) rfl (fun ls hl => ?_)
        refine lv_goto (tgt := 34) hx hb dX0_addAll_95 (by decide) ?_
        replace hl : lv_has ls 8 [(6, .int (I (v6q31 + 1))), (0, .ref a), (3, .int (I v)), (4, .long w_4)] := lv_sub hl [0, 2, 3, 4] rfl
        exact ihJ_32 (v6q31 + 1) σ_s_60 _ _ _ (by first | omega | (dsimp only; omega)) ⟨hO, hF, hH, hS, lv_sub hl [1, 2, 3, 0] rfl, ⟨by first | omega | (dsimp only; omega), by first | omega | (dsimp only; omega)⟩, by first | omega | (dsimp only; omega), by first | omega | (dsimp only; omega)⟩
  · replace c_6 := (I_eq (a := z_5) (b := 0) rz_5 (show rng 0 from ⟨by decide, by decide⟩)).mp c_6
    refine lv_iconst (v := I (-1)) hx hb dX0_addAll_15 (by decide) ?_
    refine W.widen (k := 5) (n := 245) (Nat.le_of_ble_eq_true rfl) (Nat.le_of_ble_eq_true rfl) ?_
    exact th_iret hx hb hr hlocks hH hS (z := (-1)) (show rng (-1) from ⟨by decide, by decide⟩) ⟨E, hX, hO, hF, trivial⟩ dX0_addAll_16

set_option maxHeartbeats 1000000 in
set_option maxRecDepth 100000 in
theorem c_rearrangeAll (l : Launch) (G : va_G) (y : Nat → ClassId) (b0 : Nat) (σ : th_M) (E : th_E) (hO : ok y E σ) (a : Nat) (h_a : kd E a = 6) (w : Int64) (w2 : Int) (rw2 : rng w2) (l_w2 : 0 ≤ w2) (u_w2 : w2 ≤ 1) : Met l yX0_rearrangeAll wsX0_rearrangeAll ({ frames := 4, cells := 5, slots := 245, locals := 149 }) (th_P G y b0 σ [.ref a, .long w, .int (I w2)]) (th_Qi G b0 (fun r σ1 => ∃ E1, ext E E1 ∧ ok y E1 σ1 ∧ fr [5, 1, 2, 6] E σ σ1 ∧ (True))) 5 245 (th_A b0) := by
  refine Met.ofW (cc := cX0_rearrangeAll) (maxL := 9) (ret := (some .int)) (by decide) rfl ?_
  intro p e s m args below meth c s₁ B hml hv
  obtain ⟨rfl, hH, hK⟩ := hv
  have hx := B.exec
  have hb := B.bytes
  have hr := B.returns
  have hts := atoms_spec (ws := wsX0_rearrangeAll) B.pre
  have hown : s.vm.findClass RX0 = some m.cls := findClass_of_methodNamed B.named
  have hlocks := B.notSynchronized
  have h00 : b0 ≤ s.heap.size := hH.1
  have hS : va_S (th_A b0) s.heap s.heap [] := va_S.rf
  have hF : fr [5, 1, 2, 6] E σ σ := fr.rf
  have hX : ext E E := ext.rf
  have inX0 : ∀ w ∈ wsX00, w ∈ wsX0_rearrangeAll := by decide +kernel
  have inX6 : ∀ w ∈ wsX60, w ∈ wsX0_rearrangeAll := by decide +kernel
  have fl0 := hts (.fieldLink RX0 14 "NestQuery$Acts" "work" "LNestQuery$Tree;") (by decide +kernel)
  have fl1 := hts (.fieldLink RX0 27 "NestQuery$Acts" "now" "LNestQuery$State;") (by decide +kernel)
  have fl2 := hts (.initialized RX10) (by decide +kernel)
  have fl3 := hts (.static yX10_isIn) (by decide +kernel)
  have hl := lv_entry ([.ref a, .long w, .int (I w2)]) (n := 9) (Nat.le_of_ble_eq_true rfl)
  rw [lg_entry_eq]
  generalize (lg_sl ([.ref a, .long w, .int (I w2)]) ++ List.replicate (9 - (lg_sl ([.ref a, .long w, .int (I w2)])).length) Slot.unset).toArray = ls at hl ⊢
  have hl : lv_has ls 9 [(0, .ref a), (1, .long w), (3, .int (I w2))] := hl
  refine lv_aload_n hx hb dX0_rearrangeAll_0 rfl (lv_at hl 0 rfl) ?_
  refine lv_lload_n hx hb dX0_rearrangeAll_1 rfl (lv_at hl 1 rfl) ?_
  refine lv_iconst (v := I 2) hx hb dX0_rearrangeAll_2 (by decide) ?_
  obtain ⟨_, hc_1⟩ := hO.cell h_a (by decide) (ci := 0) rfl
  refine th_calll (va_runV (As := [.long w, .int (I 2)]) (rest := []) ⟨hx, hb, hml, hown, hts⟩ (c_ofKind l G y b0 σ E hO a h_a w 2 (show rng 2 from (show rng 2 from ⟨by decide, by decide⟩))) (cwV 2 hts gX0_rearrangeAll_X0_ofKind rfl rfl rfl (by decide +kernel) ⟨Nat.le_of_ble_eq_true rfl, Nat.le_of_ble_eq_true rfl⟩) (th_PV hK hH rfl hc_1) rfl rfl hl.1 rfl (lv_room (Nat.le_of_ble_eq_true rfl)) dX0_rearrangeAll_3 ⟨Nat.le_of_ble_eq_true rfl, Nat.le_of_ble_eq_true rfl⟩) hS (fun w_4 σ_s_3 H locs hw_2 hH hS => ?_)
  obtain ⟨e9, hw_2⟩ := hw_2
  replace e9 := e9.symm
  subst e9
  refine lv_lstore (lv' := [(4, .long w_4), (0, .ref a), (1, .long w), (3, .int (I w2))]) hx hb dX0_rearrangeAll_6 hl (by decide) rfl (fun ls hl => ?_)
  refine lv_iload_n hx hb dX0_rearrangeAll_8 rfl (lv_at hl 3 rfl) ?_
  refine th_join (α := Int64) (J := 26) (stk := fun x9 => [.long x9]) (fun x9 σ9 H9 l9 ls9 => σ9 = σ ∧ th_H G b0 σ9 H9 ∧ va_S (th_A b0) s.heap H9 l9 ∧ lv_has ls9 9 [(0, .ref a), (3, .int (I w2))]) ?_ (fun jK_12 => ?_)
  · intro x9 σ_K_12 H locs ls hI9
    obtain ⟨w0q11, ex9⟩ : ∃ z, z = x9 := ⟨_, rfl⟩
    subst ex9
    obtain ⟨eK_12, hH, hS, hl⟩ := hI9
    replace eK_12 := eK_12.symm
    subst eK_12
    have hl : lv_has ls 9 [(0, .ref a), (3, .int (I w2))] := hl
    refine lv_lstore (lv' := [(6, .long w0q11), (0, .ref a), (3, .int (I w2))]) hx hb dX0_rearrangeAll_26 hl (by decide) rfl (fun ls hl => ?_)
    refine lv_lload hx hb dX0_rearrangeAll_28 (lv_at hl 0 rfl) ?_
    refine lv_lconst (v := 0) hx hb dX0_rearrangeAll_30 (by decide) ?_
    refine W.lcmp hx hb dX0_rearrangeAll_31 ?_
    refine th_topi (fun z_13 rz_13 => ?_)
    refine lv_if_ne (tgt := 37) hx hb dX0_rearrangeAll_32 (by decide) (fun c_14 => ?_) (fun c_14 => ?_)
    · replace c_14 := mt (I_eq (a := z_13) (b := 0) rz_13 (show rng 0 from ⟨by decide, by decide⟩)).mpr c_14
      refine lv_aload_n hx hb dX0_rearrangeAll_37 rfl (lv_at hl 1 rfl) ?_
      have hp_15 : kd E (ad E a 1) = 2 := ok.pk hO h_a (by decide) k6_1 rfl
      refine ok.getR hO h_a (by decide) k6_1 (by decide) (fun _ _ he hv kk => th_get (ci := 0) (C := RX0) (T := TX0) (N := 4) hx hb hts inX0 hown hK hH he rfl 1 (by decide) fl0 hv dX0_rearrangeAll_38 kk) ?_
      refine lv_aload_n hx hb dX0_rearrangeAll_41 rfl (lv_at hl 1 rfl) ?_
      have hp_16 : kd E (ad E a 0) = 5 := ok.pk hO h_a (by decide) k6_0 rfl
      refine ok.getR hO h_a (by decide) k6_0 (by decide) (fun _ _ he hv kk => th_get (ci := 0) (C := RX0) (T := TX0) (N := 4) hx hb hts inX0 hown hK hH he rfl 0 (by decide) fl1 hv dX0_rearrangeAll_42 kk) ?_
      have hp_17 : kd E (ad E (ad E a 0) 0) = 1 := ok.pk hO hp_16 (by decide) k5_0 rfl
      refine ok.getR hO hp_16 (by decide) k5_0 (by decide) (fun _ _ he hv kk => th_getN (ci := 6) (C := RX6) (T := TX6) (N := 7) hx hb hts inX6 hown hK hH he rfl 0 (by decide) (nl_14 hK) hv dX0_rearrangeAll_45 kk) ?_
      obtain ⟨_, hc_18⟩ := hO.cell hp_15 (by decide) (ci := 9) rfl
      refine th_callv (va_runV (As := [.ref (ad E (ad E a 0) 0)]) (rest := []) ⟨hx, hb, hml, hown, hts⟩ (t21_become l G y b0 σ E hO (ad E a 1) hp_15 (ad E (ad E a 0) 0) hp_17) (cwV 1 hts gX0_rearrangeAll_X9_become rfl rfl rfl (by decide +kernel) ⟨Nat.le_of_ble_eq_true rfl, Nat.le_of_ble_eq_true rfl⟩) (th_PV hK hH rfl hc_18) rfl rfl hl.1 rfl (lv_room (Nat.le_of_ble_eq_true rfl)) dX0_rearrangeAll_48 ⟨Nat.le_of_ble_eq_true rfl, Nat.le_of_ble_eq_true rfl⟩) hS (fun σ_s_20 H locs hw_19 hH hS => ?_)
      obtain ⟨hO9, hF9, hw_19⟩ := hw_19
      replace hO := hO9
      replace hF := hF.ex hX hF9 (by decide)
      have hw_19 : gI σ_s_20 (ad E a 1) 4 = gI σ (ad E (ad E a 0) 0) 4 := hw_19
      refine lv_bipush (v := I 59) hx hb dX0_rearrangeAll_51 (by decide) ?_
      refine lv_istore (lv' := [(8, .int (I 59)), (6, .long w0q11), (0, .ref a), (3, .int (I w2))]) hx hb dX0_rearrangeAll_53 hl (by decide) rfl (fun ls hl => ?_)
      refine th_loop (α := Int) (pc := 55) (fun x9 => (x9 + 1).toNat) (fun x9 σ9 H9 l9 ls9 => ok y E σ9 ∧ fr [5, 1, 2, 6] E σ σ9 ∧ th_H G b0 σ9 H9 ∧ va_S (th_A b0) s.heap H9 l9 ∧ lv_has ls9 9 [(0, .ref a), (3, .int (I w2)), (6, .long w0q11), (8, .int (I x9))] ∧ rng x9 ∧ (-1 ≤ x9) ∧ (x9 ≤ 59)) ?_ (59) σ_s_20 _ _ _ ⟨hO, hF, hH, hS, lv_sub hl [2, 3, 1, 0] rfl, (show rng 59 from ⟨by decide, by decide⟩), by first | omega | (dsimp only; omega), by first | omega | (dsimp only; omega)⟩
      intro x9 σ_J_31 H locs ls hI9 ihJ_31
      obtain ⟨v8q30, ex9⟩ : ∃ z, z = x9 := ⟨_, rfl⟩
      subst ex9
      obtain ⟨hO, hF, hH, hS, hl, rv8q30, J_31_0, J_31_1⟩ := hI9
      have hl : lv_has ls 9 [(0, .ref a), (3, .int (I w2)), (6, .long w0q11), (8, .int (I v8q30))] := hl
      have rv8q30 : rng v8q30 := rv8q30
      have J_31_0 : -1 ≤ v8q30 := J_31_0
      have J_31_1 : v8q30 ≤ 59 := J_31_1
      refine lv_iload hx hb dX0_rearrangeAll_55 (lv_at hl 3 rfl) ?_
      refine lv_if_lt (tgt := 83) hx hb dX0_rearrangeAll_57 (by decide) (fun c_32 => ?_) (fun c_32 => ?_)
      · replace c_32 := (I_lt (a := v8q30) (b := 0) rv8q30 (show rng 0 from ⟨by decide, by decide⟩)).mp c_32
        refine lv_aload_n hx hb dX0_rearrangeAll_83 rfl (lv_at hl 0 rfl) ?_
        obtain ⟨_, hc_33⟩ := hO.cell h_a (by decide) (ci := 0) rfl
        refine th_calli (va_runV (As := []) (rest := []) ⟨hx, hb, hml, hown, hts⟩ (c_commit l G y b0 σ_J_31 E hO a h_a) (cwV 0 hts gX0_rearrangeAll_X0_commit rfl rfl rfl (by decide +kernel) ⟨Nat.le_of_ble_eq_true rfl, Nat.le_of_ble_eq_true rfl⟩) (th_PV hK hH rfl hc_33) rfl rfl hl.1 rfl (lv_room (Nat.le_of_ble_eq_true rfl)) dX0_rearrangeAll_84 ⟨Nat.le_of_ble_eq_true rfl, Nat.le_of_ble_eq_true rfl⟩) hS (fun z_36 σ_s_35 H locs rz_36 hw_34 hH hS => ?_)
        obtain ⟨E_37, hX9, hO9, hF9, bhw_34, hw_34⟩ := hw_34
        replace hO := hO9
        replace hF := hF.ex hX hF9 (by decide)
        replace hX := hX.tr hX9
        have hp_38 : kd E_37 a = 6 := hX9.kd2 h_a (by decide)
        refine lv_if_eq (tgt := 98) hx hb dX0_rearrangeAll_87 (by decide) (fun c_39 => ?_) (fun c_39 => ?_)
        · replace c_39 := (I_eq (a := z_36) (b := 0) rz_36 (show rng 0 from ⟨by decide, by decide⟩)).mp c_39
          refine lv_iconst (v := I (-1)) hx hb dX0_rearrangeAll_98 (by decide) ?_
          exact th_iret hx hb hr hlocks hH hS (z := (-1)) (show rng (-1) from ⟨by decide, by decide⟩) ⟨E_37, hX, hO, hF, trivial⟩ dX0_rearrangeAll_99
        · replace c_39 := mt (I_eq (a := z_36) (b := 0) rz_36 (show rng 0 from ⟨by decide, by decide⟩)).mpr c_39
          refine lv_lload hx hb dX0_rearrangeAll_90 (lv_at hl 2 rfl) ?_
          refine th_calli (va_runS (As := [.long w0q11]) (rest := []) ⟨hx, hb, hml, hown, hts⟩ (j_bitCountL l G y b0 σ_s_35 E_37 hO w0q11) (va_cwS 1 hts gX0_rearrangeAll_J13_bitCount_95d88 rfl rfl rfl (by decide +kernel) ⟨Nat.le_of_ble_eq_true rfl, Nat.le_of_ble_eq_true rfl⟩) (th_PS hK hH) rfl rfl hl.1 rfl (lv_room (Nat.le_of_ble_eq_true rfl)) dX0_rearrangeAll_92 ⟨Nat.le_of_ble_eq_true rfl, Nat.le_of_ble_eq_true rfl⟩) hS (fun z_42 σ_s_41 H locs rz_42 hw_40 hH hS => ?_)
          obtain ⟨e9, hw_40⟩ := hw_40
          replace e9 := e9.symm
          subst e9
          refine lv_goto (tgt := 99) hx hb dX0_rearrangeAll_95 (by decide) ?_
          exact th_iret hx hb hr hlocks hH hS (z := z_42) rz_42 ⟨E_37, hX, hO, hF, trivial⟩ dX0_rearrangeAll_99
      · replace c_32 := mt (I_lt (a := v8q30) (b := 0) rv8q30 (show rng 0 from ⟨by decide, by decide⟩)).mpr c_32
        refine lv_lload hx hb dX0_rearrangeAll_60 (lv_at hl 2 rfl) ?_
        refine lv_iload hx hb dX0_rearrangeAll_62 (lv_at hl 3 rfl) ?_
        refine th_calli (va_runSN (As := [.long w0q11, .int (I v8q30)]) (rest := []) ⟨hx, hb, hml, hown, hts⟩ (n_isIn l G y b0 σ_J_31 E hO w0q11 v8q30 (show rng v8q30 from rv8q30)) ⟨(va_cnB 2 hts gX0_rearrangeAll_X10_isIn_n51 rfl rfl rfl (ml_7 hK) fl2 (by decide +kernel) ⟨Nat.le_of_ble_eq_true rfl, Nat.le_of_ble_eq_true rfl⟩), fl3, trivial⟩ (th_PS hK hH) rfl rfl hl.1 rfl (lv_room (Nat.le_of_ble_eq_true rfl)) dX0_rearrangeAll_64 ⟨Nat.le_of_ble_eq_true rfl, Nat.le_of_ble_eq_true rfl⟩) hS (fun z_45 σ_s_44 H locs rz_45 hw_43 hH hS => ?_)
        obtain ⟨e9, bhw_43, hw_43⟩ := hw_43
        replace e9 := e9.symm
        subst e9
        refine lv_if_eq (tgt := 77) hx hb dX0_rearrangeAll_67 (by decide) (fun c_46 => ?_) (fun c_46 => ?_)
        · replace c_46 := (I_eq (a := z_45) (b := 0) rz_45 (show rng 0 from ⟨by decide, by decide⟩)).mp c_46
          refine lv_iinc (v := I (v8q30 + (-1))) (lv' := [(8, .int (I (v8q30 + (-1)))), (0, .ref a), (3, .int (I w2)), (6, .long w0q11)]) hx hb dX0_rearrangeAll_77 hl (k := 3) rfl (I_add _ _) (by decide) rfl (fun ls hl => ?_)
          refine lv_goto (tgt := 55) hx hb dX0_rearrangeAll_80 (by decide) ?_
          exact ihJ_31 (v8q30 + (-1)) σ_J_31 _ _ _ (by first | omega | (dsimp only; omega)) ⟨hO, hF, hH, hS, lv_sub hl [1, 2, 3, 0] rfl, ⟨by first | omega | (dsimp only; omega), by first | omega | (dsimp only; omega)⟩, by first | omega | (dsimp only; omega), by first | omega | (dsimp only; omega)⟩
        · replace c_46 := mt (I_eq (a := z_45) (b := 0) rz_45 (show rng 0 from ⟨by decide, by decide⟩)).mpr c_46
          refine lv_aload_n hx hb dX0_rearrangeAll_70 rfl (lv_at hl 0 rfl) ?_
          refine lv_iload hx hb dX0_rearrangeAll_71 (lv_at hl 3 rfl) ?_
          refine lv_iload_n hx hb dX0_rearrangeAll_73 rfl (lv_at hl 1 rfl) ?_
          obtain ⟨_, hc_47⟩ := hO.cell h_a (by decide) (ci := 0) rfl
          refine th_callv (va_runV (As := [.int (I v8q30), .int (I w2)]) (rest := []) ⟨hx, hb, hml, hown, hts⟩ (c_rearrange l G y b0 σ_J_31 E hO a h_a v8q30 (show rng v8q30 from rv8q30) (by omega) (by omega) w2 (show rng w2 from rw2) (by omega) (by omega)) (cwV 2 hts gX0_rearrangeAll_X0_rearrange rfl rfl rfl (by decide +kernel) ⟨Nat.le_of_ble_eq_true rfl, Nat.le_of_ble_eq_true rfl⟩) (th_PV hK hH rfl hc_47) rfl rfl hl.1 rfl (lv_room (Nat.le_of_ble_eq_true rfl)) dX0_rearrangeAll_74 ⟨Nat.le_of_ble_eq_true rfl, Nat.le_of_ble_eq_true rfl⟩) hS (fun σ_s_49 H locs hw_48 hH hS => ?_)
          obtain ⟨hO9, hF9, hw_48⟩ := hw_48
          replace hO := hO9
          replace hF := hF.ex hX hF9 (by decide)
          refine lv_iinc (v := I (v8q30 + (-1))) (lv' := [(8, .int (I (v8q30 + (-1)))), (0, .ref a), (3, .int (I w2)), (6, .long w0q11)]) hx hb dX0_rearrangeAll_77 hl (k := 3) rfl (I_add _ _) (by decide) rfl (fun ls hl => ?_)
          refine lv_goto (tgt := 55) hx hb dX0_rearrangeAll_80 (by decide) ?_
          exact ihJ_31 (v8q30 + (-1)) σ_s_49 _ _ _ (by first | omega | (dsimp only; omega)) ⟨hO, hF, hH, hS, lv_sub hl [1, 2, 3, 0] rfl, ⟨by first | omega | (dsimp only; omega), by first | omega | (dsimp only; omega)⟩, by first | omega | (dsimp only; omega), by first | omega | (dsimp only; omega)⟩
    · replace c_14 := (I_eq (a := z_13) (b := 0) rz_13 (show rng 0 from ⟨by decide, by decide⟩)).mp c_14
      refine lv_iconst (v := I (-1)) hx hb dX0_rearrangeAll_35 (by decide) ?_
      refine W.widen (k := 5) (n := 245) (Nat.le_of_ble_eq_true rfl) (Nat.le_of_ble_eq_true rfl) ?_
      exact th_iret hx hb hr hlocks hH hS (z := (-1)) (show rng (-1) from ⟨by decide, by decide⟩) ⟨E, hX, hO, hF, trivial⟩ dX0_rearrangeAll_36
  · refine lv_if_eq (tgt := 17) hx hb dX0_rearrangeAll_9 (by decide) (fun c_50 => ?_) (fun c_50 => ?_)
    · replace c_50 := (I_eq (a := w2) (b := 0) rw2 (show rng 0 from ⟨by decide, by decide⟩)).mp c_50
      refine lv_lload hx hb dX0_rearrangeAll_17 (lv_at hl 0 rfl) ?_
      refine lv_aload_n hx hb dX0_rearrangeAll_19 rfl (lv_at hl 1 rfl) ?_
      refine lv_lload_n hx hb dX0_rearrangeAll_20 rfl (lv_at hl 2 rfl) ?_
      refine lv_iconst (v := I 3) hx hb dX0_rearrangeAll_21 (by decide) ?_
      obtain ⟨_, hc_51⟩ := hO.cell h_a (by decide) (ci := 0) rfl
      refine th_calll (va_runV (As := [.long w, .int (I 3)]) (rest := [.long w_4]) ⟨hx, hb, hml, hown, hts⟩ (c_ofKind l G y b0 σ E hO a h_a w 3 (show rng 3 from (show rng 3 from ⟨by decide, by decide⟩))) (cwV 2 hts gX0_rearrangeAll_X0_ofKind rfl rfl rfl (by decide +kernel) ⟨Nat.le_of_ble_eq_true rfl, Nat.le_of_ble_eq_true rfl⟩) (th_PV hK hH rfl hc_51) rfl rfl hl.1 rfl (lv_room (Nat.le_of_ble_eq_true rfl)) dX0_rearrangeAll_22 ⟨Nat.le_of_ble_eq_true rfl, Nat.le_of_ble_eq_true rfl⟩) hS (fun w_54 σ_s_53 H locs hw_52 hH hS => ?_)
      obtain ⟨e9, hw_52⟩ := hw_52
      replace e9 := e9.symm
      subst e9
      refine lv_lor hx hb dX0_rearrangeAll_25 ?_
      refine lv_topl (fun w_55 _ => ?_)
      replace hl : lv_has ls 9 [(0, .ref a), (3, .int (I w2))] := lv_sub hl [1, 3] rfl
      exact jK_12 (w_55) σ _ _ _ ⟨rfl, hH, hS, lv_sub hl [0, 1] rfl⟩
    · replace c_50 := mt (I_eq (a := w2) (b := 0) rw2 (show rng 0 from ⟨by decide, by decide⟩)).mpr c_50
      refine lv_lload hx hb dX0_rearrangeAll_12 (lv_at hl 0 rfl) ?_
      refine lv_goto (tgt := 26) hx hb dX0_rearrangeAll_14 (by decide) ?_
      replace hl : lv_has ls 9 [(0, .ref a), (3, .int (I w2))] := lv_sub hl [1, 3] rfl
      exact jK_12 (w_4) σ _ _ _ ⟨rfl, hH, hS, lv_sub hl [0, 1] rfl⟩

set_option maxHeartbeats 1000000 in
set_option maxRecDepth 100000 in
theorem c_dropAll (l : Launch) (G : va_G) (y : Nat → ClassId) (b0 : Nat) (σ : th_M) (E : th_E) (hO : ok y E σ) (a : Nat) (h_a : kd E a = 6) (w : Int64) : Met l yX0_dropAll wsX0_dropAll ({ frames := 4, cells := 5, slots := 245, locals := 135 }) (th_P G y b0 σ [.ref a, .long w]) (th_Qi G b0 (fun r σ1 => ∃ E1, ext E E1 ∧ ok y E1 σ1 ∧ fr [5, 1, 2] E σ σ1 ∧ (True))) 5 245 (th_A b0) := by
  refine Met.ofW (cc := cX0_dropAll) (maxL := 4) (ret := (some .int)) (by decide) rfl ?_
  intro p e s m args below meth c s₁ B hml hv
  obtain ⟨rfl, hH, hK⟩ := hv
  have hx := B.exec
  have hb := B.bytes
  have hr := B.returns
  have hts := atoms_spec (ws := wsX0_dropAll) B.pre
  have hown : s.vm.findClass RX0 = some m.cls := findClass_of_methodNamed B.named
  have hlocks := B.notSynchronized
  have h00 : b0 ≤ s.heap.size := hH.1
  have hS : va_S (th_A b0) s.heap s.heap [] := va_S.rf
  have hF : fr [5, 1, 2] E σ σ := fr.rf
  have hX : ext E E := ext.rf
  have inX0 : ∀ w ∈ wsX00, w ∈ wsX0_dropAll := by decide +kernel
  have inX6 : ∀ w ∈ wsX60, w ∈ wsX0_dropAll := by decide +kernel
  have fl0 := hts (.initialized RX10) (by decide +kernel)
  have fl1 := hts (.static yX10_isIn) (by decide +kernel)
  have fl2 := hts (.fieldLink RX0 14 "NestQuery$Acts" "work" "LNestQuery$Tree;") (by decide +kernel)
  have fl3 := hts (.fieldLink RX0 27 "NestQuery$Acts" "now" "LNestQuery$State;") (by decide +kernel)
  have hl := lv_entry ([.ref a, .long w]) (n := 4) (Nat.le_of_ble_eq_true rfl)
  rw [lg_entry_eq]
  generalize (lg_sl ([.ref a, .long w]) ++ List.replicate (4 - (lg_sl ([.ref a, .long w])).length) Slot.unset).toArray = ls at hl ⊢
  have hl : lv_has ls 4 [(0, .ref a), (1, .long w)] := hl
  refine lv_lload_n hx hb dX0_dropAll_0 rfl (lv_at hl 1 rfl) ?_
  refine lv_lconst (v := 0) hx hb dX0_dropAll_1 (by decide) ?_
  refine W.lcmp hx hb dX0_dropAll_2 ?_
  refine th_topi (fun z_1 rz_1 => ?_)
  refine lv_if_eq (tgt := 14) hx hb dX0_dropAll_3 (by decide) (fun c_2 => ?_) (fun c_2 => ?_)
  · replace c_2 := (I_eq (a := z_1) (b := 0) rz_1 (show rng 0 from ⟨by decide, by decide⟩)).mp c_2
    refine lv_iconst (v := I (-1)) hx hb dX0_dropAll_14 (by decide) ?_
    refine W.widen (k := 5) (n := 245) (Nat.le_of_ble_eq_true rfl) (Nat.le_of_ble_eq_true rfl) ?_
    exact th_iret hx hb hr hlocks hH hS (z := (-1)) (show rng (-1) from ⟨by decide, by decide⟩) ⟨E, hX, hO, hF, trivial⟩ dX0_dropAll_15
  · replace c_2 := mt (I_eq (a := z_1) (b := 0) rz_1 (show rng 0 from ⟨by decide, by decide⟩)).mpr c_2
    refine lv_lload_n hx hb dX0_dropAll_6 rfl (lv_at hl 1 rfl) ?_
    refine lv_iconst (v := I 0) hx hb dX0_dropAll_7 (by decide) ?_
    refine th_calli (va_runSN (As := [.long w, .int (I 0)]) (rest := []) ⟨hx, hb, hml, hown, hts⟩ (n_isIn l G y b0 σ E hO w 0 (show rng 0 from (show rng 0 from ⟨by decide, by decide⟩))) ⟨(va_cnB 2 hts gX0_dropAll_X10_isIn_n51 rfl rfl rfl (ml_7 hK) fl0 (by decide +kernel) ⟨Nat.le_of_ble_eq_true rfl, Nat.le_of_ble_eq_true rfl⟩), fl1, trivial⟩ (th_PS hK hH) rfl rfl hl.1 rfl (lv_room (Nat.le_of_ble_eq_true rfl)) dX0_dropAll_8 ⟨Nat.le_of_ble_eq_true rfl, Nat.le_of_ble_eq_true rfl⟩) hS (fun z_5 σ_s_4 H locs rz_5 hw_3 hH hS => ?_)
    obtain ⟨e9, bhw_3, hw_3⟩ := hw_3
    replace e9 := e9.symm
    subst e9
    refine lv_if_eq (tgt := 16) hx hb dX0_dropAll_11 (by decide) (fun c_6 => ?_) (fun c_6 => ?_)
    · replace c_6 := (I_eq (a := z_5) (b := 0) rz_5 (show rng 0 from ⟨by decide, by decide⟩)).mp c_6
      refine lv_aload_n hx hb dX0_dropAll_16 rfl (lv_at hl 0 rfl) ?_
      have hp_7 : kd E (ad E a 1) = 2 := ok.pk hO h_a (by decide) k6_1 rfl
      refine ok.getR hO h_a (by decide) k6_1 (by decide) (fun _ _ he hv kk => th_get (ci := 0) (C := RX0) (T := TX0) (N := 4) hx hb hts inX0 hown hK hH he rfl 1 (by decide) fl2 hv dX0_dropAll_17 kk) ?_
      refine lv_aload_n hx hb dX0_dropAll_20 rfl (lv_at hl 0 rfl) ?_
      have hp_8 : kd E (ad E a 0) = 5 := ok.pk hO h_a (by decide) k6_0 rfl
      refine ok.getR hO h_a (by decide) k6_0 (by decide) (fun _ _ he hv kk => th_get (ci := 0) (C := RX0) (T := TX0) (N := 4) hx hb hts inX0 hown hK hH he rfl 0 (by decide) fl3 hv dX0_dropAll_21 kk) ?_
      have hp_9 : kd E (ad E (ad E a 0) 0) = 1 := ok.pk hO hp_8 (by decide) k5_0 rfl
      refine ok.getR hO hp_8 (by decide) k5_0 (by decide) (fun _ _ he hv kk => th_getN (ci := 6) (C := RX6) (T := TX6) (N := 7) hx hb hts inX6 hown hK hH he rfl 0 (by decide) (nl_14 hK) hv dX0_dropAll_24 kk) ?_
      obtain ⟨_, hc_10⟩ := hO.cell hp_7 (by decide) (ci := 9) rfl
      refine th_callv (va_runV (As := [.ref (ad E (ad E a 0) 0)]) (rest := []) ⟨hx, hb, hml, hown, hts⟩ (t21_become l G y b0 σ E hO (ad E a 1) hp_7 (ad E (ad E a 0) 0) hp_9) (cwV 1 hts gX0_dropAll_X9_become rfl rfl rfl (by decide +kernel) ⟨Nat.le_of_ble_eq_true rfl, Nat.le_of_ble_eq_true rfl⟩) (th_PV hK hH rfl hc_10) rfl rfl hl.1 rfl (lv_room (Nat.le_of_ble_eq_true rfl)) dX0_dropAll_27 ⟨Nat.le_of_ble_eq_true rfl, Nat.le_of_ble_eq_true rfl⟩) hS (fun σ_s_12 H locs hw_11 hH hS => ?_)
      obtain ⟨hO9, hF9, hw_11⟩ := hw_11
      replace hO := hO9
      replace hF := hF.ex hX hF9 (by decide)
      have hw_11 : gI σ_s_12 (ad E a 1) 4 = gI σ (ad E (ad E a 0) 0) 4 := hw_11
      refine lv_bipush (v := I 59) hx hb dX0_dropAll_30 (by decide) ?_
      refine lv_istore_n (lv' := [(3, .int (I 59)), (0, .ref a), (1, .long w)]) hx hb dX0_dropAll_32 rfl hl (by decide) rfl (fun ls hl => ?_)
      refine th_loop (α := Int) (pc := 33) (fun x9 => (x9 + 1).toNat) (fun x9 σ9 H9 l9 ls9 => ok y E σ9 ∧ fr [5, 1, 2] E σ σ9 ∧ th_H G b0 σ9 H9 ∧ va_S (th_A b0) s.heap H9 l9 ∧ lv_has ls9 4 [(0, .ref a), (1, .long w), (3, .int (I x9))] ∧ rng x9 ∧ (-1 ≤ x9) ∧ (x9 ≤ 59)) ?_ (59) σ_s_12 _ _ _ ⟨hO, hF, hH, hS, lv_sub hl [1, 2, 0] rfl, (show rng 59 from ⟨by decide, by decide⟩), by first | omega | (dsimp only; omega), by first | omega | (dsimp only; omega)⟩
      intro x9 σ_J_23 H locs ls hI9 ihJ_23
      obtain ⟨v3q22, ex9⟩ : ∃ z, z = x9 := ⟨_, rfl⟩
      subst ex9
      obtain ⟨hO, hF, hH, hS, hl, rv3q22, J_23_0, J_23_1⟩ := hI9
      have hl : lv_has ls 4 [(0, .ref a), (1, .long w), (3, .int (I v3q22))] := hl
      have rv3q22 : rng v3q22 := rv3q22
      have J_23_0 : -1 ≤ v3q22 := J_23_0
      have J_23_1 : v3q22 ≤ 59 := J_23_1
      refine lv_iload_n hx hb dX0_dropAll_33 rfl (lv_at hl 2 rfl) ?_
      refine lv_if_lt (tgt := 59) hx hb dX0_dropAll_34 (by decide) (fun c_24 => ?_) (fun c_24 => ?_)
      · replace c_24 := (I_lt (a := v3q22) (b := 0) rv3q22 (show rng 0 from ⟨by decide, by decide⟩)).mp c_24
        refine lv_aload_n hx hb dX0_dropAll_59 rfl (lv_at hl 0 rfl) ?_
        obtain ⟨_, hc_25⟩ := hO.cell h_a (by decide) (ci := 0) rfl
        refine th_calli (va_runV (As := []) (rest := []) ⟨hx, hb, hml, hown, hts⟩ (c_commit l G y b0 σ_J_23 E hO a h_a) (cwV 0 hts gX0_dropAll_X0_commit rfl rfl rfl (by decide +kernel) ⟨Nat.le_of_ble_eq_true rfl, Nat.le_of_ble_eq_true rfl⟩) (th_PV hK hH rfl hc_25) rfl rfl hl.1 rfl (lv_room (Nat.le_of_ble_eq_true rfl)) dX0_dropAll_60 ⟨Nat.le_of_ble_eq_true rfl, Nat.le_of_ble_eq_true rfl⟩) hS (fun z_28 σ_s_27 H locs rz_28 hw_26 hH hS => ?_)
        obtain ⟨E_29, hX9, hO9, hF9, bhw_26, hw_26⟩ := hw_26
        replace hO := hO9
        replace hF := hF.ex hX hF9 (by decide)
        replace hX := hX.tr hX9
        have hp_30 : kd E_29 a = 6 := hX9.kd2 h_a (by decide)
        refine lv_if_eq (tgt := 73) hx hb dX0_dropAll_63 (by decide) (fun c_31 => ?_) (fun c_31 => ?_)
        · replace c_31 := (I_eq (a := z_28) (b := 0) rz_28 (show rng 0 from ⟨by decide, by decide⟩)).mp c_31
          refine lv_iconst (v := I (-1)) hx hb dX0_dropAll_73 (by decide) ?_
          exact th_iret hx hb hr hlocks hH hS (z := (-1)) (show rng (-1) from ⟨by decide, by decide⟩) ⟨E_29, hX, hO, hF, trivial⟩ dX0_dropAll_74
        · replace c_31 := mt (I_eq (a := z_28) (b := 0) rz_28 (show rng 0 from ⟨by decide, by decide⟩)).mpr c_31
          refine lv_lload_n hx hb dX0_dropAll_66 rfl (lv_at hl 1 rfl) ?_
          refine th_calli (va_runS (As := [.long w]) (rest := []) ⟨hx, hb, hml, hown, hts⟩ (j_bitCountL l G y b0 σ_s_27 E_29 hO w) (va_cwS 1 hts gX0_dropAll_J13_bitCount_95d88 rfl rfl rfl (by decide +kernel) ⟨Nat.le_of_ble_eq_true rfl, Nat.le_of_ble_eq_true rfl⟩) (th_PS hK hH) rfl rfl hl.1 rfl (lv_room (Nat.le_of_ble_eq_true rfl)) dX0_dropAll_67 ⟨Nat.le_of_ble_eq_true rfl, Nat.le_of_ble_eq_true rfl⟩) hS (fun z_34 σ_s_33 H locs rz_34 hw_32 hH hS => ?_)
          obtain ⟨e9, hw_32⟩ := hw_32
          replace e9 := e9.symm
          subst e9
          refine lv_goto (tgt := 74) hx hb dX0_dropAll_70 (by decide) ?_
          exact th_iret hx hb hr hlocks hH hS (z := z_34) rz_34 ⟨E_29, hX, hO, hF, trivial⟩ dX0_dropAll_74
      · replace c_24 := mt (I_lt (a := v3q22) (b := 0) rv3q22 (show rng 0 from ⟨by decide, by decide⟩)).mpr c_24
        refine lv_lload_n hx hb dX0_dropAll_37 rfl (lv_at hl 1 rfl) ?_
        refine lv_iload_n hx hb dX0_dropAll_38 rfl (lv_at hl 2 rfl) ?_
        refine th_calli (va_runSN (As := [.long w, .int (I v3q22)]) (rest := []) ⟨hx, hb, hml, hown, hts⟩ (n_isIn l G y b0 σ_J_23 E hO w v3q22 (show rng v3q22 from rv3q22)) ⟨(va_cnB 2 hts gX0_dropAll_X10_isIn_n51 rfl rfl rfl (ml_7 hK) fl0 (by decide +kernel) ⟨Nat.le_of_ble_eq_true rfl, Nat.le_of_ble_eq_true rfl⟩), fl1, trivial⟩ (th_PS hK hH) rfl rfl hl.1 rfl (lv_room (Nat.le_of_ble_eq_true rfl)) dX0_dropAll_39 ⟨Nat.le_of_ble_eq_true rfl, Nat.le_of_ble_eq_true rfl⟩) hS (fun z_37 σ_s_36 H locs rz_37 hw_35 hH hS => ?_)
        obtain ⟨e9, bhw_35, hw_35⟩ := hw_35
        replace e9 := e9.symm
        subst e9
        refine lv_if_eq (tgt := 53) hx hb dX0_dropAll_42 (by decide) (fun c_38 => ?_) (fun c_38 => ?_)
        · replace c_38 := (I_eq (a := z_37) (b := 0) rz_37 (show rng 0 from ⟨by decide, by decide⟩)).mp c_38
          refine lv_iinc (v := I (v3q22 + (-1))) (lv' := [(3, .int (I (v3q22 + (-1)))), (0, .ref a), (1, .long w)]) hx hb dX0_dropAll_53 hl (k := 2) rfl (I_add _ _) (by decide) rfl (fun ls hl => ?_)
          refine lv_goto (tgt := 33) hx hb dX0_dropAll_56 (by decide) ?_
          exact ihJ_23 (v3q22 + (-1)) σ_J_23 _ _ _ (by first | omega | (dsimp only; omega)) ⟨hO, hF, hH, hS, lv_sub hl [1, 2, 0] rfl, ⟨by first | omega | (dsimp only; omega), by first | omega | (dsimp only; omega)⟩, by first | omega | (dsimp only; omega), by first | omega | (dsimp only; omega)⟩
        · replace c_38 := mt (I_eq (a := z_37) (b := 0) rz_37 (show rng 0 from ⟨by decide, by decide⟩)).mpr c_38
          refine lv_aload_n hx hb dX0_dropAll_45 rfl (lv_at hl 0 rfl) ?_
          refine ok.getR hO h_a (by decide) k6_1 (by decide) (fun _ _ he hv kk => th_get (ci := 0) (C := RX0) (T := TX0) (N := 4) hx hb hts inX0 hown hK hH he rfl 1 (by decide) fl2 hv dX0_dropAll_46 kk) ?_
          refine lv_iload_n hx hb dX0_dropAll_49 rfl (lv_at hl 2 rfl) ?_
          obtain ⟨_, hc_39⟩ := hO.cell hp_7 (by decide) (ci := 9) rfl
          refine th_callv (va_runV (As := [.int (I v3q22)]) (rest := []) ⟨hx, hb, hml, hown, hts⟩ (t2_cut l G y b0 σ_J_23 E hO (ad E a 1) hp_7 v3q22 (show rng v3q22 from rv3q22) (by omega) (by omega)) (cwV 1 hts gX0_dropAll_X9_cut rfl rfl rfl (by decide +kernel) ⟨Nat.le_of_ble_eq_true rfl, Nat.le_of_ble_eq_true rfl⟩) (th_PV hK hH rfl hc_39) rfl rfl hl.1 rfl (lv_room (Nat.le_of_ble_eq_true rfl)) dX0_dropAll_50 ⟨Nat.le_of_ble_eq_true rfl, Nat.le_of_ble_eq_true rfl⟩) hS (fun σ_s_41 H locs hw_40 hH hS => ?_)
          obtain ⟨hO9, hF9, hw_40⟩ := hw_40
          replace hO := hO9
          replace hF := hF.ex hX hF9 (by decide)
          refine lv_iinc (v := I (v3q22 + (-1))) (lv' := [(3, .int (I (v3q22 + (-1)))), (0, .ref a), (1, .long w)]) hx hb dX0_dropAll_53 hl (k := 2) rfl (I_add _ _) (by decide) rfl (fun ls hl => ?_)
          refine lv_goto (tgt := 33) hx hb dX0_dropAll_56 (by decide) ?_
          exact ihJ_23 (v3q22 + (-1)) σ_s_41 _ _ _ (by first | omega | (dsimp only; omega)) ⟨hO, hF, hH, hS, lv_sub hl [1, 2, 0] rfl, ⟨by first | omega | (dsimp only; omega), by first | omega | (dsimp only; omega)⟩, by first | omega | (dsimp only; omega), by first | omega | (dsimp only; omega)⟩
    · replace c_6 := mt (I_eq (a := z_5) (b := 0) rz_5 (show rng 0 from ⟨by decide, by decide⟩)).mpr c_6
      refine lv_iconst (v := I (-1)) hx hb dX0_dropAll_14 (by decide) ?_
      refine W.widen (k := 5) (n := 245) (Nat.le_of_ble_eq_true rfl) (Nat.le_of_ble_eq_true rfl) ?_
      exact th_iret hx hb hr hlocks hH hS (z := (-1)) (show rng (-1) from ⟨by decide, by decide⟩) ⟨E, hX, hO, hF, trivial⟩ dX0_dropAll_15

set_option maxHeartbeats 1000000 in
set_option maxRecDepth 100000 in
theorem c_moveThing (l : Launch) (G : va_G) (y : Nat → ClassId) (b0 : Nat) (σ : th_M) (E : th_E) (hO : ok y E σ) (a : Nat) (h_a : kd E a = 6) (i : Int) (ri : rng i) (j : Int) (rj : rng j) (ky : Int) (rky : rng ky) : Met l yX0_moveThing wsX0_moveThing ({ frames := 4, cells := 5, slots := 245, locals := 148 }) (th_P G y b0 σ [.ref a, .int (I i), .int (I j), .int (I ky)]) (th_Qi G b0 (fun r σ1 => ∃ E1, ext E E1 ∧ ok y E1 σ1 ∧ fr [5, 1, 2] E σ σ1 ∧ (True))) 5 245 (th_A b0) := by
  refine Met.ofW (cc := cX0_moveThing) (maxL := 8) (ret := (some .int)) (by decide) rfl ?_
  intro p e s m args below meth c s₁ B hml hv
  obtain ⟨rfl, hH, hK⟩ := hv
  have hx := B.exec
  have hb := B.bytes
  have hr := B.returns
  have hts := atoms_spec (ws := wsX0_moveThing) B.pre
  have hown : s.vm.findClass RX0 = some m.cls := findClass_of_methodNamed B.named
  have hlocks := B.notSynchronized
  have h00 : b0 ≤ s.heap.size := hH.1
  have hS : va_S (th_A b0) s.heap s.heap [] := va_S.rf
  have hF : fr [5, 1, 2] E σ σ := fr.rf
  have hX : ext E E := ext.rf
  have inX0 : ∀ w ∈ wsX00, w ∈ wsX0_moveThing := by decide +kernel
  have inX6 : ∀ w ∈ wsX60, w ∈ wsX0_moveThing := by decide +kernel
  have fl0 := hts (.fieldLink RX0 27 "NestQuery$Acts" "now" "LNestQuery$State;") (by decide +kernel)
  have fl1 := hts (.fieldLink RX0 14 "NestQuery$Acts" "work" "LNestQuery$Tree;") (by decide +kernel)
  have hl := lv_entry ([.ref a, .int (I i), .int (I j), .int (I ky)]) (n := 8) (Nat.le_of_ble_eq_true rfl)
  rw [lg_entry_eq]
  generalize (lg_sl ([.ref a, .int (I i), .int (I j), .int (I ky)]) ++ List.replicate (8 - (lg_sl ([.ref a, .int (I i), .int (I j), .int (I ky)])).length) Slot.unset).toArray = ls at hl ⊢
  have hl : lv_has ls 8 [(0, .ref a), (1, .int (I i)), (2, .int (I j)), (3, .int (I ky))] := hl
  refine lv_aload_n hx hb dX0_moveThing_0 rfl (lv_at hl 0 rfl) ?_
  have hp_1 : kd E (ad E a 0) = 5 := ok.pk hO h_a (by decide) k6_0 rfl
  refine ok.getR hO h_a (by decide) k6_0 (by decide) (fun _ _ he hv kk => th_get (ci := 0) (C := RX0) (T := TX0) (N := 4) hx hb hts inX0 hown hK hH he rfl 0 (by decide) fl0 hv dX0_moveThing_1 kk) ?_
  have hp_2 : kd E (ad E (ad E a 0) 0) = 1 := ok.pk hO hp_1 (by decide) k5_0 rfl
  refine ok.getR hO hp_1 (by decide) k5_0 (by decide) (fun _ _ he hv kk => th_getN (ci := 6) (C := RX6) (T := TX6) (N := 7) hx hb hts inX6 hown hK hH he rfl 0 (by decide) (nl_14 hK) hv dX0_moveThing_4 kk) ?_
  refine lv_astore (lv' := [(4, .ref (ad E (ad E a 0) 0)), (0, .ref a), (1, .int (I i)), (2, .int (I j)), (3, .int (I ky))]) hx hb dX0_moveThing_7 hl (by decide) rfl (fun ls hl => ?_)
  refine lv_iload_n hx hb dX0_moveThing_9 rfl (lv_at hl 2 rfl) ?_
  refine lv_if_eq (tgt := 31) hx hb dX0_moveThing_10 (by decide) (fun c_3 => ?_) (fun c_3 => ?_)
  · replace c_3 := (I_eq (a := i) (b := 0) ri (show rng 0 from ⟨by decide, by decide⟩)).mp c_3
    refine lv_iconst (v := I (-1)) hx hb dX0_moveThing_31 (by decide) ?_
    refine W.widen (k := 5) (n := 245) (Nat.le_of_ble_eq_true rfl) (Nat.le_of_ble_eq_true rfl) ?_
    exact th_iret hx hb hr hlocks hH hS (z := (-1)) (show rng (-1) from ⟨by decide, by decide⟩) ⟨E, hX, hO, hF, trivial⟩ dX0_moveThing_32
  · replace c_3 := mt (I_eq (a := i) (b := 0) ri (show rng 0 from ⟨by decide, by decide⟩)).mpr c_3
    refine lv_aload hx hb dX0_moveThing_13 (lv_at hl 0 rfl) ?_
    refine lv_iload_n hx hb dX0_moveThing_15 rfl (lv_at hl 2 rfl) ?_
    obtain ⟨z_4, e_5, rz_4, lz_4, uz_4⟩ := hO.gi hp_2 (by decide) k1_4
    obtain ⟨_, hc_6⟩ := hO.cell hp_2 (by decide) (ci := 9) rfl
    refine th_calli (va_runV (As := [.int (I i)]) (rest := []) ⟨hx, hb, hml, hown, hts⟩ (t_has l G y b0 σ (ad E (ad E a 0) 0) (tvE E σ (ad E (ad E a 0) 0) 60) i (hO.isT1 hp_2) (show rng i from ri)) (cwV 1 hts gX0_moveThing_X9_has rfl rfl rfl (by decide +kernel) ⟨Nat.le_of_ble_eq_true rfl, Nat.le_of_ble_eq_true rfl⟩) (th_PV hK hH rfl hc_6) rfl rfl hl.1 rfl (lv_room (Nat.le_of_ble_eq_true rfl)) dX0_moveThing_16 ⟨Nat.le_of_ble_eq_true rfl, Nat.le_of_ble_eq_true rfl⟩) hS (fun z_9 σ_s_8 H locs rz_9 hw_7 hH hS => ?_)
    obtain ⟨e9, hw_7⟩ := hw_7
    replace e9 := e9.symm
    subst e9
    have hw_7 : (z_9 = 1 ∧ 0 ≤ i ∧ i < (gI σ (ad E (ad E a 0) 0) 4)) ∨ (z_9 = 0 ∧ ¬ (0 ≤ i ∧ i < (gI σ (ad E (ad E a 0) 0) 4))) := hw_7
    refine lv_if_eq (tgt := 31) hx hb dX0_moveThing_19 (by decide) (fun c_10 => ?_) (fun c_10 => ?_)
    · replace c_10 := (I_eq (a := z_9) (b := 0) rz_9 (show rng 0 from ⟨by decide, by decide⟩)).mp c_10
      refine lv_iconst (v := I (-1)) hx hb dX0_moveThing_31 (by decide) ?_
      refine W.widen (k := 5) (n := 245) (Nat.le_of_ble_eq_true rfl) (Nat.le_of_ble_eq_true rfl) ?_
      exact th_iret hx hb hr hlocks hH hS (z := (-1)) (show rng (-1) from ⟨by decide, by decide⟩) ⟨E, hX, hO, hF, trivial⟩ dX0_moveThing_32
    · replace c_10 := mt (I_eq (a := z_9) (b := 0) rz_9 (show rng 0 from ⟨by decide, by decide⟩)).mpr c_10
      refine lv_aload hx hb dX0_moveThing_22 (lv_at hl 0 rfl) ?_
      refine lv_iload_n hx hb dX0_moveThing_24 rfl (lv_at hl 3 rfl) ?_
      obtain ⟨_, hc_11⟩ := hO.cell hp_2 (by decide) (ci := 9) rfl
      refine th_calli (va_runV (As := [.int (I j)]) (rest := []) ⟨hx, hb, hml, hown, hts⟩ (t_has l G y b0 σ (ad E (ad E a 0) 0) (tvE E σ (ad E (ad E a 0) 0) 60) j (hO.isT1 hp_2) (show rng j from rj)) (cwV 1 hts gX0_moveThing_X9_has rfl rfl rfl (by decide +kernel) ⟨Nat.le_of_ble_eq_true rfl, Nat.le_of_ble_eq_true rfl⟩) (th_PV hK hH rfl hc_11) rfl rfl hl.1 rfl (lv_room (Nat.le_of_ble_eq_true rfl)) dX0_moveThing_25 ⟨Nat.le_of_ble_eq_true rfl, Nat.le_of_ble_eq_true rfl⟩) hS (fun z_14 σ_s_13 H locs rz_14 hw_12 hH hS => ?_)
      obtain ⟨e9, hw_12⟩ := hw_12
      replace e9 := e9.symm
      subst e9
      have hw_12 : (z_14 = 1 ∧ 0 ≤ j ∧ j < (gI σ (ad E (ad E a 0) 0) 4)) ∨ (z_14 = 0 ∧ ¬ (0 ≤ j ∧ j < (gI σ (ad E (ad E a 0) 0) 4))) := hw_12
      refine lv_if_ne (tgt := 33) hx hb dX0_moveThing_28 (by decide) (fun c_15 => ?_) (fun c_15 => ?_)
      · replace c_15 := mt (I_eq (a := z_14) (b := 0) rz_14 (show rng 0 from ⟨by decide, by decide⟩)).mpr c_15
        refine lv_iload_n hx hb dX0_moveThing_33 rfl (lv_at hl 3 rfl) ?_
        refine lv_iload_n hx hb dX0_moveThing_34 rfl (lv_at hl 2 rfl) ?_
        refine th_join (α := Unit) (J := 48) (stk := fun x9 => []) (fun x9 σ9 H9 l9 ls9 => σ9 = σ ∧ th_H G b0 σ9 H9 ∧ va_S (th_A b0) s.heap H9 l9 ∧ lv_has ls9 8 [(0, .ref a), (1, .int (I i)), (2, .int (I j)), (3, .int (I ky)), (4, .ref (ad E (ad E a 0) 0))]) ?_ (fun jK_23 => ?_)
        · intro x9 σ_K_23 H locs ls hI9
          obtain ⟨eK_23, hH, hS, hl⟩ := hI9
          replace eK_23 := eK_23.symm
          subst eK_23
          have hl : lv_has ls 8 [(0, .ref a), (1, .int (I i)), (2, .int (I j)), (3, .int (I ky)), (4, .ref (ad E (ad E a 0) 0))] := hl
          refine lv_aload_n hx hb dX0_moveThing_48 rfl (lv_at hl 0 rfl) ?_
          refine lv_iload_n hx hb dX0_moveThing_49 rfl (lv_at hl 2 rfl) ?_
          refine lv_iload_n hx hb dX0_moveThing_50 rfl (lv_at hl 3 rfl) ?_
          obtain ⟨_, hc_24⟩ := hO.cell h_a (by decide) (ci := 0) rfl
          refine th_calli (va_runV (As := [.int (I j), .int (I ky)]) (rest := []) ⟨hx, hb, hml, hown, hts⟩ (c_takes l G y b0 σ E hO a h_a j (show rng j from rj) ky (show rng ky from rky)) (cwV 2 hts gX0_moveThing_X0_takesBehindAll rfl rfl rfl (by decide +kernel) ⟨Nat.le_of_ble_eq_true rfl, Nat.le_of_ble_eq_true rfl⟩) (th_PV hK hH rfl hc_24) rfl rfl hl.1 rfl (lv_room (Nat.le_of_ble_eq_true rfl)) dX0_moveThing_51 ⟨Nat.le_of_ble_eq_true rfl, Nat.le_of_ble_eq_true rfl⟩) hS (fun z_27 σ_s_26 H locs rz_27 hw_25 hH hS => ?_)
          obtain ⟨e9, bhw_25, hw_25⟩ := hw_25
          replace e9 := e9.symm
          subst e9
          refine lv_if_ne (tgt := 59) hx hb dX0_moveThing_54 (by decide) (fun c_28 => ?_) (fun c_28 => ?_)
          · replace c_28 := mt (I_eq (a := z_27) (b := 0) rz_27 (show rng 0 from ⟨by decide, by decide⟩)).mpr c_28
            refine lv_aload_n hx hb dX0_moveThing_59 rfl (lv_at hl 0 rfl) ?_
            have hp_29 : kd E (ad E a 1) = 2 := ok.pk hO h_a (by decide) k6_1 rfl
            refine ok.getR hO h_a (by decide) k6_1 (by decide) (fun _ _ he hv kk => th_get (ci := 0) (C := RX0) (T := TX0) (N := 4) hx hb hts inX0 hown hK hH he rfl 1 (by decide) fl1 hv dX0_moveThing_60 kk) ?_
            refine lv_aload hx hb dX0_moveThing_63 (lv_at hl 4 rfl) ?_
            obtain ⟨_, hc_30⟩ := hO.cell hp_29 (by decide) (ci := 9) rfl
            refine th_callv (va_runV (As := [.ref (ad E (ad E a 0) 0)]) (rest := []) ⟨hx, hb, hml, hown, hts⟩ (t21_become l G y b0 σ E hO (ad E a 1) hp_29 (ad E (ad E a 0) 0) hp_2) (cwV 1 hts gX0_moveThing_X9_become rfl rfl rfl (by decide +kernel) ⟨Nat.le_of_ble_eq_true rfl, Nat.le_of_ble_eq_true rfl⟩) (th_PV hK hH rfl hc_30) rfl rfl hl.1 rfl (lv_room (Nat.le_of_ble_eq_true rfl)) dX0_moveThing_65 ⟨Nat.le_of_ble_eq_true rfl, Nat.le_of_ble_eq_true rfl⟩) hS (fun σ_s_32 H locs hw_31 hH hS => ?_)
            obtain ⟨hO9, hF9, hw_31⟩ := hw_31
            have e_33 : gI σ_s_32 (ad E (ad E a 0) 0) 4 = z_4 := (fr.ki hO hF9 hp_2 (by decide) (by decide) _).trans e_5
            replace hO := hO9
            replace hF := hF.ex hX hF9 (by decide)
            have hw_31 : gI σ_s_32 (ad E a 1) 4 = gI σ (ad E (ad E a 0) 0) 4 := hw_31
            refine lv_aload_n hx hb dX0_moveThing_68 rfl (lv_at hl 0 rfl) ?_
            refine ok.getR hO h_a (by decide) k6_1 (by decide) (fun _ _ he hv kk => th_get (ci := 0) (C := RX0) (T := TX0) (N := 4) hx hb hts inX0 hown hK hH he rfl 1 (by decide) fl1 hv dX0_moveThing_69 kk) ?_
            refine lv_iload_n hx hb dX0_moveThing_72 rfl (lv_at hl 1 rfl) ?_
            obtain ⟨_, hc_34⟩ := hO.cell hp_29 (by decide) (ci := 9) rfl
            refine th_callv (va_runV (As := [.int (I i)]) (rest := []) ⟨hx, hb, hml, hown, hts⟩ (t2_cut l G y b0 σ_s_32 E hO (ad E a 1) hp_29 i (show rng i from ri) (by omega) (by omega)) (cwV 1 hts gX0_moveThing_X9_cut rfl rfl rfl (by decide +kernel) ⟨Nat.le_of_ble_eq_true rfl, Nat.le_of_ble_eq_true rfl⟩) (th_PV hK hH rfl hc_34) rfl rfl hl.1 rfl (lv_room (Nat.le_of_ble_eq_true rfl)) dX0_moveThing_73 ⟨Nat.le_of_ble_eq_true rfl, Nat.le_of_ble_eq_true rfl⟩) hS (fun σ_s_36 H locs hw_35 hH hS => ?_)
            obtain ⟨hO9, hF9, hw_35⟩ := hw_35
            have e_37 : gI σ_s_36 (ad E (ad E a 0) 0) 4 = z_4 := (fr.ki hO hF9 hp_2 (by decide) (by decide) _).trans e_33
            replace hO := hO9
            replace hF := hF.ex hX hF9 (by decide)
            refine lv_iload_n hx hb dX0_moveThing_76 rfl (lv_at hl 2 rfl) ?_
            refine lv_iload_n hx hb dX0_moveThing_77 rfl (lv_at hl 1 rfl) ?_
            refine th_join (α := Int) (J := 93) (stk := fun x9 => [.int (I x9)]) (fun x9 σ9 H9 l9 ls9 => σ9 = σ_s_36 ∧ th_H G b0 σ9 H9 ∧ va_S (th_A b0) s.heap H9 l9 ∧ lv_has ls9 8 [(0, .ref a), (1, .int (I i)), (3, .int (I ky)), (4, .ref (ad E (ad E a 0) 0))] ∧ rng x9) ?_ (fun jK_45 => ?_)
            · intro x9 σ_K_45 H locs ls hI9
              obtain ⟨w0q44, ex9⟩ : ∃ z, z = x9 := ⟨_, rfl⟩
              subst ex9
              obtain ⟨eK_45, hH, hS, hl, rw0q44⟩ := hI9
              replace eK_45 := eK_45.symm
              subst eK_45
              have hl : lv_has ls 8 [(0, .ref a), (1, .int (I i)), (3, .int (I ky)), (4, .ref (ad E (ad E a 0) 0))] := hl
              have rw0q44 : rng w0q44 := rw0q44
              refine lv_istore (lv' := [(5, .int (I w0q44)), (0, .ref a), (1, .int (I i)), (3, .int (I ky)), (4, .ref (ad E (ad E a 0) 0))]) hx hb dX0_moveThing_93 hl (by decide) rfl (fun ls hl => ?_)
              refine lv_aload_n hx hb dX0_moveThing_95 rfl (lv_at hl 1 rfl) ?_
              refine ok.getR hO h_a (by decide) k6_1 (by decide) (fun _ _ he hv kk => th_get (ci := 0) (C := RX0) (T := TX0) (N := 4) hx hb hts inX0 hown hK hH he rfl 1 (by decide) fl1 hv dX0_moveThing_96 kk) ?_
              refine lv_iload hx hb dX0_moveThing_99 (lv_at hl 0 rfl) ?_
              obtain ⟨z_46, e_47, rz_46, lz_46, uz_46⟩ := hO.gi hp_29 (by decide) k2_4
              obtain ⟨_, hc_48⟩ := hO.cell hp_29 (by decide) (ci := 9) rfl
              refine th_calli (va_runV (As := [.int (I w0q44)]) (rest := []) ⟨hx, hb, hml, hown, hts⟩ (t_end l G y b0 σ_s_36 (ad E a 1) (tvE E σ_s_36 (ad E a 1) 128) w0q44 (hO.isT2 hp_29) (show rng w0q44 from rw0q44)) (cwV 1 hts gX0_moveThing_X9_end rfl rfl rfl (by decide +kernel) ⟨Nat.le_of_ble_eq_true rfl, Nat.le_of_ble_eq_true rfl⟩) (th_PV hK hH rfl hc_48) rfl rfl hl.1 rfl (lv_room (Nat.le_of_ble_eq_true rfl)) dX0_moveThing_101 ⟨Nat.le_of_ble_eq_true rfl, Nat.le_of_ble_eq_true rfl⟩) hS (fun z_51 σ_s_50 H locs rz_51 hw_49 hH hS => ?_)
              obtain ⟨e9, hw_49⟩ := hw_49
              replace e9 := e9.symm
              subst e9
              have hw_49 : ((0 ≤ w0q44 ∧ w0q44 < (gI σ_s_36 (ad E a 1) 4)) ∧ w0q44 ≤ z_51 ∧ z_51 < (gI σ_s_36 (ad E a 1) 4)) ∨ (z_51 = -1 ∧ ¬ (0 ≤ w0q44 ∧ w0q44 < (gI σ_s_36 (ad E a 1) 4))) := hw_49
              refine lv_iconst (v := I 1) hx hb dX0_moveThing_104 (by decide) ?_
              refine lv_iadd hx hb dX0_moveThing_105 ?_
              refine nq_top (I_add _ _) ?_
              refine lv_istore (lv' := [(6, .int (I (z_51 + 1))), (5, .int (I w0q44)), (0, .ref a), (1, .int (I i)), (3, .int (I ky)), (4, .ref (ad E (ad E a 0) 0))]) hx hb dX0_moveThing_106 hl (by decide) rfl (fun ls hl => ?_)
              refine lv_aload_n hx hb dX0_moveThing_108 rfl (lv_at hl 2 rfl) ?_
              refine ok.getR hO h_a (by decide) k6_1 (by decide) (fun _ _ he hv kk => th_get (ci := 0) (C := RX0) (T := TX0) (N := 4) hx hb hts inX0 hown hK hH he rfl 1 (by decide) fl1 hv dX0_moveThing_109 kk) ?_
              refine lv_iload hx hb dX0_moveThing_112 (lv_at hl 1 rfl) ?_
              refine lv_iload_n hx hb dX0_moveThing_114 rfl (lv_at hl 4 rfl) ?_
              refine lv_aload hx hb dX0_moveThing_115 (lv_at hl 5 rfl) ?_
              refine lv_iload_n hx hb dX0_moveThing_117 rfl (lv_at hl 3 rfl) ?_
              obtain ⟨_, hc_52⟩ := hO.cell hp_29 (by decide) (ci := 9) rfl
              refine th_calli (va_runV (As := [.int (I w0q44), .int (I ky), .ref (ad E (ad E a 0) 0), .int (I i)]) (rest := []) ⟨hx, hb, hml, hown, hts⟩ (t21_behind l G y b0 σ_s_36 E hO (ad E a 1) hp_29 w0q44 (show rng w0q44 from rw0q44) ky (show rng ky from rky) (ad E (ad E a 0) 0) hp_2 i (show rng i from ri) (by omega) (by omega)) (cwV 4 hts gX0_moveThing_X9_graftBehindAll rfl rfl rfl (by decide +kernel) ⟨Nat.le_of_ble_eq_true rfl, Nat.le_of_ble_eq_true rfl⟩) (th_PV hK hH rfl hc_52) rfl rfl hl.1 rfl (lv_room (Nat.le_of_ble_eq_true rfl)) dX0_moveThing_118 ⟨Nat.le_of_ble_eq_true rfl, Nat.le_of_ble_eq_true rfl⟩) hS (fun z_55 σ_s_54 H locs rz_55 hw_53 hH hS => ?_)
              obtain ⟨hO9, hF9, bhw_53, hw_53⟩ := hw_53
              have e_56 : gI σ_s_54 (ad E (ad E a 0) 0) 4 = z_4 := (fr.ki hO hF9 hp_2 (by decide) (by decide) _).trans e_37
              replace hO := hO9
              replace hF := hF.ex hX hF9 (by decide)
              refine lv_istore (lv' := [(7, .int (I z_55)), (6, .int (I (z_51 + 1))), (5, .int (I w0q44)), (0, .ref a), (1, .int (I i)), (3, .int (I ky)), (4, .ref (ad E (ad E a 0) 0))]) hx hb dX0_moveThing_121 hl (by decide) rfl (fun ls hl => ?_)
              refine lv_iload hx hb dX0_moveThing_123 (lv_at hl 0 rfl) ?_
              refine lv_if_eq (tgt := 140) hx hb dX0_moveThing_125 (by decide) (fun c_57 => ?_) (fun c_57 => ?_)
              · replace c_57 := (I_eq (a := z_55) (b := 0) rz_55 (show rng 0 from ⟨by decide, by decide⟩)).mp c_57
                refine lv_iconst (v := I (-1)) hx hb dX0_moveThing_140 (by decide) ?_
                refine W.widen (k := 5) (n := 245) (Nat.le_of_ble_eq_true rfl) (Nat.le_of_ble_eq_true rfl) ?_
                exact th_iret hx hb hr hlocks hH hS (z := (-1)) (show rng (-1) from ⟨by decide, by decide⟩) ⟨E, hX, hO, hF, trivial⟩ dX0_moveThing_141
              · replace c_57 := mt (I_eq (a := z_55) (b := 0) rz_55 (show rng 0 from ⟨by decide, by decide⟩)).mpr c_57
                refine lv_aload_n hx hb dX0_moveThing_128 rfl (lv_at hl 3 rfl) ?_
                obtain ⟨_, hc_58⟩ := hO.cell h_a (by decide) (ci := 0) rfl
                refine th_calli (va_runV (As := []) (rest := []) ⟨hx, hb, hml, hown, hts⟩ (c_commit l G y b0 σ_s_54 E hO a h_a) (cwV 0 hts gX0_moveThing_X0_commit rfl rfl rfl (by decide +kernel) ⟨Nat.le_of_ble_eq_true rfl, Nat.le_of_ble_eq_true rfl⟩) (th_PV hK hH rfl hc_58) rfl rfl hl.1 rfl (lv_room (Nat.le_of_ble_eq_true rfl)) dX0_moveThing_129 ⟨Nat.le_of_ble_eq_true rfl, Nat.le_of_ble_eq_true rfl⟩) hS (fun z_61 σ_s_60 H locs rz_61 hw_59 hH hS => ?_)
                obtain ⟨E_62, hX9, hO9, hF9, bhw_59, hw_59⟩ := hw_59
                replace hO := hO9
                replace hF := hF.ex hX hF9 (by decide)
                replace hX := hX.tr hX9
                have hp_63 : kd E_62 a = 6 := hX9.kd2 h_a (by decide)
                have hp_64 : kd E_62 (ad E (ad E a 0) 0) = 1 := hX9.kd2 hp_2 (by decide)
                refine lv_if_eq (tgt := 140) hx hb dX0_moveThing_132 (by decide) (fun c_65 => ?_) (fun c_65 => ?_)
                · replace c_65 := (I_eq (a := z_61) (b := 0) rz_61 (show rng 0 from ⟨by decide, by decide⟩)).mp c_65
                  refine lv_iconst (v := I (-1)) hx hb dX0_moveThing_140 (by decide) ?_
                  exact th_iret hx hb hr hlocks hH hS (z := (-1)) (show rng (-1) from ⟨by decide, by decide⟩) ⟨E_62, hX, hO, hF, trivial⟩ dX0_moveThing_141
                · replace c_65 := mt (I_eq (a := z_61) (b := 0) rz_61 (show rng 0 from ⟨by decide, by decide⟩)).mpr c_65
                  refine lv_iload hx hb dX0_moveThing_135 (lv_at hl 1 rfl) ?_
                  refine lv_goto (tgt := 141) hx hb dX0_moveThing_137 (by decide) ?_
                  exact th_iret hx hb hr hlocks hH hS (z := (z_51 + 1)) ⟨by omega, by omega⟩ ⟨E_62, hX, hO, hF, trivial⟩ dX0_moveThing_141
            · refine lv_icmp_ge (tgt := 85) hx hb dX0_moveThing_78 (by decide) (fun c_66 => ?_) (fun c_66 => ?_)
              · replace c_66 := (I_le (a := i) (b := j) ri rj).mp c_66
                refine lv_iload_n hx hb dX0_moveThing_85 rfl (lv_at hl 2 rfl) ?_
                refine lv_aload hx hb dX0_moveThing_86 (lv_at hl 4 rfl) ?_
                refine lv_iload_n hx hb dX0_moveThing_88 rfl (lv_at hl 1 rfl) ?_
                obtain ⟨_, hc_67⟩ := hO.cell hp_2 (by decide) (ci := 9) rfl
                refine th_calli (va_runV (As := [.int (I i)]) (rest := [.int (I j)]) ⟨hx, hb, hml, hown, hts⟩ (t_sizeOf l G y b0 σ_s_36 (ad E (ad E a 0) 0) (tvE E σ_s_36 (ad E (ad E a 0) 0) 60) i (hO.isT1 hp_2) (show rng i from ri)) (cwV 1 hts gX0_moveThing_X9_sizeOf rfl rfl rfl (by decide +kernel) ⟨Nat.le_of_ble_eq_true rfl, Nat.le_of_ble_eq_true rfl⟩) (th_PV hK hH rfl hc_67) rfl rfl hl.1 rfl (lv_room (Nat.le_of_ble_eq_true rfl)) dX0_moveThing_89 ⟨Nat.le_of_ble_eq_true rfl, Nat.le_of_ble_eq_true rfl⟩) hS (fun z_70 σ_s_69 H locs rz_70 hw_68 hH hS => ?_)
                obtain ⟨e9, hw_68⟩ := hw_68
                replace e9 := e9.symm
                subst e9
                have hw_68 : ((0 ≤ i ∧ i < (gI σ_s_36 (ad E (ad E a 0) 0) 4)) ∧ 1 ≤ z_70 ∧ i + z_70 ≤ (gI σ_s_36 (ad E (ad E a 0) 0) 4)) ∨ (z_70 = 0 ∧ ¬ (0 ≤ i ∧ i < (gI σ_s_36 (ad E (ad E a 0) 0) 4))) := hw_68
                refine lv_isub hx hb dX0_moveThing_92 ?_
                refine th_subo (fun z_71 rz_71 hz_71 => ?_)
                replace hl : lv_has ls 8 [(0, .ref a), (1, .int (I i)), (3, .int (I ky)), (4, .ref (ad E (ad E a 0) 0))] := lv_sub hl [0, 1, 3, 4] rfl
                exact jK_45 (z_71) σ_s_36 _ _ _ ⟨rfl, hH, hS, lv_sub hl [0, 1, 2, 3] rfl, rz_71⟩
              · replace c_66 := mt (I_le (a := i) (b := j) ri rj).mpr c_66
                refine lv_iload_n hx hb dX0_moveThing_81 rfl (lv_at hl 2 rfl) ?_
                refine lv_goto (tgt := 93) hx hb dX0_moveThing_82 (by decide) ?_
                replace hl : lv_has ls 8 [(0, .ref a), (1, .int (I i)), (3, .int (I ky)), (4, .ref (ad E (ad E a 0) 0))] := lv_sub hl [0, 1, 3, 4] rfl
                exact jK_45 (j) σ_s_36 _ _ _ ⟨rfl, hH, hS, lv_sub hl [0, 1, 2, 3] rfl, rj⟩
          · replace c_28 := (I_eq (a := z_27) (b := 0) rz_27 (show rng 0 from ⟨by decide, by decide⟩)).mp c_28
            refine lv_iconst (v := I (-1)) hx hb dX0_moveThing_57 (by decide) ?_
            refine W.widen (k := 5) (n := 245) (Nat.le_of_ble_eq_true rfl) (Nat.le_of_ble_eq_true rfl) ?_
            exact th_iret hx hb hr hlocks hH hS (z := (-1)) (show rng (-1) from ⟨by decide, by decide⟩) ⟨E, hX, hO, hF, trivial⟩ dX0_moveThing_58
        · refine lv_icmp_lt (tgt := 48) hx hb dX0_moveThing_35 (by decide) (fun c_72 => ?_) (fun c_72 => ?_)
          · replace c_72 := (I_lt (a := j) (b := i) rj ri).mp c_72
            exact jK_23 () σ _ _ _ ⟨rfl, hH, hS, lv_sub hl [1, 2, 3, 4, 0] rfl⟩
          · replace c_72 := mt (I_lt (a := j) (b := i) rj ri).mpr c_72
            refine lv_iload_n hx hb dX0_moveThing_38 rfl (lv_at hl 3 rfl) ?_
            refine lv_aload hx hb dX0_moveThing_39 (lv_at hl 0 rfl) ?_
            refine lv_iload_n hx hb dX0_moveThing_41 rfl (lv_at hl 2 rfl) ?_
            obtain ⟨_, hc_73⟩ := hO.cell hp_2 (by decide) (ci := 9) rfl
            refine th_calli (va_runV (As := [.int (I i)]) (rest := [.int (I j)]) ⟨hx, hb, hml, hown, hts⟩ (t_end l G y b0 σ (ad E (ad E a 0) 0) (tvE E σ (ad E (ad E a 0) 0) 60) i (hO.isT1 hp_2) (show rng i from ri)) (cwV 1 hts gX0_moveThing_X9_end rfl rfl rfl (by decide +kernel) ⟨Nat.le_of_ble_eq_true rfl, Nat.le_of_ble_eq_true rfl⟩) (th_PV hK hH rfl hc_73) rfl rfl hl.1 rfl (lv_room (Nat.le_of_ble_eq_true rfl)) dX0_moveThing_42 ⟨Nat.le_of_ble_eq_true rfl, Nat.le_of_ble_eq_true rfl⟩) hS (fun z_76 σ_s_75 H locs rz_76 hw_74 hH hS => ?_)
            obtain ⟨e9, hw_74⟩ := hw_74
            replace e9 := e9.symm
            subst e9
            have hw_74 : ((0 ≤ i ∧ i < (gI σ (ad E (ad E a 0) 0) 4)) ∧ i ≤ z_76 ∧ z_76 < (gI σ (ad E (ad E a 0) 0) 4)) ∨ (z_76 = -1 ∧ ¬ (0 ≤ i ∧ i < (gI σ (ad E (ad E a 0) 0) 4))) := hw_74
            refine lv_icmp_le (tgt := 57) hx hb dX0_moveThing_45 (by decide) (fun c_77 => ?_) (fun c_77 => ?_)
            · replace c_77 := (I_le (a := j) (b := z_76) rj rz_76).mp c_77
              refine lv_iconst (v := I (-1)) hx hb dX0_moveThing_57 (by decide) ?_
              refine W.widen (k := 5) (n := 245) (Nat.le_of_ble_eq_true rfl) (Nat.le_of_ble_eq_true rfl) ?_
              exact th_iret hx hb hr hlocks hH hS (z := (-1)) (show rng (-1) from ⟨by decide, by decide⟩) ⟨E, hX, hO, hF, trivial⟩ dX0_moveThing_58
            · replace c_77 := mt (I_le (a := j) (b := z_76) rj rz_76).mpr c_77
              exact jK_23 () σ _ _ _ ⟨rfl, hH, hS, lv_sub hl [1, 2, 3, 4, 0] rfl⟩
      · replace c_15 := (I_eq (a := z_14) (b := 0) rz_14 (show rng 0 from ⟨by decide, by decide⟩)).mp c_15
        refine lv_iconst (v := I (-1)) hx hb dX0_moveThing_31 (by decide) ?_
        refine W.widen (k := 5) (n := 245) (Nat.le_of_ble_eq_true rfl) (Nat.le_of_ble_eq_true rfl) ?_
        exact th_iret hx hb hr hlocks hH hS (z := (-1)) (show rng (-1) from ⟨by decide, by decide⟩) ⟨E, hX, hO, hF, trivial⟩ dX0_moveThing_32

set_option maxHeartbeats 1000000 in
set_option maxRecDepth 100000 in
theorem c_layOn (l : Launch) (G : va_G) (y : Nat → ClassId) (b0 : Nat) (σ : th_M) (E : th_E) (hO : ok y E σ) (a : Nat) (h_a : kd E a = 6) (b : Nat) (h_b : kd E b = 7) (w : Int) (rw : rng w) (l_w : 0 ≤ w) (u_w : w ≤ 1) : Met l yX0_layOn wsX0_layOn ({ frames := 63, cells := 5, slots := 245, locals := 1371 }) (th_P G y b0 σ [.ref a, .ref b, .int (I w)]) (th_Qi G b0 (fun r σ1 => ∃ E1, ext E E1 ∧ ok y E1 σ1 ∧ fr [5, 1, 2] E σ σ1 ∧ (True))) 5 245 (th_A b0) := by
  refine Met.ofW (cc := cX0_layOn) (maxL := 3) (ret := (some .int)) (by decide) rfl ?_
  intro p e s m args below meth c s₁ B hml hv
  obtain ⟨rfl, hH, hK⟩ := hv
  have hx := B.exec
  have hb := B.bytes
  have hr := B.returns
  have hts := atoms_spec (ws := wsX0_layOn) B.pre
  have hown : s.vm.findClass RX0 = some m.cls := findClass_of_methodNamed B.named
  have hlocks := B.notSynchronized
  have h00 : b0 ≤ s.heap.size := hH.1
  have hS : va_S (th_A b0) s.heap s.heap [] := va_S.rf
  have hF : fr [5, 1, 2] E σ σ := fr.rf
  have hX : ext E E := ext.rf
  have inX0 : ∀ w ∈ wsX00, w ∈ wsX0_layOn := by decide +kernel
  have inX3 : ∀ w ∈ wsX30, w ∈ wsX0_layOn := by decide +kernel
  have inX6 : ∀ w ∈ wsX60, w ∈ wsX0_layOn := by decide +kernel
  have fl0 := hts (.fieldLink RX0 14 "NestQuery$Acts" "work" "LNestQuery$Tree;") (by decide +kernel)
  have fl1 := hts (.fieldLink RX0 27 "NestQuery$Acts" "now" "LNestQuery$State;") (by decide +kernel)
  have hl := lv_entry ([.ref a, .ref b, .int (I w)]) (n := 3) (Nat.le_of_ble_eq_true rfl)
  rw [lg_entry_eq]
  generalize (lg_sl ([.ref a, .ref b, .int (I w)]) ++ List.replicate (3 - (lg_sl ([.ref a, .ref b, .int (I w)])).length) Slot.unset).toArray = ls at hl ⊢
  have hl : lv_has ls 3 [(0, .ref a), (1, .ref b), (2, .int (I w))] := hl
  refine lv_aload_n hx hb dX0_layOn_0 rfl (lv_at hl 1 rfl) ?_
  refine ok.getI hO h_b (by decide) k7_4 (fun _ _ he hv kk => th_getN (ci := 3) (C := RX3) (T := TX3) (N := 5) hx hb hts inX3 hown hK hH he rfl 4 (by decide) (nl_18 hK) hv dX0_layOn_1 kk) (fun z_1 e_2 rz_1 lz_1 uz_1 => ?_)
  refine lv_iconst (v := I 1) hx hb dX0_layOn_4 (by decide) ?_
  refine lv_icmp_ge (tgt := 10) hx hb dX0_layOn_5 (by decide) (fun c_3 => ?_) (fun c_3 => ?_)
  · replace c_3 := (I_le (a := 1) (b := z_1) (show rng 1 from ⟨by decide, by decide⟩) rz_1).mp c_3
    refine lv_aload_n hx hb dX0_layOn_10 rfl (lv_at hl 0 rfl) ?_
    have hp_4 : kd E (ad E a 1) = 2 := ok.pk hO h_a (by decide) k6_1 rfl
    refine ok.getR hO h_a (by decide) k6_1 (by decide) (fun _ _ he hv kk => th_get (ci := 0) (C := RX0) (T := TX0) (N := 4) hx hb hts inX0 hown hK hH he rfl 1 (by decide) fl0 hv dX0_layOn_11 kk) ?_
    refine lv_aload_n hx hb dX0_layOn_14 rfl (lv_at hl 0 rfl) ?_
    have hp_5 : kd E (ad E a 0) = 5 := ok.pk hO h_a (by decide) k6_0 rfl
    refine ok.getR hO h_a (by decide) k6_0 (by decide) (fun _ _ he hv kk => th_get (ci := 0) (C := RX0) (T := TX0) (N := 4) hx hb hts inX0 hown hK hH he rfl 0 (by decide) fl1 hv dX0_layOn_15 kk) ?_
    have hp_6 : kd E (ad E (ad E a 0) 0) = 1 := ok.pk hO hp_5 (by decide) k5_0 rfl
    refine ok.getR hO hp_5 (by decide) k5_0 (by decide) (fun _ _ he hv kk => th_getN (ci := 6) (C := RX6) (T := TX6) (N := 7) hx hb hts inX6 hown hK hH he rfl 0 (by decide) (nl_14 hK) hv dX0_layOn_18 kk) ?_
    obtain ⟨_, hc_7⟩ := hO.cell hp_4 (by decide) (ci := 9) rfl
    refine th_callv (va_runV (As := [.ref (ad E (ad E a 0) 0)]) (rest := []) ⟨hx, hb, hml, hown, hts⟩ (t21_become l G y b0 σ E hO (ad E a 1) hp_4 (ad E (ad E a 0) 0) hp_6) (cwV 1 hts gX0_layOn_X9_become rfl rfl rfl (by decide +kernel) ⟨Nat.le_of_ble_eq_true rfl, Nat.le_of_ble_eq_true rfl⟩) (th_PV hK hH rfl hc_7) rfl rfl hl.1 rfl (lv_room (Nat.le_of_ble_eq_true rfl)) dX0_layOn_21 ⟨Nat.le_of_ble_eq_true rfl, Nat.le_of_ble_eq_true rfl⟩) hS (fun σ_s_9 H locs hw_8 hH hS => ?_)
    obtain ⟨hO9, hF9, hw_8⟩ := hw_8
    have e_10 : gI σ_s_9 b 4 = z_1 := (fr.ki hO hF9 h_b (by decide) (by decide) _).trans e_2
    replace hO := hO9
    replace hF := hF.ex hX hF9 (by decide)
    have hw_8 : gI σ_s_9 (ad E a 1) 4 = gI σ (ad E (ad E a 0) 0) 4 := hw_8
    refine lv_aload_n hx hb dX0_layOn_24 rfl (lv_at hl 1 rfl) ?_
    refine lv_aload_n hx hb dX0_layOn_25 rfl (lv_at hl 0 rfl) ?_
    refine ok.getR hO h_a (by decide) k6_1 (by decide) (fun _ _ he hv kk => th_get (ci := 0) (C := RX0) (T := TX0) (N := 4) hx hb hts inX0 hown hK hH he rfl 1 (by decide) fl0 hv dX0_layOn_26 kk) ?_
    refine lv_iload_n hx hb dX0_layOn_29 rfl (lv_at hl 2 rfl) ?_
    obtain ⟨_, hc_11⟩ := hO.cell h_b (by decide) (ci := 3) rfl
    refine th_calli (va_runV (As := [.ref (ad E a 1), .int (I w)]) (rest := []) ⟨hx, hb, hml, hown, hts⟩ (h_layOn l G y b0 σ_s_9 E hO b h_b (ad E a 1) hp_4 w (show rng w from rw) (by omega) (by omega)) (cwV 2 hts gX0_layOn_X3_layOn rfl rfl rfl (by decide +kernel) ⟨Nat.le_of_ble_eq_true rfl, Nat.le_of_ble_eq_true rfl⟩) (th_PV hK hH rfl hc_11) rfl rfl hl.1 rfl (lv_room (Nat.le_of_ble_eq_true rfl)) dX0_layOn_30 ⟨Nat.le_of_ble_eq_true rfl, Nat.le_of_ble_eq_true rfl⟩) hS (fun z_14 σ_s_13 H locs rz_14 hw_12 hH hS => ?_)
    obtain ⟨hO9, hF9, bhw_12, hw_12⟩ := hw_12
    have e_15 : gI σ_s_13 b 4 = z_1 := (fr.ki hO hF9 h_b (by decide) (by decide) _).trans e_10
    replace hO := hO9
    replace hF := hF.ex hX hF9 (by decide)
    refine lv_if_eq (tgt := 50) hx hb dX0_layOn_33 (by decide) (fun c_16 => ?_) (fun c_16 => ?_)
    · replace c_16 := (I_eq (a := z_14) (b := 0) rz_14 (show rng 0 from ⟨by decide, by decide⟩)).mp c_16
      refine lv_iconst (v := I (-1)) hx hb dX0_layOn_50 (by decide) ?_
      refine W.widen (k := 5) (n := 245) (Nat.le_of_ble_eq_true rfl) (Nat.le_of_ble_eq_true rfl) ?_
      exact th_iret hx hb hr hlocks hH hS (z := (-1)) (show rng (-1) from ⟨by decide, by decide⟩) ⟨E, hX, hO, hF, trivial⟩ dX0_layOn_51
    · replace c_16 := mt (I_eq (a := z_14) (b := 0) rz_14 (show rng 0 from ⟨by decide, by decide⟩)).mpr c_16
      refine lv_aload_n hx hb dX0_layOn_36 rfl (lv_at hl 0 rfl) ?_
      obtain ⟨_, hc_17⟩ := hO.cell h_a (by decide) (ci := 0) rfl
      refine th_calli (va_runV (As := []) (rest := []) ⟨hx, hb, hml, hown, hts⟩ (c_commit l G y b0 σ_s_13 E hO a h_a) (cwV 0 hts gX0_layOn_X0_commit rfl rfl rfl (by decide +kernel) ⟨Nat.le_of_ble_eq_true rfl, Nat.le_of_ble_eq_true rfl⟩) (th_PV hK hH rfl hc_17) rfl rfl hl.1 rfl (lv_room (Nat.le_of_ble_eq_true rfl)) dX0_layOn_37 ⟨Nat.le_of_ble_eq_true rfl, Nat.le_of_ble_eq_true rfl⟩) hS (fun z_20 σ_s_19 H locs rz_20 hw_18 hH hS => ?_)
      obtain ⟨E_21, hX9, hO9, hF9, bhw_18, hw_18⟩ := hw_18
      have e_22 : gI σ_s_19 b 4 = z_1 := (fr.ki hO hF9 h_b (by decide) (by decide) _).trans e_15
      replace hO := hO9
      replace hF := hF.ex hX hF9 (by decide)
      replace hX := hX.tr hX9
      have hp_23 : kd E_21 a = 6 := hX9.kd2 h_a (by decide)
      have hp_24 : kd E_21 b = 7 := hX9.kd2 h_b (by decide)
      refine lv_if_eq (tgt := 50) hx hb dX0_layOn_40 (by decide) (fun c_25 => ?_) (fun c_25 => ?_)
      · replace c_25 := (I_eq (a := z_20) (b := 0) rz_20 (show rng 0 from ⟨by decide, by decide⟩)).mp c_25
        refine lv_iconst (v := I (-1)) hx hb dX0_layOn_50 (by decide) ?_
        exact th_iret hx hb hr hlocks hH hS (z := (-1)) (show rng (-1) from ⟨by decide, by decide⟩) ⟨E_21, hX, hO, hF, trivial⟩ dX0_layOn_51
      · replace c_25 := mt (I_eq (a := z_20) (b := 0) rz_20 (show rng 0 from ⟨by decide, by decide⟩)).mpr c_25
        refine lv_aload_n hx hb dX0_layOn_43 rfl (lv_at hl 1 rfl) ?_
        refine ok.getIc hO hp_24 (by decide) k7_4 e_22 (fun _ _ he hv kk => th_getN (ci := 3) (C := RX3) (T := TX3) (N := 5) hx hb hts inX3 hown hK hH he rfl 4 (by decide) (nl_18 hK) hv dX0_layOn_44 kk) ?_
        refine lv_goto (tgt := 51) hx hb dX0_layOn_47 (by decide) ?_
        exact th_iret hx hb hr hlocks hH hS (z := z_1) rz_1 ⟨E_21, hX, hO, hF, trivial⟩ dX0_layOn_51
  · replace c_3 := mt (I_le (a := 1) (b := z_1) (show rng 1 from ⟨by decide, by decide⟩) rz_1).mpr c_3
    refine lv_iconst (v := I (-1)) hx hb dX0_layOn_8 (by decide) ?_
    refine W.widen (k := 5) (n := 245) (Nat.le_of_ble_eq_true rfl) (Nat.le_of_ble_eq_true rfl) ?_
    exact th_iret hx hb hr hlocks hH hS (z := (-1)) (show rng (-1) from ⟨by decide, by decide⟩) ⟨E, hX, hO, hF, trivial⟩ dX0_layOn_9

set_option maxHeartbeats 1000000 in
set_option maxRecDepth 100000 in
theorem q_adding (l : Launch) (G : va_G) (y : Nat → ClassId) (b0 : Nat) (σ : th_M) (E : th_E) (hO : ok y E σ) (a : Nat) (h_a : kd E a = 12) (i : Int) (ri : rng i) (v : Int) (rv : rng v) : Met l yX10_adding wsX10_adding ({ frames := 5, cells := 5, slots := 245, locals := 166 }) (th_P G y b0 σ [.ref a, .int (I i), .int (I v)]) (th_Qi G b0 (fun r σ1 => ∃ E1, ext E E1 ∧ ok y E1 σ1 ∧ fr [1, 2, 5, 6] E σ σ1 ∧ (True))) 5 245 (th_A b0) := by
  refine Met.ofW (cc := cX10_adding) (maxL := 4) (ret := (some .int)) (by decide) rfl ?_
  intro p e s m args below meth c s₁ B hml hv
  obtain ⟨rfl, hH, hK⟩ := hv
  have hx := B.exec
  have hb := B.bytes
  have hr := B.returns
  have hts := atoms_spec (ws := wsX10_adding) B.pre
  have hown : s.vm.findClass RX10 = some m.cls := findClass_of_methodNamed B.named
  have hlocks := B.notSynchronized
  have h00 : b0 ≤ s.heap.size := hH.1
  have hS : va_S (th_A b0) s.heap s.heap [] := va_S.rf
  have hF : fr [1, 2, 5, 6] E σ σ := fr.rf
  have hX : ext E E := ext.rf
  have inX10 : ∀ w ∈ wsX100, w ∈ wsX10_adding := by decide +kernel
  have inX6 : ∀ w ∈ wsX60, w ∈ wsX10_adding := by decide +kernel
  have fl0 := hts (.fieldLink RX10 75 "NestQuery" "acts" "LNestQuery$Acts;") (by decide +kernel)
  have fl1 := hts (.fieldLink RX10 63 "NestQuery" "now" "LNestQuery$State;") (by decide +kernel)
  have hl := lv_entry ([.ref a, .int (I i), .int (I v)]) (n := 4) (Nat.le_of_ble_eq_true rfl)
  rw [lg_entry_eq]
  generalize (lg_sl ([.ref a, .int (I i), .int (I v)]) ++ List.replicate (4 - (lg_sl ([.ref a, .int (I i), .int (I v)])).length) Slot.unset).toArray = ls at hl ⊢
  have hl : lv_has ls 4 [(0, .ref a), (1, .int (I i)), (2, .int (I v))] := hl
  refine lv_aload_n hx hb dX10_adding_0 rfl (lv_at hl 0 rfl) ?_
  refine lv_iload_n hx hb dX10_adding_1 rfl (lv_at hl 1 rfl) ?_
  obtain ⟨_, hc_1⟩ := hO.cell h_a (by decide) (ci := 10) rfl
  refine th_callq (va_runV (As := [.int (I i)]) (rest := []) ⟨hx, hb, hml, hown, hts⟩ (q_pathAt l G y b0 σ E hO a h_a i (show rng i from ri)) (cwV 1 hts gX10_adding_X10_pathAt rfl rfl rfl (by decide +kernel) ⟨Nat.le_of_ble_eq_true rfl, Nat.le_of_ble_eq_true rfl⟩) (th_PV hK hH rfl hc_1) rfl rfl hl.1 rfl (lv_room (Nat.le_of_ble_eq_true rfl)) dX10_adding_2 ⟨Nat.le_of_ble_eq_true rfl, Nat.le_of_ble_eq_true rfl⟩) hS (fun x_4 σ_s_3 H locs hw_2 hH hS => ?_)
  obtain ⟨e9, khw_2, hw_2⟩ := hw_2
  replace e9 := e9.symm
  subst e9
  cases x_4 with
  | none =>
    refine lv_astore_nN (lv' := [(3, .null), (0, .ref a), (1, .int (I i)), (2, .int (I v))]) hx hb dX10_adding_5 rfl hl (by decide) rfl (fun ls hl => ?_)
    refine lv_aload_nN hx hb dX10_adding_6 rfl (lv_at hl 0 rfl) ?_
    refine lv_ifnullN (tgt := 24) hx hb dX10_adding_7 (by decide) ?_
    refine lv_iconst (v := I (-1)) hx hb dX10_adding_24 (by decide) ?_
    refine W.widen (k := 5) (n := 245) (Nat.le_of_ble_eq_true rfl) (Nat.le_of_ble_eq_true rfl) ?_
    exact th_iret hx hb hr hlocks hH hS (z := (-1)) (show rng (-1) from ⟨by decide, by decide⟩) ⟨E, hX, hO, hF, trivial⟩ dX10_adding_25
  | some b_5 =>
    have hb_6 : kd E b_5 = 4 := khw_2 b_5 rfl
    refine lv_astore_n (lv' := [(3, .ref b_5), (0, .ref a), (1, .int (I i)), (2, .int (I v))]) hx hb dX10_adding_5 rfl hl (by decide) rfl (fun ls hl => ?_)
    refine lv_aload_n hx hb dX10_adding_6 rfl (lv_at hl 0 rfl) ?_
    refine lv_ifnull hx hb dX10_adding_7 ?_
    refine lv_iload_n hx hb dX10_adding_10 rfl (lv_at hl 3 rfl) ?_
    refine lv_sipush (v := I (-999)) hx hb dX10_adding_11 (by decide) ?_
    refine lv_icmp_lt (tgt := 24) hx hb dX10_adding_14 (by decide) (fun c_7 => ?_) (fun c_7 => ?_)
    · replace c_7 := (I_lt (a := v) (b := (-999)) rv (show rng (-999) from ⟨by decide, by decide⟩)).mp c_7
      refine lv_iconst (v := I (-1)) hx hb dX10_adding_24 (by decide) ?_
      refine W.widen (k := 5) (n := 245) (Nat.le_of_ble_eq_true rfl) (Nat.le_of_ble_eq_true rfl) ?_
      exact th_iret hx hb hr hlocks hH hS (z := (-1)) (show rng (-1) from ⟨by decide, by decide⟩) ⟨E, hX, hO, hF, trivial⟩ dX10_adding_25
    · replace c_7 := mt (I_lt (a := v) (b := (-999)) rv (show rng (-999) from ⟨by decide, by decide⟩)).mpr c_7
      refine lv_iload_n hx hb dX10_adding_17 rfl (lv_at hl 3 rfl) ?_
      refine lv_sipush (v := I 999) hx hb dX10_adding_18 (by decide) ?_
      refine lv_icmp_le (tgt := 26) hx hb dX10_adding_21 (by decide) (fun c_8 => ?_) (fun c_8 => ?_)
      · replace c_8 := (I_le (a := v) (b := 999) rv (show rng 999 from ⟨by decide, by decide⟩)).mp c_8
        refine lv_aload_n hx hb dX10_adding_26 rfl (lv_at hl 1 rfl) ?_
        have hp_9 : kd E (ad E a 12) = 6 := ok.pk hO h_a (by decide) k12_12 rfl
        refine ok.getR hO h_a (by decide) k12_12 (by decide) (fun _ _ he hv kk => th_get (ci := 10) (C := RX10) (T := TX10) (N := 18) hx hb hts inX10 hown hK hH he rfl 12 (by decide) fl0 hv dX10_adding_27 kk) ?_
        refine lv_aload_n hx hb dX10_adding_30 rfl (lv_at hl 0 rfl) ?_
        refine lv_aload_n hx hb dX10_adding_31 rfl (lv_at hl 1 rfl) ?_
        have hp_10 : kd E (ad E a 9) = 5 := ok.pk hO h_a (by decide) k12_9 rfl
        refine ok.getR hO h_a (by decide) k12_9 (by decide) (fun _ _ he hv kk => th_get (ci := 10) (C := RX10) (T := TX10) (N := 18) hx hb hts inX10 hown hK hH he rfl 9 (by decide) fl1 hv dX10_adding_32 kk) ?_
        have hp_11 : kd E (ad E (ad E a 9) 0) = 1 := ok.pk hO hp_10 (by decide) k5_0 rfl
        refine ok.getR hO hp_10 (by decide) k5_0 (by decide) (fun _ _ he hv kk => th_getN (ci := 6) (C := RX6) (T := TX6) (N := 7) hx hb hts inX6 hown hK hH he rfl 0 (by decide) (nl_13 hK) hv dX10_adding_35 kk) ?_
        refine lv_bipush (v := I 8) hx hb dX10_adding_38 (by decide) ?_
        obtain ⟨_, hc_12⟩ := hO.cell hb_6 (by decide) (ci := 4) rfl
        refine th_calll (va_runV (As := [.ref (ad E (ad E a 9) 0), .int (I 8)]) (rest := [.ref (ad E a 12)]) ⟨hx, hb, hml, hown, hts⟩ (p_answersIn l G y b0 σ E hO b_5 hb_6 (ad E (ad E a 9) 0) hp_11 8 (show rng 8 from (show rng 8 from ⟨by decide, by decide⟩))) (cwV 2 hts gX10_adding_X4_answersIn rfl rfl rfl (by decide +kernel) ⟨Nat.le_of_ble_eq_true rfl, Nat.le_of_ble_eq_true rfl⟩) (th_PV hK hH rfl hc_12) rfl rfl hl.1 rfl (lv_room (Nat.le_of_ble_eq_true rfl)) dX10_adding_40 ⟨Nat.le_of_ble_eq_true rfl, Nat.le_of_ble_eq_true rfl⟩) hS (fun w_15 σ_s_14 H locs hw_13 hH hS => ?_)
        obtain ⟨e9, hw_13⟩ := hw_13
        replace e9 := e9.symm
        subst e9
        refine lv_iload_n hx hb dX10_adding_43 rfl (lv_at hl 3 rfl) ?_
        obtain ⟨_, hc_16⟩ := hO.cell hp_9 (by decide) (ci := 0) rfl
        refine th_calli (va_runV (As := [.long w_15, .int (I v)]) (rest := []) ⟨hx, hb, hml, hown, hts⟩ (c_addAll l G y b0 σ E hO (ad E a 12) hp_9 w_15 v (show rng v from rv) (by omega) (by omega)) (cwV 2 hts gX10_adding_X0_addAll rfl rfl rfl (by decide +kernel) ⟨Nat.le_of_ble_eq_true rfl, Nat.le_of_ble_eq_true rfl⟩) (th_PV hK hH rfl hc_16) rfl rfl hl.1 rfl (lv_room (Nat.le_of_ble_eq_true rfl)) dX10_adding_44 ⟨Nat.le_of_ble_eq_true rfl, Nat.le_of_ble_eq_true rfl⟩) hS (fun z_19 σ_s_18 H locs rz_19 hw_17 hH hS => ?_)
        obtain ⟨E_20, hX9, hO9, hF9, hw_17⟩ := hw_17
        replace hO := hO9
        replace hF := hF.ex hX hF9 (by decide)
        replace hX := hX.tr hX9
        have hp_21 : kd E_20 b_5 = 4 := hX9.kd2 hb_6 (by decide)
        have hp_22 : kd E_20 a = 12 := hX9.kd2 h_a (by decide)
        exact th_iret hx hb hr hlocks hH hS (z := z_19) rz_19 ⟨E_20, hX, hO, hF, trivial⟩ dX10_adding_47
      · replace c_8 := mt (I_le (a := v) (b := 999) rv (show rng 999 from ⟨by decide, by decide⟩)).mpr c_8
        refine lv_iconst (v := I (-1)) hx hb dX10_adding_24 (by decide) ?_
        refine W.widen (k := 5) (n := 245) (Nat.le_of_ble_eq_true rfl) (Nat.le_of_ble_eq_true rfl) ?_
        exact th_iret hx hb hr hlocks hH hS (z := (-1)) (show rng (-1) from ⟨by decide, by decide⟩) ⟨E, hX, hO, hF, trivial⟩ dX10_adding_25

set_option maxHeartbeats 1000000 in
set_option maxRecDepth 100000 in
theorem q_changing (l : Launch) (G : va_G) (y : Nat → ClassId) (b0 : Nat) (σ : th_M) (E : th_E) (hO : ok y E σ) (a : Nat) (h_a : kd E a = 12) (i : Int) (ri : rng i) (v : Int) (rv : rng v) : Met l yX10_changing wsX10_changing ({ frames := 5, cells := 5, slots := 245, locals := 181 }) (th_P G y b0 σ [.ref a, .int (I i), .int (I v)]) (th_Qi G b0 (fun r σ1 => ∃ E1, ext E E1 ∧ ok y E1 σ1 ∧ fr [1, 2, 5, 6] E σ σ1 ∧ (True))) 5 245 (th_A b0) := by
  refine Met.ofW (cc := cX10_changing) (maxL := 6) (ret := (some .int)) (by decide) rfl ?_
  intro p e s m args below meth c s₁ B hml hv
  obtain ⟨rfl, hH, hK⟩ := hv
  have hx := B.exec
  have hb := B.bytes
  have hr := B.returns
  have hts := atoms_spec (ws := wsX10_changing) B.pre
  have hown : s.vm.findClass RX10 = some m.cls := findClass_of_methodNamed B.named
  have hlocks := B.notSynchronized
  have h00 : b0 ≤ s.heap.size := hH.1
  have hS : va_S (th_A b0) s.heap s.heap [] := va_S.rf
  have hF : fr [1, 2, 5, 6] E σ σ := fr.rf
  have hX : ext E E := ext.rf
  have inX10 : ∀ w ∈ wsX100, w ∈ wsX10_changing := by decide +kernel
  have inX6 : ∀ w ∈ wsX60, w ∈ wsX10_changing := by decide +kernel
  have fl0 := hts (.fieldLink RX10 63 "NestQuery" "now" "LNestQuery$State;") (by decide +kernel)
  have fl1 := hts (.fieldLink RX10 75 "NestQuery" "acts" "LNestQuery$Acts;") (by decide +kernel)
  have hl := lv_entry ([.ref a, .int (I i), .int (I v)]) (n := 6) (Nat.le_of_ble_eq_true rfl)
  rw [lg_entry_eq]
  generalize (lg_sl ([.ref a, .int (I i), .int (I v)]) ++ List.replicate (6 - (lg_sl ([.ref a, .int (I i), .int (I v)])).length) Slot.unset).toArray = ls at hl ⊢
  have hl : lv_has ls 6 [(0, .ref a), (1, .int (I i)), (2, .int (I v))] := hl
  refine lv_aload_n hx hb dX10_changing_0 rfl (lv_at hl 0 rfl) ?_
  refine lv_iload_n hx hb dX10_changing_1 rfl (lv_at hl 1 rfl) ?_
  obtain ⟨_, hc_1⟩ := hO.cell h_a (by decide) (ci := 10) rfl
  refine th_callq (va_runV (As := [.int (I i)]) (rest := []) ⟨hx, hb, hml, hown, hts⟩ (q_pathAt l G y b0 σ E hO a h_a i (show rng i from ri)) (cwV 1 hts gX10_changing_X10_pathAt rfl rfl rfl (by decide +kernel) ⟨Nat.le_of_ble_eq_true rfl, Nat.le_of_ble_eq_true rfl⟩) (th_PV hK hH rfl hc_1) rfl rfl hl.1 rfl (lv_room (Nat.le_of_ble_eq_true rfl)) dX10_changing_2 ⟨Nat.le_of_ble_eq_true rfl, Nat.le_of_ble_eq_true rfl⟩) hS (fun x_4 σ_s_3 H locs hw_2 hH hS => ?_)
  obtain ⟨e9, khw_2, hw_2⟩ := hw_2
  replace e9 := e9.symm
  subst e9
  cases x_4 with
  | none =>
    refine lv_astore_nN (lv' := [(3, .null), (0, .ref a), (1, .int (I i)), (2, .int (I v))]) hx hb dX10_changing_5 rfl hl (by decide) rfl (fun ls hl => ?_)
    refine lv_aload_nN hx hb dX10_changing_6 rfl (lv_at hl 0 rfl) ?_
    refine lv_ifnullN (tgt := 19) hx hb dX10_changing_7 (by decide) ?_
    refine lv_iconst (v := I (-1)) hx hb dX10_changing_19 (by decide) ?_
    refine W.widen (k := 5) (n := 245) (Nat.le_of_ble_eq_true rfl) (Nat.le_of_ble_eq_true rfl) ?_
    exact th_iret hx hb hr hlocks hH hS (z := (-1)) (show rng (-1) from ⟨by decide, by decide⟩) ⟨E, hX, hO, hF, trivial⟩ dX10_changing_20
  | some b_5 =>
    have hb_6 : kd E b_5 = 4 := khw_2 b_5 rfl
    refine lv_astore_n (lv' := [(3, .ref b_5), (0, .ref a), (1, .int (I i)), (2, .int (I v))]) hx hb dX10_changing_5 rfl hl (by decide) rfl (fun ls hl => ?_)
    refine lv_aload_n hx hb dX10_changing_6 rfl (lv_at hl 0 rfl) ?_
    refine lv_ifnull hx hb dX10_changing_7 ?_
    refine lv_iload_n hx hb dX10_changing_10 rfl (lv_at hl 3 rfl) ?_
    refine lv_if_lt (tgt := 19) hx hb dX10_changing_11 (by decide) (fun c_7 => ?_) (fun c_7 => ?_)
    · replace c_7 := (I_lt (a := v) (b := 0) rv (show rng 0 from ⟨by decide, by decide⟩)).mp c_7
      refine lv_iconst (v := I (-1)) hx hb dX10_changing_19 (by decide) ?_
      refine W.widen (k := 5) (n := 245) (Nat.le_of_ble_eq_true rfl) (Nat.le_of_ble_eq_true rfl) ?_
      exact th_iret hx hb hr hlocks hH hS (z := (-1)) (show rng (-1) from ⟨by decide, by decide⟩) ⟨E, hX, hO, hF, trivial⟩ dX10_changing_20
    · replace c_7 := mt (I_lt (a := v) (b := 0) rv (show rng 0 from ⟨by decide, by decide⟩)).mpr c_7
      refine lv_iload_n hx hb dX10_changing_14 rfl (lv_at hl 3 rfl) ?_
      refine lv_iconst (v := I 2) hx hb dX10_changing_15 (by decide) ?_
      refine lv_icmp_le (tgt := 21) hx hb dX10_changing_16 (by decide) (fun c_8 => ?_) (fun c_8 => ?_)
      · replace c_8 := (I_le (a := v) (b := 2) rv (show rng 2 from ⟨by decide, by decide⟩)).mp c_8
        refine lv_aload_n hx hb dX10_changing_21 rfl (lv_at hl 0 rfl) ?_
        refine lv_aload_n hx hb dX10_changing_22 rfl (lv_at hl 1 rfl) ?_
        have hp_9 : kd E (ad E a 9) = 5 := ok.pk hO h_a (by decide) k12_9 rfl
        refine ok.getR hO h_a (by decide) k12_9 (by decide) (fun _ _ he hv kk => th_get (ci := 10) (C := RX10) (T := TX10) (N := 18) hx hb hts inX10 hown hK hH he rfl 9 (by decide) fl0 hv dX10_changing_23 kk) ?_
        have hp_10 : kd E (ad E (ad E a 9) 0) = 1 := ok.pk hO hp_9 (by decide) k5_0 rfl
        refine ok.getR hO hp_9 (by decide) k5_0 (by decide) (fun _ _ he hv kk => th_getN (ci := 6) (C := RX6) (T := TX6) (N := 7) hx hb hts inX6 hown hK hH he rfl 0 (by decide) (nl_13 hK) hv dX10_changing_26 kk) ?_
        refine lv_bipush (v := I 8) hx hb dX10_changing_29 (by decide) ?_
        obtain ⟨_, hc_11⟩ := hO.cell hb_6 (by decide) (ci := 4) rfl
        refine th_calll (va_runV (As := [.ref (ad E (ad E a 9) 0), .int (I 8)]) (rest := []) ⟨hx, hb, hml, hown, hts⟩ (p_answersIn l G y b0 σ E hO b_5 hb_6 (ad E (ad E a 9) 0) hp_10 8 (show rng 8 from (show rng 8 from ⟨by decide, by decide⟩))) (cwV 2 hts gX10_changing_X4_answersIn rfl rfl rfl (by decide +kernel) ⟨Nat.le_of_ble_eq_true rfl, Nat.le_of_ble_eq_true rfl⟩) (th_PV hK hH rfl hc_11) rfl rfl hl.1 rfl (lv_room (Nat.le_of_ble_eq_true rfl)) dX10_changing_31 ⟨Nat.le_of_ble_eq_true rfl, Nat.le_of_ble_eq_true rfl⟩) hS (fun w_14 σ_s_13 H locs hw_12 hH hS => ?_)
        obtain ⟨e9, hw_12⟩ := hw_12
        replace e9 := e9.symm
        subst e9
        refine lv_lstore (lv' := [(4, .long w_14), (3, .ref b_5), (0, .ref a), (1, .int (I i)), (2, .int (I v))]) hx hb dX10_changing_34 hl (by decide) rfl (fun ls hl => ?_)
        refine lv_iload_n hx hb dX10_changing_36 rfl (lv_at hl 4 rfl) ?_
        refine lv_iconst (v := I 2) hx hb dX10_changing_37 (by decide) ?_
        refine lv_icmp_ne (tgt := 53) hx hb dX10_changing_38 (by decide) (fun c_15 => ?_) (fun c_15 => ?_)
        · replace c_15 := mt (I_eq (a := v) (b := 2) rv (show rng 2 from ⟨by decide, by decide⟩)).mpr c_15
          refine lv_aload_n hx hb dX10_changing_53 rfl (lv_at hl 2 rfl) ?_
          have hp_16 : kd E (ad E a 12) = 6 := ok.pk hO h_a (by decide) k12_12 rfl
          refine ok.getR hO h_a (by decide) k12_12 (by decide) (fun _ _ he hv kk => th_get (ci := 10) (C := RX10) (T := TX10) (N := 18) hx hb hts inX10 hown hK hH he rfl 12 (by decide) fl1 hv dX10_changing_54 kk) ?_
          refine lv_lload hx hb dX10_changing_57 (lv_at hl 0 rfl) ?_
          refine lv_iload_n hx hb dX10_changing_59 rfl (lv_at hl 4 rfl) ?_
          refine lv_iconst (v := I 1) hx hb dX10_changing_60 (by decide) ?_
          refine lv_icmp_ne (tgt := 68) hx hb dX10_changing_61 (by decide) (fun c_17 => ?_) (fun c_17 => ?_)
          · replace c_17 := mt (I_eq (a := v) (b := 1) rv (show rng 1 from ⟨by decide, by decide⟩)).mpr c_17
            refine lv_iconst (v := I 0) hx hb dX10_changing_68 (by decide) ?_
            obtain ⟨_, hc_18⟩ := hO.cell hp_16 (by decide) (ci := 0) rfl
            refine th_calli (va_runV (As := [.long w_14, .int (I 0)]) (rest := []) ⟨hx, hb, hml, hown, hts⟩ (c_rearrangeAll l G y b0 σ E hO (ad E a 12) hp_16 w_14 0 (show rng 0 from (show rng 0 from ⟨by decide, by decide⟩)) (by omega) (by omega)) (cwV 2 hts gX10_changing_X0_rearrangeAll rfl rfl rfl (by decide +kernel) ⟨Nat.le_of_ble_eq_true rfl, Nat.le_of_ble_eq_true rfl⟩) (th_PV hK hH rfl hc_18) rfl rfl hl.1 rfl (lv_room (Nat.le_of_ble_eq_true rfl)) dX10_changing_69 ⟨Nat.le_of_ble_eq_true rfl, Nat.le_of_ble_eq_true rfl⟩) hS (fun z_21 σ_s_20 H locs rz_21 hw_19 hH hS => ?_)
            obtain ⟨E_22, hX9, hO9, hF9, hw_19⟩ := hw_19
            replace hO := hO9
            replace hF := hF.ex hX hF9 (by decide)
            replace hX := hX.tr hX9
            have hp_23 : kd E_22 b_5 = 4 := hX9.kd2 hb_6 (by decide)
            have hp_24 : kd E_22 a = 12 := hX9.kd2 h_a (by decide)
            exact th_iret hx hb hr hlocks hH hS (z := z_21) rz_21 ⟨E_22, hX, hO, hF, trivial⟩ dX10_changing_72
          · replace c_17 := (I_eq (a := v) (b := 1) rv (show rng 1 from ⟨by decide, by decide⟩)).mp c_17
            refine lv_iconst (v := I 1) hx hb dX10_changing_64 (by decide) ?_
            refine lv_goto (tgt := 69) hx hb dX10_changing_65 (by decide) ?_
            obtain ⟨_, hc_25⟩ := hO.cell hp_16 (by decide) (ci := 0) rfl
            refine th_calli (va_runV (As := [.long w_14, .int (I 1)]) (rest := []) ⟨hx, hb, hml, hown, hts⟩ (c_rearrangeAll l G y b0 σ E hO (ad E a 12) hp_16 w_14 1 (show rng 1 from (show rng 1 from ⟨by decide, by decide⟩)) (by omega) (by omega)) (cwV 2 hts gX10_changing_X0_rearrangeAll rfl rfl rfl (by decide +kernel) ⟨Nat.le_of_ble_eq_true rfl, Nat.le_of_ble_eq_true rfl⟩) (th_PV hK hH rfl hc_25) rfl rfl hl.1 rfl (lv_room (Nat.le_of_ble_eq_true rfl)) dX10_changing_69 ⟨Nat.le_of_ble_eq_true rfl, Nat.le_of_ble_eq_true rfl⟩) hS (fun z_28 σ_s_27 H locs rz_28 hw_26 hH hS => ?_)
            obtain ⟨E_29, hX9, hO9, hF9, hw_26⟩ := hw_26
            replace hO := hO9
            replace hF := hF.ex hX hF9 (by decide)
            replace hX := hX.tr hX9
            have hp_30 : kd E_29 b_5 = 4 := hX9.kd2 hb_6 (by decide)
            have hp_31 : kd E_29 a = 12 := hX9.kd2 h_a (by decide)
            exact th_iret hx hb hr hlocks hH hS (z := z_28) rz_28 ⟨E_29, hX, hO, hF, trivial⟩ dX10_changing_72
        · replace c_15 := (I_eq (a := v) (b := 2) rv (show rng 2 from ⟨by decide, by decide⟩)).mp c_15
          refine lv_aload_n hx hb dX10_changing_41 rfl (lv_at hl 2 rfl) ?_
          have hp_32 : kd E (ad E a 12) = 6 := ok.pk hO h_a (by decide) k12_12 rfl
          refine ok.getR hO h_a (by decide) k12_12 (by decide) (fun _ _ he hv kk => th_get (ci := 10) (C := RX10) (T := TX10) (N := 18) hx hb hts inX10 hown hK hH he rfl 12 (by decide) fl1 hv dX10_changing_42 kk) ?_
          refine lv_lload hx hb dX10_changing_45 (lv_at hl 0 rfl) ?_
          obtain ⟨_, hc_33⟩ := hO.cell hp_32 (by decide) (ci := 0) rfl
          refine th_calli (va_runV (As := [.long w_14]) (rest := []) ⟨hx, hb, hml, hown, hts⟩ (c_dropAll l G y b0 σ E hO (ad E a 12) hp_32 w_14) (cwV 1 hts gX10_changing_X0_dropAll rfl rfl rfl (by decide +kernel) ⟨Nat.le_of_ble_eq_true rfl, Nat.le_of_ble_eq_true rfl⟩) (th_PV hK hH rfl hc_33) rfl rfl hl.1 rfl (lv_room (Nat.le_of_ble_eq_true rfl)) dX10_changing_47 ⟨Nat.le_of_ble_eq_true rfl, Nat.le_of_ble_eq_true rfl⟩) hS (fun z_36 σ_s_35 H locs rz_36 hw_34 hH hS => ?_)
          obtain ⟨E_37, hX9, hO9, hF9, hw_34⟩ := hw_34
          replace hO := hO9
          replace hF := hF.ex hX hF9 (by decide)
          replace hX := hX.tr hX9
          have hp_38 : kd E_37 b_5 = 4 := hX9.kd2 hb_6 (by decide)
          have hp_39 : kd E_37 a = 12 := hX9.kd2 h_a (by decide)
          refine lv_goto (tgt := 72) hx hb dX10_changing_50 (by decide) ?_
          exact th_iret hx hb hr hlocks hH hS (z := z_36) rz_36 ⟨E_37, hX, hO, hF, trivial⟩ dX10_changing_72
      · replace c_8 := mt (I_le (a := v) (b := 2) rv (show rng 2 from ⟨by decide, by decide⟩)).mpr c_8
        refine lv_iconst (v := I (-1)) hx hb dX10_changing_19 (by decide) ?_
        refine W.widen (k := 5) (n := 245) (Nat.le_of_ble_eq_true rfl) (Nat.le_of_ble_eq_true rfl) ?_
        exact th_iret hx hb hr hlocks hH hS (z := (-1)) (show rng (-1) from ⟨by decide, by decide⟩) ⟨E, hX, hO, hF, trivial⟩ dX10_changing_20

set_option maxHeartbeats 1000000 in
set_option maxRecDepth 100000 in
theorem q_oneYear (l : Launch) (G : va_G) (y : Nat → ClassId) (b0 : Nat) (σ : th_M) (E : th_E) (hO : ok y E σ) (a : Nat) (h_a : kd E a = 12) : Met l yX10_oneYear wsX10_oneYear ({ frames := 6, cells := 5, slots := 245, locals := 210 }) (th_P G y b0 σ [.ref a]) (th_Qi G b0 (fun r σ1 => ∃ E1, ext E E1 ∧ ok y E1 σ1 ∧ fr [1, 2, 5, 6, 9] E σ σ1 ∧ (True))) 5 245 (th_A b0) := by
  refine Met.ofW (cc := cX10_oneYear) (maxL := 3) (ret := (some .int)) (by decide) rfl ?_
  intro p e s m args below meth c s₁ B hml hv
  obtain ⟨rfl, hH, hK⟩ := hv
  have hx := B.exec
  have hb := B.bytes
  have hr := B.returns
  have hts := atoms_spec (ws := wsX10_oneYear) B.pre
  have hown : s.vm.findClass RX10 = some m.cls := findClass_of_methodNamed B.named
  have hlocks := B.notSynchronized
  have h00 : b0 ≤ s.heap.size := hH.1
  have hS : va_S (th_A b0) s.heap s.heap [] := va_S.rf
  have hF : fr [1, 2, 5, 6, 9] E σ σ := fr.rf
  have hX : ext E E := ext.rf
  have inX10 : ∀ w ∈ wsX100, w ∈ wsX10_oneYear := by decide +kernel
  have inX6 : ∀ w ∈ wsX60, w ∈ wsX10_oneYear := by decide +kernel
  have inX9 : ∀ w ∈ wsX90, w ∈ wsX10_oneYear := by decide +kernel
  have fl0 := hts (.fieldLink RX10 103 "NestQuery" "draws" "LNestQuery$Draws;") (by decide +kernel)
  have fl1 := hts (.fieldLink RX10 63 "NestQuery" "now" "LNestQuery$State;") (by decide +kernel)
  have fl2 := hts (.fieldLink RX10 75 "NestQuery" "acts" "LNestQuery$Acts;") (by decide +kernel)
  have hl := lv_entry ([.ref a]) (n := 3) (Nat.le_of_ble_eq_true rfl)
  rw [lg_entry_eq]
  generalize (lg_sl ([.ref a]) ++ List.replicate (3 - (lg_sl ([.ref a])).length) Slot.unset).toArray = ls at hl ⊢
  have hl : lv_has ls 3 [(0, .ref a)] := hl
  refine lv_aload_n hx hb dX10_oneYear_0 rfl (lv_at hl 0 rfl) ?_
  have hp_1 : kd E (ad E a 17) = 9 := ok.pk hO h_a (by decide) k12_17 rfl
  refine ok.getR hO h_a (by decide) k12_17 (by decide) (fun _ _ he hv kk => th_get (ci := 10) (C := RX10) (T := TX10) (N := 18) hx hb hts inX10 hown hK hH he rfl 17 (by decide) fl0 hv dX10_oneYear_1 kk) ?_
  refine lv_iconst (v := I 5) hx hb dX10_oneYear_4 (by decide) ?_
  obtain ⟨_, hc_2⟩ := hO.cell hp_1 (by decide) (ci := 2) rfl
  refine th_calli (va_runV (As := [.int (I 5)]) (rest := []) ⟨hx, hb, hml, hown, hts⟩ (d_next l G y b0 σ E hO (ad E a 17) hp_1 5 (show rng 5 from (show rng 5 from ⟨by decide, by decide⟩))) (cwV 1 hts gX10_oneYear_X2_next rfl rfl rfl (by decide +kernel) ⟨Nat.le_of_ble_eq_true rfl, Nat.le_of_ble_eq_true rfl⟩) (th_PV hK hH rfl hc_2) rfl rfl hl.1 rfl (lv_room (Nat.le_of_ble_eq_true rfl)) dX10_oneYear_5 ⟨Nat.le_of_ble_eq_true rfl, Nat.le_of_ble_eq_true rfl⟩) hS (fun z_5 σ_s_4 H locs rz_5 hw_3 hH hS => ?_)
  obtain ⟨hO9, hF9, hw_3⟩ := hw_3
  replace hO := hO9
  replace hF := hF.ex hX hF9 (by decide)
  refine lv_istore_n (lv' := [(1, .int (I z_5)), (0, .ref a)]) hx hb dX10_oneYear_8 rfl hl (by decide) rfl (fun ls hl => ?_)
  refine lv_iload_n hx hb dX10_oneYear_9 rfl (lv_at hl 0 rfl) ?_
  refine lv_if_ne (tgt := 40) hx hb dX10_oneYear_10 (by decide) (fun c_6 => ?_) (fun c_6 => ?_)
  · replace c_6 := mt (I_eq (a := z_5) (b := 0) rz_5 (show rng 0 from ⟨by decide, by decide⟩)).mpr c_6
    refine lv_iload_n hx hb dX10_oneYear_40 rfl (lv_at hl 0 rfl) ?_
    refine lv_iconst (v := I 4) hx hb dX10_oneYear_41 (by decide) ?_
    refine lv_icmp_ge (tgt := 61) hx hb dX10_oneYear_42 (by decide) (fun c_7 => ?_) (fun c_7 => ?_)
    · replace c_7 := (I_le (a := 4) (b := z_5) (show rng 4 from ⟨by decide, by decide⟩) rz_5).mp c_7
      refine lv_aload_n hx hb dX10_oneYear_61 rfl (lv_at hl 1 rfl) ?_
      refine ok.getR hO h_a (by decide) k12_17 (by decide) (fun _ _ he hv kk => th_get (ci := 10) (C := RX10) (T := TX10) (N := 18) hx hb hts inX10 hown hK hH he rfl 17 (by decide) fl0 hv dX10_oneYear_62 kk) ?_
      refine lv_aload_n hx hb dX10_oneYear_65 rfl (lv_at hl 1 rfl) ?_
      have hp_8 : kd E (ad E a 9) = 5 := ok.pk hO h_a (by decide) k12_9 rfl
      refine ok.getR hO h_a (by decide) k12_9 (by decide) (fun _ _ he hv kk => th_get (ci := 10) (C := RX10) (T := TX10) (N := 18) hx hb hts inX10 hown hK hH he rfl 9 (by decide) fl1 hv dX10_oneYear_66 kk) ?_
      have hp_9 : kd E (ad E (ad E a 9) 0) = 1 := ok.pk hO hp_8 (by decide) k5_0 rfl
      refine ok.getR hO hp_8 (by decide) k5_0 (by decide) (fun _ _ he hv kk => th_getN (ci := 6) (C := RX6) (T := TX6) (N := 7) hx hb hts inX6 hown hK hH he rfl 0 (by decide) (nl_13 hK) hv dX10_oneYear_69 kk) ?_
      refine ok.getI hO hp_9 (by decide) k1_4 (fun _ _ he hv kk => th_getN (ci := 9) (C := RX9) (T := TX9) (N := 5) hx hb hts inX9 hown hK hH he rfl 4 (by decide) (nl_11 hK) hv dX10_oneYear_72 kk) (fun z_10 e_11 rz_10 lz_10 uz_10 => ?_)
      obtain ⟨_, hc_12⟩ := hO.cell hp_1 (by decide) (ci := 2) rfl
      refine th_calli (va_runV (As := [.int (I z_10)]) (rest := []) ⟨hx, hb, hml, hown, hts⟩ (d_next l G y b0 σ_s_4 E hO (ad E a 17) hp_1 z_10 (show rng z_10 from rz_10)) (cwV 1 hts gX10_oneYear_X2_next rfl rfl rfl (by decide +kernel) ⟨Nat.le_of_ble_eq_true rfl, Nat.le_of_ble_eq_true rfl⟩) (th_PV hK hH rfl hc_12) rfl rfl hl.1 rfl (lv_room (Nat.le_of_ble_eq_true rfl)) dX10_oneYear_75 ⟨Nat.le_of_ble_eq_true rfl, Nat.le_of_ble_eq_true rfl⟩) hS (fun z_15 σ_s_14 H locs rz_15 hw_13 hH hS => ?_)
      obtain ⟨hO9, hF9, hw_13⟩ := hw_13
      have e_16 : gI σ_s_14 (ad E (ad E a 9) 0) 4 = z_10 := (fr.ki hO hF9 hp_9 (by decide) (by decide) _).trans e_11
      replace hO := hO9
      replace hF := hF.ex hX hF9 (by decide)
      refine lv_istore_n (lv' := [(2, .int (I z_15)), (1, .int (I z_5)), (0, .ref a)]) hx hb dX10_oneYear_78 rfl hl (by decide) rfl (fun ls hl => ?_)
      refine lv_aload_n hx hb dX10_oneYear_79 rfl (lv_at hl 2 rfl) ?_
      have hp_17 : kd E (ad E a 12) = 6 := ok.pk hO h_a (by decide) k12_12 rfl
      refine ok.getR hO h_a (by decide) k12_12 (by decide) (fun _ _ he hv kk => th_get (ci := 10) (C := RX10) (T := TX10) (N := 18) hx hb hts inX10 hown hK hH he rfl 12 (by decide) fl2 hv dX10_oneYear_80 kk) ?_
      refine lv_iload_n hx hb dX10_oneYear_83 rfl (lv_at hl 0 rfl) ?_
      refine lv_aload_n hx hb dX10_oneYear_84 rfl (lv_at hl 2 rfl) ?_
      refine ok.getR hO h_a (by decide) k12_17 (by decide) (fun _ _ he hv kk => th_get (ci := 10) (C := RX10) (T := TX10) (N := 18) hx hb hts inX10 hown hK hH he rfl 17 (by decide) fl0 hv dX10_oneYear_85 kk) ?_
      refine lv_aload_n hx hb dX10_oneYear_88 rfl (lv_at hl 2 rfl) ?_
      refine ok.getR hO h_a (by decide) k12_9 (by decide) (fun _ _ he hv kk => th_get (ci := 10) (C := RX10) (T := TX10) (N := 18) hx hb hts inX10 hown hK hH he rfl 9 (by decide) fl1 hv dX10_oneYear_89 kk) ?_
      refine ok.getR hO hp_8 (by decide) k5_0 (by decide) (fun _ _ he hv kk => th_getN (ci := 6) (C := RX6) (T := TX6) (N := 7) hx hb hts inX6 hown hK hH he rfl 0 (by decide) (nl_13 hK) hv dX10_oneYear_92 kk) ?_
      refine ok.getIc hO hp_9 (by decide) k1_4 e_16 (fun _ _ he hv kk => th_getN (ci := 9) (C := RX9) (T := TX9) (N := 5) hx hb hts inX9 hown hK hH he rfl 4 (by decide) (nl_11 hK) hv dX10_oneYear_95 kk) ?_
      obtain ⟨_, hc_18⟩ := hO.cell hp_1 (by decide) (ci := 2) rfl
      refine th_calli (va_runV (As := [.int (I z_10)]) (rest := [.int (I z_15), .ref (ad E a 12)]) ⟨hx, hb, hml, hown, hts⟩ (d_next l G y b0 σ_s_14 E hO (ad E a 17) hp_1 z_10 (show rng z_10 from rz_10)) (cwV 1 hts gX10_oneYear_X2_next rfl rfl rfl (by decide +kernel) ⟨Nat.le_of_ble_eq_true rfl, Nat.le_of_ble_eq_true rfl⟩) (th_PV hK hH rfl hc_18) rfl rfl hl.1 rfl (lv_room (Nat.le_of_ble_eq_true rfl)) dX10_oneYear_98 ⟨Nat.le_of_ble_eq_true rfl, Nat.le_of_ble_eq_true rfl⟩) hS (fun z_21 σ_s_20 H locs rz_21 hw_19 hH hS => ?_)
      obtain ⟨hO9, hF9, hw_19⟩ := hw_19
      have e_22 : gI σ_s_20 (ad E (ad E a 9) 0) 4 = z_10 := (fr.ki hO hF9 hp_9 (by decide) (by decide) _).trans e_16
      replace hO := hO9
      replace hF := hF.ex hX hF9 (by decide)
      refine lv_iconst (v := I 0) hx hb dX10_oneYear_101 (by decide) ?_
      obtain ⟨_, hc_23⟩ := hO.cell hp_17 (by decide) (ci := 0) rfl
      refine th_calli (va_runV (As := [.int (I z_15), .int (I z_21), .int (I 0)]) (rest := []) ⟨hx, hb, hml, hown, hts⟩ (c_moveThing l G y b0 σ_s_20 E hO (ad E a 12) hp_17 z_15 (show rng z_15 from rz_15) z_21 (show rng z_21 from rz_21) 0 (show rng 0 from (show rng 0 from ⟨by decide, by decide⟩))) (cwV 3 hts gX10_oneYear_X0_moveThing rfl rfl rfl (by decide +kernel) ⟨Nat.le_of_ble_eq_true rfl, Nat.le_of_ble_eq_true rfl⟩) (th_PV hK hH rfl hc_23) rfl rfl hl.1 rfl (lv_room (Nat.le_of_ble_eq_true rfl)) dX10_oneYear_102 ⟨Nat.le_of_ble_eq_true rfl, Nat.le_of_ble_eq_true rfl⟩) hS (fun z_26 σ_s_25 H locs rz_26 hw_24 hH hS => ?_)
      obtain ⟨E_27, hX9, hO9, hF9, hw_24⟩ := hw_24
      replace hO := hO9
      replace hF := hF.ex hX hF9 (by decide)
      replace hX := hX.tr hX9
      have hp_28 : kd E_27 a = 12 := hX9.kd2 h_a (by decide)
      exact th_iret hx hb hr hlocks hH hS (z := z_26) rz_26 ⟨E_27, hX, hO, hF, trivial⟩ dX10_oneYear_105
    · replace c_7 := mt (I_le (a := 4) (b := z_5) (show rng 4 from ⟨by decide, by decide⟩) rz_5).mpr c_7
      refine lv_aload_n hx hb dX10_oneYear_45 rfl (lv_at hl 1 rfl) ?_
      refine lv_aload_n hx hb dX10_oneYear_46 rfl (lv_at hl 1 rfl) ?_
      refine ok.getR hO h_a (by decide) k12_17 (by decide) (fun _ _ he hv kk => th_get (ci := 10) (C := RX10) (T := TX10) (N := 18) hx hb hts inX10 hown hK hH he rfl 17 (by decide) fl0 hv dX10_oneYear_47 kk) ?_
      refine lv_iconst (v := I 4) hx hb dX10_oneYear_50 (by decide) ?_
      obtain ⟨_, hc_29⟩ := hO.cell hp_1 (by decide) (ci := 2) rfl
      refine th_calli (va_runV (As := [.int (I 4)]) (rest := [.ref a]) ⟨hx, hb, hml, hown, hts⟩ (d_next l G y b0 σ_s_4 E hO (ad E a 17) hp_1 4 (show rng 4 from (show rng 4 from ⟨by decide, by decide⟩))) (cwV 1 hts gX10_oneYear_X2_next rfl rfl rfl (by decide +kernel) ⟨Nat.le_of_ble_eq_true rfl, Nat.le_of_ble_eq_true rfl⟩) (th_PV hK hH rfl hc_29) rfl rfl hl.1 rfl (lv_room (Nat.le_of_ble_eq_true rfl)) dX10_oneYear_51 ⟨Nat.le_of_ble_eq_true rfl, Nat.le_of_ble_eq_true rfl⟩) hS (fun z_32 σ_s_31 H locs rz_32 hw_30 hH hS => ?_)
      obtain ⟨hO9, hF9, hw_30⟩ := hw_30
      replace hO := hO9
      replace hF := hF.ex hX hF9 (by decide)
      refine lv_iload_n hx hb dX10_oneYear_54 rfl (lv_at hl 0 rfl) ?_
      refine lv_iconst (v := I 1) hx hb dX10_oneYear_55 (by decide) ?_
      refine lv_isub hx hb dX10_oneYear_56 ?_
      refine th_subo (fun z_33 rz_33 hz_33 => ?_)
      obtain ⟨_, hc_34⟩ := hO.cell h_a (by decide) (ci := 10) rfl
      refine th_calli (va_runV (As := [.int (I z_32), .int (I z_33)]) (rest := []) ⟨hx, hb, hml, hown, hts⟩ (q_changing l G y b0 σ_s_31 E hO a h_a z_32 (show rng z_32 from rz_32) z_33 (show rng z_33 from rz_33)) (cwV 2 hts gX10_oneYear_X10_changing rfl rfl rfl (by decide +kernel) ⟨Nat.le_of_ble_eq_true rfl, Nat.le_of_ble_eq_true rfl⟩) (th_PV hK hH rfl hc_34) rfl rfl hl.1 rfl (lv_room (Nat.le_of_ble_eq_true rfl)) dX10_oneYear_57 ⟨Nat.le_of_ble_eq_true rfl, Nat.le_of_ble_eq_true rfl⟩) hS (fun z_37 σ_s_36 H locs rz_37 hw_35 hH hS => ?_)
      obtain ⟨E_38, hX9, hO9, hF9, hw_35⟩ := hw_35
      replace hO := hO9
      replace hF := hF.ex hX hF9 (by decide)
      replace hX := hX.tr hX9
      have hp_39 : kd E_38 a = 12 := hX9.kd2 h_a (by decide)
      exact th_iret hx hb hr hlocks hH hS (z := z_37) rz_37 ⟨E_38, hX, hO, hF, trivial⟩ dX10_oneYear_60
  · replace c_6 := (I_eq (a := z_5) (b := 0) rz_5 (show rng 0 from ⟨by decide, by decide⟩)).mp c_6
    refine lv_aload_n hx hb dX10_oneYear_13 rfl (lv_at hl 1 rfl) ?_
    refine ok.getR hO h_a (by decide) k12_17 (by decide) (fun _ _ he hv kk => th_get (ci := 10) (C := RX10) (T := TX10) (N := 18) hx hb hts inX10 hown hK hH he rfl 17 (by decide) fl0 hv dX10_oneYear_14 kk) ?_
    refine lv_iconst (v := I 4) hx hb dX10_oneYear_17 (by decide) ?_
    obtain ⟨_, hc_40⟩ := hO.cell hp_1 (by decide) (ci := 2) rfl
    refine th_calli (va_runV (As := [.int (I 4)]) (rest := []) ⟨hx, hb, hml, hown, hts⟩ (d_next l G y b0 σ_s_4 E hO (ad E a 17) hp_1 4 (show rng 4 from (show rng 4 from ⟨by decide, by decide⟩))) (cwV 1 hts gX10_oneYear_X2_next rfl rfl rfl (by decide +kernel) ⟨Nat.le_of_ble_eq_true rfl, Nat.le_of_ble_eq_true rfl⟩) (th_PV hK hH rfl hc_40) rfl rfl hl.1 rfl (lv_room (Nat.le_of_ble_eq_true rfl)) dX10_oneYear_18 ⟨Nat.le_of_ble_eq_true rfl, Nat.le_of_ble_eq_true rfl⟩) hS (fun z_43 σ_s_42 H locs rz_43 hw_41 hH hS => ?_)
    obtain ⟨hO9, hF9, hw_41⟩ := hw_41
    replace hO := hO9
    replace hF := hF.ex hX hF9 (by decide)
    refine lv_istore_n (lv' := [(2, .int (I z_43)), (1, .int (I z_5)), (0, .ref a)]) hx hb dX10_oneYear_21 rfl hl (by decide) rfl (fun ls hl => ?_)
    refine lv_aload_n hx hb dX10_oneYear_22 rfl (lv_at hl 2 rfl) ?_
    refine lv_iload_n hx hb dX10_oneYear_23 rfl (lv_at hl 0 rfl) ?_
    refine lv_aload_n hx hb dX10_oneYear_24 rfl (lv_at hl 2 rfl) ?_
    refine ok.getR hO h_a (by decide) k12_17 (by decide) (fun _ _ he hv kk => th_get (ci := 10) (C := RX10) (T := TX10) (N := 18) hx hb hts inX10 hown hK hH he rfl 17 (by decide) fl0 hv dX10_oneYear_25 kk) ?_
    refine lv_bipush (v := I 21) hx hb dX10_oneYear_28 (by decide) ?_
    obtain ⟨_, hc_44⟩ := hO.cell hp_1 (by decide) (ci := 2) rfl
    refine th_calli (va_runV (As := [.int (I 21)]) (rest := [.int (I z_43), .ref a]) ⟨hx, hb, hml, hown, hts⟩ (d_next l G y b0 σ_s_42 E hO (ad E a 17) hp_1 21 (show rng 21 from (show rng 21 from ⟨by decide, by decide⟩))) (cwV 1 hts gX10_oneYear_X2_next rfl rfl rfl (by decide +kernel) ⟨Nat.le_of_ble_eq_true rfl, Nat.le_of_ble_eq_true rfl⟩) (th_PV hK hH rfl hc_44) rfl rfl hl.1 rfl (lv_room (Nat.le_of_ble_eq_true rfl)) dX10_oneYear_30 ⟨Nat.le_of_ble_eq_true rfl, Nat.le_of_ble_eq_true rfl⟩) hS (fun z_47 σ_s_46 H locs rz_47 hw_45 hH hS => ?_)
    obtain ⟨hO9, hF9, hw_45⟩ := hw_45
    replace hO := hO9
    replace hF := hF.ex hX hF9 (by decide)
    refine lv_bipush (v := I 10) hx hb dX10_oneYear_33 (by decide) ?_
    refine lv_isub hx hb dX10_oneYear_35 ?_
    refine th_subo (fun z_48 rz_48 hz_48 => ?_)
    obtain ⟨_, hc_49⟩ := hO.cell h_a (by decide) (ci := 10) rfl
    refine th_calli (va_runV (As := [.int (I z_43), .int (I z_48)]) (rest := []) ⟨hx, hb, hml, hown, hts⟩ (q_adding l G y b0 σ_s_46 E hO a h_a z_43 (show rng z_43 from rz_43) z_48 (show rng z_48 from rz_48)) (cwV 2 hts gX10_oneYear_X10_adding rfl rfl rfl (by decide +kernel) ⟨Nat.le_of_ble_eq_true rfl, Nat.le_of_ble_eq_true rfl⟩) (th_PV hK hH rfl hc_49) rfl rfl hl.1 rfl (lv_room (Nat.le_of_ble_eq_true rfl)) dX10_oneYear_36 ⟨Nat.le_of_ble_eq_true rfl, Nat.le_of_ble_eq_true rfl⟩) hS (fun z_52 σ_s_51 H locs rz_52 hw_50 hH hS => ?_)
    obtain ⟨E_53, hX9, hO9, hF9, hw_50⟩ := hw_50
    replace hO := hO9
    replace hF := hF.ex hX hF9 (by decide)
    replace hX := hX.tr hX9
    have hp_54 : kd E_53 a = 12 := hX9.kd2 h_a (by decide)
    exact th_iret hx hb hr hlocks hH hS (z := z_52) rz_52 ⟨E_53, hX, hO, hF, trivial⟩ dX10_oneYear_39

set_option maxHeartbeats 1000000 in
set_option maxRecDepth 100000 in
theorem q_add (l : Launch) (G : va_G) (y : Nat → ClassId) (b0 : Nat) (σ : th_M) (E : th_E) (hO : ok y E σ) (a : Nat) (h_a : kd E a = 12) (i : Int) (ri : rng i) (v : Int) (rv : rng v) : Met l yX10_add wsX10_add ({ frames := 6, cells := 5, slots := 245, locals := 193 }) (th_P G y b0 σ [.ref a, .int (I i), .int (I v)]) (th_Qi G b0 (fun r σ1 => ∃ E1, ext E E1 ∧ ok y E1 σ1 ∧ fr [1, 2, 5, 6] E σ σ1 ∧ (True))) 5 245 (th_A b0) := by
  refine Met.ofW (cc := cX10_add) (maxL := 3) (ret := (some .int)) (by decide) rfl ?_
  intro p e s m args below meth c s₁ B hml hv
  obtain ⟨rfl, hH, hK⟩ := hv
  have hx := B.exec
  have hb := B.bytes
  have hr := B.returns
  have hts := atoms_spec (ws := wsX10_add) B.pre
  have hown : s.vm.findClass RX10 = some m.cls := findClass_of_methodNamed B.named
  have hlocks := B.notSynchronized
  have h00 : b0 ≤ s.heap.size := hH.1
  have hS : va_S (th_A b0) s.heap s.heap [] := va_S.rf
  have hF : fr [1, 2, 5, 6] E σ σ := fr.rf
  have hX : ext E E := ext.rf
  have hl := lv_entry ([.ref a, .int (I i), .int (I v)]) (n := 3) (Nat.le_of_ble_eq_true rfl)
  rw [lg_entry_eq]
  generalize (lg_sl ([.ref a, .int (I i), .int (I v)]) ++ List.replicate (3 - (lg_sl ([.ref a, .int (I i), .int (I v)])).length) Slot.unset).toArray = ls at hl ⊢
  have hl : lv_has ls 3 [(0, .ref a), (1, .int (I i)), (2, .int (I v))] := hl
  refine lv_aload_n hx hb dX10_add_0 rfl (lv_at hl 0 rfl) ?_
  refine lv_aload_n hx hb dX10_add_1 rfl (lv_at hl 0 rfl) ?_
  refine lv_iload_n hx hb dX10_add_2 rfl (lv_at hl 1 rfl) ?_
  refine lv_iload_n hx hb dX10_add_3 rfl (lv_at hl 2 rfl) ?_
  obtain ⟨_, hc_1⟩ := hO.cell h_a (by decide) (ci := 10) rfl
  refine th_calli (va_runV (As := [.int (I i), .int (I v)]) (rest := [.ref a]) ⟨hx, hb, hml, hown, hts⟩ (q_adding l G y b0 σ E hO a h_a i (show rng i from ri) v (show rng v from rv)) (cwV 2 hts gX10_add_X10_adding rfl rfl rfl (by decide +kernel) ⟨Nat.le_of_ble_eq_true rfl, Nat.le_of_ble_eq_true rfl⟩) (th_PV hK hH rfl hc_1) rfl rfl hl.1 rfl (lv_room (Nat.le_of_ble_eq_true rfl)) dX10_add_4 ⟨Nat.le_of_ble_eq_true rfl, Nat.le_of_ble_eq_true rfl⟩) hS (fun z_4 σ_s_3 H locs rz_4 hw_2 hH hS => ?_)
  obtain ⟨E_5, hX9, hO9, hF9, hw_2⟩ := hw_2
  replace hO := hO9
  replace hF := hF.ex hX hF9 (by decide)
  replace hX := hX.tr hX9
  have hp_6 : kd E_5 a = 12 := hX9.kd2 h_a (by decide)
  obtain ⟨_, hc_7⟩ := hO.cell hp_6 (by decide) (ci := 10) rfl
  refine th_calli (va_runV (As := [.int (I z_4)]) (rest := []) ⟨hx, hb, hml, hown, hts⟩ (q_actDone l G y b0 σ_s_3 E_5 hO a hp_6 z_4 (show rng z_4 from rz_4)) (cwV 1 hts gX10_add_X10_actDone rfl rfl rfl (by decide +kernel) ⟨Nat.le_of_ble_eq_true rfl, Nat.le_of_ble_eq_true rfl⟩) (th_PV hK hH rfl hc_7) rfl rfl hl.1 rfl (lv_room (Nat.le_of_ble_eq_true rfl)) dX10_add_7 ⟨Nat.le_of_ble_eq_true rfl, Nat.le_of_ble_eq_true rfl⟩) hS (fun z_10 σ_s_9 H locs rz_10 hw_8 hH hS => ?_)
  obtain ⟨hO9, hF9, hw_8⟩ := hw_8
  replace hO := hO9
  replace hF := hF.ex hX hF9 (by decide)
  exact th_iret hx hb hr hlocks hH hS (z := z_10) rz_10 ⟨E_5, hX, hO, hF, trivial⟩ dX10_add_10

set_option maxHeartbeats 1000000 in
set_option maxRecDepth 100000 in
theorem q_change (l : Launch) (G : va_G) (y : Nat → ClassId) (b0 : Nat) (σ : th_M) (E : th_E) (hO : ok y E σ) (a : Nat) (h_a : kd E a = 12) (i : Int) (ri : rng i) (v : Int) (rv : rng v) : Met l yX10_change wsX10_change ({ frames := 6, cells := 5, slots := 245, locals := 210 }) (th_P G y b0 σ [.ref a, .int (I i), .int (I v)]) (th_Qi G b0 (fun r σ1 => ∃ E1, ext E E1 ∧ ok y E1 σ1 ∧ fr [1, 2, 5, 6] E σ σ1 ∧ (True))) 5 245 (th_A b0) := by
  refine Met.ofW (cc := cX10_change) (maxL := 3) (ret := (some .int)) (by decide) rfl ?_
  intro p e s m args below meth c s₁ B hml hv
  obtain ⟨rfl, hH, hK⟩ := hv
  have hx := B.exec
  have hb := B.bytes
  have hr := B.returns
  have hts := atoms_spec (ws := wsX10_change) B.pre
  have hown : s.vm.findClass RX10 = some m.cls := findClass_of_methodNamed B.named
  have hlocks := B.notSynchronized
  have h00 : b0 ≤ s.heap.size := hH.1
  have hS : va_S (th_A b0) s.heap s.heap [] := va_S.rf
  have hF : fr [1, 2, 5, 6] E σ σ := fr.rf
  have hX : ext E E := ext.rf
  have hl := lv_entry ([.ref a, .int (I i), .int (I v)]) (n := 3) (Nat.le_of_ble_eq_true rfl)
  rw [lg_entry_eq]
  generalize (lg_sl ([.ref a, .int (I i), .int (I v)]) ++ List.replicate (3 - (lg_sl ([.ref a, .int (I i), .int (I v)])).length) Slot.unset).toArray = ls at hl ⊢
  have hl : lv_has ls 3 [(0, .ref a), (1, .int (I i)), (2, .int (I v))] := hl
  refine lv_aload_n hx hb dX10_change_0 rfl (lv_at hl 0 rfl) ?_
  refine lv_aload_n hx hb dX10_change_1 rfl (lv_at hl 0 rfl) ?_
  refine lv_iload_n hx hb dX10_change_2 rfl (lv_at hl 1 rfl) ?_
  refine lv_iload_n hx hb dX10_change_3 rfl (lv_at hl 2 rfl) ?_
  obtain ⟨_, hc_1⟩ := hO.cell h_a (by decide) (ci := 10) rfl
  refine th_calli (va_runV (As := [.int (I i), .int (I v)]) (rest := [.ref a]) ⟨hx, hb, hml, hown, hts⟩ (q_changing l G y b0 σ E hO a h_a i (show rng i from ri) v (show rng v from rv)) (cwV 2 hts gX10_change_X10_changing rfl rfl rfl (by decide +kernel) ⟨Nat.le_of_ble_eq_true rfl, Nat.le_of_ble_eq_true rfl⟩) (th_PV hK hH rfl hc_1) rfl rfl hl.1 rfl (lv_room (Nat.le_of_ble_eq_true rfl)) dX10_change_4 ⟨Nat.le_of_ble_eq_true rfl, Nat.le_of_ble_eq_true rfl⟩) hS (fun z_4 σ_s_3 H locs rz_4 hw_2 hH hS => ?_)
  obtain ⟨E_5, hX9, hO9, hF9, hw_2⟩ := hw_2
  replace hO := hO9
  replace hF := hF.ex hX hF9 (by decide)
  replace hX := hX.tr hX9
  have hp_6 : kd E_5 a = 12 := hX9.kd2 h_a (by decide)
  obtain ⟨_, hc_7⟩ := hO.cell hp_6 (by decide) (ci := 10) rfl
  refine th_calli (va_runV (As := [.int (I z_4)]) (rest := []) ⟨hx, hb, hml, hown, hts⟩ (q_actDone l G y b0 σ_s_3 E_5 hO a hp_6 z_4 (show rng z_4 from rz_4)) (cwV 1 hts gX10_change_X10_actDone rfl rfl rfl (by decide +kernel) ⟨Nat.le_of_ble_eq_true rfl, Nat.le_of_ble_eq_true rfl⟩) (th_PV hK hH rfl hc_7) rfl rfl hl.1 rfl (lv_room (Nat.le_of_ble_eq_true rfl)) dX10_change_7 ⟨Nat.le_of_ble_eq_true rfl, Nat.le_of_ble_eq_true rfl⟩) hS (fun z_10 σ_s_9 H locs rz_10 hw_8 hH hS => ?_)
  obtain ⟨hO9, hF9, hw_8⟩ := hw_8
  replace hO := hO9
  replace hF := hF.ex hX hF9 (by decide)
  exact th_iret hx hb hr hlocks hH hS (z := z_10) rz_10 ⟨E_5, hX, hO, hF, trivial⟩ dX10_change_10

set_option maxHeartbeats 1000000 in
set_option maxRecDepth 100000 in
theorem q_move (l : Launch) (G : va_G) (y : Nat → ClassId) (b0 : Nat) (σ : th_M) (E : th_E) (hO : ok y E σ) (a : Nat) (h_a : kd E a = 12) (i : Int) (ri : rng i) (j : Int) (rj : rng j) (ky : Int) (rky : rng ky) : Met l yX10_move wsX10_move ({ frames := 5, cells := 5, slots := 245, locals := 179 }) (th_P G y b0 σ [.ref a, .int (I i), .int (I j), .int (I ky)]) (th_Qi G b0 (fun r σ1 => ∃ E1, ext E E1 ∧ ok y E1 σ1 ∧ fr [1, 2, 5, 6] E σ σ1 ∧ (True))) 5 245 (th_A b0) := by
  refine Met.ofW (cc := cX10_move) (maxL := 4) (ret := (some .int)) (by decide) rfl ?_
  intro p e s m args below meth c s₁ B hml hv
  obtain ⟨rfl, hH, hK⟩ := hv
  have hx := B.exec
  have hb := B.bytes
  have hr := B.returns
  have hts := atoms_spec (ws := wsX10_move) B.pre
  have hown : s.vm.findClass RX10 = some m.cls := findClass_of_methodNamed B.named
  have hlocks := B.notSynchronized
  have h00 : b0 ≤ s.heap.size := hH.1
  have hS : va_S (th_A b0) s.heap s.heap [] := va_S.rf
  have hF : fr [1, 2, 5, 6] E σ σ := fr.rf
  have hX : ext E E := ext.rf
  have inX10 : ∀ w ∈ wsX100, w ∈ wsX10_move := by decide +kernel
  have fl0 := hts (.fieldLink RX10 75 "NestQuery" "acts" "LNestQuery$Acts;") (by decide +kernel)
  have hl := lv_entry ([.ref a, .int (I i), .int (I j), .int (I ky)]) (n := 4) (Nat.le_of_ble_eq_true rfl)
  rw [lg_entry_eq]
  generalize (lg_sl ([.ref a, .int (I i), .int (I j), .int (I ky)]) ++ List.replicate (4 - (lg_sl ([.ref a, .int (I i), .int (I j), .int (I ky)])).length) Slot.unset).toArray = ls at hl ⊢
  have hl : lv_has ls 4 [(0, .ref a), (1, .int (I i)), (2, .int (I j)), (3, .int (I ky))] := hl
  refine lv_aload_n hx hb dX10_move_0 rfl (lv_at hl 0 rfl) ?_
  refine lv_aload_n hx hb dX10_move_1 rfl (lv_at hl 0 rfl) ?_
  have hp_1 : kd E (ad E a 12) = 6 := ok.pk hO h_a (by decide) k12_12 rfl
  refine ok.getR hO h_a (by decide) k12_12 (by decide) (fun _ _ he hv kk => th_get (ci := 10) (C := RX10) (T := TX10) (N := 18) hx hb hts inX10 hown hK hH he rfl 12 (by decide) fl0 hv dX10_move_2 kk) ?_
  refine lv_iload_n hx hb dX10_move_5 rfl (lv_at hl 1 rfl) ?_
  refine lv_iload_n hx hb dX10_move_6 rfl (lv_at hl 2 rfl) ?_
  refine lv_iload_n hx hb dX10_move_7 rfl (lv_at hl 3 rfl) ?_
  obtain ⟨_, hc_2⟩ := hO.cell hp_1 (by decide) (ci := 0) rfl
  refine th_calli (va_runV (As := [.int (I i), .int (I j), .int (I ky)]) (rest := [.ref a]) ⟨hx, hb, hml, hown, hts⟩ (c_moveThing l G y b0 σ E hO (ad E a 12) hp_1 i (show rng i from ri) j (show rng j from rj) ky (show rng ky from rky)) (cwV 3 hts gX10_move_X0_moveThing rfl rfl rfl (by decide +kernel) ⟨Nat.le_of_ble_eq_true rfl, Nat.le_of_ble_eq_true rfl⟩) (th_PV hK hH rfl hc_2) rfl rfl hl.1 rfl (lv_room (Nat.le_of_ble_eq_true rfl)) dX10_move_8 ⟨Nat.le_of_ble_eq_true rfl, Nat.le_of_ble_eq_true rfl⟩) hS (fun z_5 σ_s_4 H locs rz_5 hw_3 hH hS => ?_)
  obtain ⟨E_6, hX9, hO9, hF9, hw_3⟩ := hw_3
  replace hO := hO9
  replace hF := hF.ex hX hF9 (by decide)
  replace hX := hX.tr hX9
  have hp_7 : kd E_6 a = 12 := hX9.kd2 h_a (by decide)
  obtain ⟨_, hc_8⟩ := hO.cell hp_7 (by decide) (ci := 10) rfl
  refine th_calli (va_runV (As := [.int (I z_5)]) (rest := []) ⟨hx, hb, hml, hown, hts⟩ (q_actDone l G y b0 σ_s_4 E_6 hO a hp_7 z_5 (show rng z_5 from rz_5)) (cwV 1 hts gX10_move_X10_actDone rfl rfl rfl (by decide +kernel) ⟨Nat.le_of_ble_eq_true rfl, Nat.le_of_ble_eq_true rfl⟩) (th_PV hK hH rfl hc_8) rfl rfl hl.1 rfl (lv_room (Nat.le_of_ble_eq_true rfl)) dX10_move_11 ⟨Nat.le_of_ble_eq_true rfl, Nat.le_of_ble_eq_true rfl⟩) hS (fun z_11 σ_s_10 H locs rz_11 hw_9 hH hS => ?_)
  obtain ⟨hO9, hF9, hw_9⟩ := hw_9
  replace hO := hO9
  replace hF := hF.ex hX hF9 (by decide)
  exact th_iret hx hb hr hlocks hH hS (z := z_11) rz_11 ⟨E_6, hX, hO, hF, trivial⟩ dX10_move_14

set_option maxHeartbeats 1000000 in
set_option maxRecDepth 100000 in
theorem q_apply (l : Launch) (G : va_G) (y : Nat → ClassId) (b0 : Nat) (σ : th_M) (E : th_E) (hO : ok y E σ) (a : Nat) (h_a : kd E a = 12) (w : Int) (rw : rng w) (l_w : 0 ≤ w) (u_w : w ≤ 1) : Met l yX10_apply wsX10_apply ({ frames := 64, cells := 5, slots := 245, locals := 1397 }) (th_P G y b0 σ [.ref a, .int (I w)]) (th_Qi G b0 (fun r σ1 => ∃ E1, ext E E1 ∧ ok y E1 σ1 ∧ fr [1, 2, 5, 6] E σ σ1 ∧ (True))) 5 245 (th_A b0) := by
  refine Met.ofW (cc := cX10_apply) (maxL := 2) (ret := (some .int)) (by decide) rfl ?_
  intro p e s m args below meth c s₁ B hml hv
  obtain ⟨rfl, hH, hK⟩ := hv
  have hx := B.exec
  have hb := B.bytes
  have hr := B.returns
  have hts := atoms_spec (ws := wsX10_apply) B.pre
  have hown : s.vm.findClass RX10 = some m.cls := findClass_of_methodNamed B.named
  have hlocks := B.notSynchronized
  have h00 : b0 ≤ s.heap.size := hH.1
  have hS : va_S (th_A b0) s.heap s.heap [] := va_S.rf
  have hF : fr [1, 2, 5, 6] E σ σ := fr.rf
  have hX : ext E E := ext.rf
  have inX10 : ∀ w ∈ wsX100, w ∈ wsX10_apply := by decide +kernel
  have fl0 := hts (.fieldLink RX10 75 "NestQuery" "acts" "LNestQuery$Acts;") (by decide +kernel)
  have fl1 := hts (.fieldLink RX10 82 "NestQuery" "kept" "LNestQuery$Patch;") (by decide +kernel)
  have hl := lv_entry ([.ref a, .int (I w)]) (n := 2) (Nat.le_of_ble_eq_true rfl)
  rw [lg_entry_eq]
  generalize (lg_sl ([.ref a, .int (I w)]) ++ List.replicate (2 - (lg_sl ([.ref a, .int (I w)])).length) Slot.unset).toArray = ls at hl ⊢
  have hl : lv_has ls 2 [(0, .ref a), (1, .int (I w))] := hl
  refine lv_aload_n hx hb dX10_apply_0 rfl (lv_at hl 0 rfl) ?_
  refine lv_aload_n hx hb dX10_apply_1 rfl (lv_at hl 0 rfl) ?_
  have hp_1 : kd E (ad E a 12) = 6 := ok.pk hO h_a (by decide) k12_12 rfl
  refine ok.getR hO h_a (by decide) k12_12 (by decide) (fun _ _ he hv kk => th_get (ci := 10) (C := RX10) (T := TX10) (N := 18) hx hb hts inX10 hown hK hH he rfl 12 (by decide) fl0 hv dX10_apply_2 kk) ?_
  refine lv_aload_n hx hb dX10_apply_5 rfl (lv_at hl 0 rfl) ?_
  have hp_2 : kd E (ad E a 13) = 7 := ok.pk hO h_a (by decide) k12_13 rfl
  refine ok.getR hO h_a (by decide) k12_13 (by decide) (fun _ _ he hv kk => th_get (ci := 10) (C := RX10) (T := TX10) (N := 18) hx hb hts inX10 hown hK hH he rfl 13 (by decide) fl1 hv dX10_apply_6 kk) ?_
  refine lv_iload_n hx hb dX10_apply_9 rfl (lv_at hl 1 rfl) ?_
  obtain ⟨_, hc_3⟩ := hO.cell hp_1 (by decide) (ci := 0) rfl
  refine th_calli (va_runV (As := [.ref (ad E a 13), .int (I w)]) (rest := [.ref a]) ⟨hx, hb, hml, hown, hts⟩ (c_layOn l G y b0 σ E hO (ad E a 12) hp_1 (ad E a 13) hp_2 w (show rng w from rw) (by omega) (by omega)) (cwV 2 hts gX10_apply_X0_layOn rfl rfl rfl (by decide +kernel) ⟨Nat.le_of_ble_eq_true rfl, Nat.le_of_ble_eq_true rfl⟩) (th_PV hK hH rfl hc_3) rfl rfl hl.1 rfl (lv_room (Nat.le_of_ble_eq_true rfl)) dX10_apply_10 ⟨Nat.le_of_ble_eq_true rfl, Nat.le_of_ble_eq_true rfl⟩) hS (fun z_6 σ_s_5 H locs rz_6 hw_4 hH hS => ?_)
  obtain ⟨E_7, hX9, hO9, hF9, hw_4⟩ := hw_4
  replace hO := hO9
  replace hF := hF.ex hX hF9 (by decide)
  replace hX := hX.tr hX9
  have hp_8 : kd E_7 a = 12 := hX9.kd2 h_a (by decide)
  obtain ⟨_, hc_9⟩ := hO.cell hp_8 (by decide) (ci := 10) rfl
  refine th_calli (va_runV (As := [.int (I z_6)]) (rest := []) ⟨hx, hb, hml, hown, hts⟩ (q_actDone l G y b0 σ_s_5 E_7 hO a hp_8 z_6 (show rng z_6 from rz_6)) (cwV 1 hts gX10_apply_X10_actDone rfl rfl rfl (by decide +kernel) ⟨Nat.le_of_ble_eq_true rfl, Nat.le_of_ble_eq_true rfl⟩) (th_PV hK hH rfl hc_9) rfl rfl hl.1 rfl (lv_room (Nat.le_of_ble_eq_true rfl)) dX10_apply_13 ⟨Nat.le_of_ble_eq_true rfl, Nat.le_of_ble_eq_true rfl⟩) hS (fun z_12 σ_s_11 H locs rz_12 hw_10 hH hS => ?_)
  obtain ⟨hO9, hF9, hw_10⟩ := hw_10
  replace hO := hO9
  replace hF := hF.ex hX hF9 (by decide)
  exact th_iret hx hb hr hlocks hH hS (z := z_12) rz_12 ⟨E_7, hX, hO, hF, trivial⟩ dX10_apply_16

set_option maxHeartbeats 1000000 in
set_option maxRecDepth 100000 in
theorem q_image (l : Launch) (G : va_G) (y : Nat → ClassId) (b0 : Nat) (σ : th_M) (E : th_E) (hO : ok y E σ) (a : Nat) (h_a : kd E a = 12) : Met l yX10_image wsX10_image ({ frames := 4, cells := 200, slots := 9800, locals := 139 }) (th_P G y b0 σ [.ref a]) (th_Qv G b0 (fun σ1 => ∃ E1, ext E E1 ∧ ok y E1 σ1 ∧ fr [1, 5, 12] E σ σ1 ∧ ((gI σ1 a 2 = gI σ a 2 ∧ gI σ1 a 1 = gI σ a 1) ∧ aF σ1 (ad E a 0) = aF σ (ad E a 0) ∧ aQ σ1 (ad E a 3) = aQ σ (ad E a 3)))) 200 9800 (th_A b0) := by
  refine Met.ofW (cc := cX10_image) (maxL := 1) (ret := none) (by decide) rfl ?_
  intro p e s m args below meth c s₁ B hml hv
  obtain ⟨rfl, hH, hK⟩ := hv
  have hx := B.exec
  have hb := B.bytes
  have hr := B.returns
  have hts := atoms_spec (ws := wsX10_image) B.pre
  have hown : s.vm.findClass RX10 = some m.cls := findClass_of_methodNamed B.named
  have hlocks := B.notSynchronized
  have h00 : b0 ≤ s.heap.size := hH.1
  have hS : va_S (th_A b0) s.heap s.heap [] := va_S.rf
  have hF : fr [1, 5, 12] E σ σ := fr.rf
  have hX : ext E E := ext.rf
  have inX10 : ∀ w ∈ wsX100, w ∈ wsX10_image := by decide +kernel
  have fl0 := hts (.fieldLink RX10 67 "NestQuery" "imaged" "LNestQuery$State;") (by decide +kernel)
  have fl1 := hts (.fieldLink RX10 63 "NestQuery" "now" "LNestQuery$State;") (by decide +kernel)
  have fl2 := hts (.fieldLink RX10 145 "NestQuery" "imageThere" "Z") (by decide +kernel)
  have hl := lv_entry ([.ref a]) (n := 1) (Nat.le_of_ble_eq_true rfl)
  rw [lg_entry_eq]
  generalize (lg_sl ([.ref a]) ++ List.replicate (1 - (lg_sl ([.ref a])).length) Slot.unset).toArray = ls at hl ⊢
  have hl : lv_has ls 1 [(0, .ref a)] := hl
  obtain ⟨a10, ea10, ra10, la10, ua10⟩ := hO.gi h_a (by decide) k12_1
  obtain ⟨a20, ea20, ra20, la20, ua20⟩ := hO.gi h_a (by decide) k12_2
  obtain ⟨f_1, ef_2⟩ : ∃ f9, aF σ (ad E a 0) = f9 := ⟨_, rfl⟩
  have h0row := ef_2
  obtain ⟨f_3, eq_4⟩ : ∃ f9, aQ σ (ad E a 3) = f9 := ⟨_, rfl⟩
  have h0q := eq_4
  refine lv_aload_n hx hb dX10_image_0 rfl (lv_at hl 0 rfl) ?_
  have hp_5 : kd E (ad E a 10) = 5 := ok.pk hO h_a (by decide) k12_10 rfl
  refine ok.getR hO h_a (by decide) k12_10 (by decide) (fun _ _ he hv kk => th_get (ci := 10) (C := RX10) (T := TX10) (N := 18) hx hb hts inX10 hown hK hH he rfl 10 (by decide) fl0 hv dX10_image_1 kk) ?_
  refine lv_aload_n hx hb dX10_image_4 rfl (lv_at hl 0 rfl) ?_
  have hp_6 : kd E (ad E a 9) = 5 := ok.pk hO h_a (by decide) k12_9 rfl
  refine ok.getR hO h_a (by decide) k12_9 (by decide) (fun _ _ he hv kk => th_get (ci := 10) (C := RX10) (T := TX10) (N := 18) hx hb hts inX10 hown hK hH he rfl 9 (by decide) fl1 hv dX10_image_5 kk) ?_
  obtain ⟨_, hc_7⟩ := hO.cell hp_5 (by decide) (ci := 6) rfl
  refine th_callv (va_runV (As := [.ref (ad E a 9)]) (rest := []) ⟨hx, hb, hml, hown, hts⟩ (e_takeAll l G y b0 σ E hO (ad E a 10) hp_5 (ad E a 9) hp_6) (cwV 1 hts gX10_image_X6_takeAll rfl rfl rfl (by decide +kernel) ⟨Nat.le_of_ble_eq_true rfl, Nat.le_of_ble_eq_true rfl⟩) (th_PV hK hH rfl hc_7) rfl rfl hl.1 rfl (lv_room (Nat.le_of_ble_eq_true rfl)) dX10_image_8 ⟨Nat.le_of_ble_eq_true rfl, Nat.le_of_ble_eq_true rfl⟩) hS (fun σ_s_9 H locs hw_8 hH hS => ?_)
  obtain ⟨E_10, hX9, hO9, hF9, hw_8⟩ := hw_8
  have e_11 : gI σ_s_9 a 1 = a10 := (fr.ki hO hF9 h_a (by decide) (by decide) _).trans ea10
  have e_12 : gI σ_s_9 a 2 = a20 := (fr.ki hO hF9 h_a (by decide) (by decide) _).trans ea20
  have ef_13 : aF σ_s_9 (ad E a 0) = f_1 := (fr.af hO hF9 h_a (by decide) (by decide) k12_0 isA1).trans ef_2
  have eq_14 : aQ σ_s_9 (ad E a 3) = f_3 := (fr.aq hO hF9 h_a (by decide) (by decide) k12_3).trans eq_4
  replace hO := hO9
  replace hF := hF.ex hX hF9 (by decide)
  replace hX := hX.tr hX9
  have hp_15 : kd E_10 a = 12 := hX9.kd2 h_a (by decide)
  have ef_16 : aF σ_s_9 (ad E_10 a 0) = f_1 := by rw [hX9.ad2 h_a (by decide) 0]; exact ef_13
  have ef_17 : aQ σ_s_9 (ad E_10 a 3) = f_3 := by rw [hX9.ad2 h_a (by decide) 3]; exact eq_14
  refine lv_aload_n hx hb dX10_image_11 rfl (lv_at hl 0 rfl) ?_
  refine lv_iconst (v := I 1) hx hb dX10_image_12 (by decide) ?_
  refine ok.putIw hO hp_15 (by decide) k12_11 (show rng 1 from ⟨by decide, by decide⟩) (by omega) (by omega) (fun _ he hl9 kk => th_put (ci := 10) (v := .int (I 1)) (ty := .boolean) (C := RX10) (T := TX10) (N := 18) hx hb hts inX10 tyX10 tyX10_ok nmX10 hown hK hH hS h00 he rfl 11 (by decide) fl2 rfl (by decide +kernel) (nar_z (by omega)) rfl hl9 dX10_image_13 kk) (fun σ_s_18 H locs hO hF9 hg9 hi9 ha9 hu9 hH hS => ?_)
  replace hF := hF.ex hX hF9 (by decide)
  have e_19 : gI σ_s_18 a 1 = a10 := (hi9 _ _ (Or.inr (by decide))).trans e_11
  have e_20 : gI σ_s_18 a 2 = a20 := (hi9 _ _ (Or.inr (by decide))).trans e_12
  have ef_21 : aF σ_s_18 (ad E_10 a 0) = f_1 := (ha9 _).trans ef_16
  have eq_22 : aQ σ_s_18 (ad E_10 a 3) = f_3 := (hu9.q (ok.qo hO hp_15 (by decide) k12_3 (by decide))).trans ef_17
  have e_23 := hg9
  exact th_vret hx hb hr hlocks hH hS ⟨E_10, hX, hO, hF, ⟨by omega, ((congrArg (aF σ_s_18) (hX.ad2 h_a (by decide) 0)).symm.trans (ef_21.trans h0row.symm)), ((congrArg (aQ σ_s_18) (hX.ad2 h_a (by decide) 3)).symm.trans (eq_22.trans h0q.symm))⟩⟩ dX10_image_16

set_option maxHeartbeats 1000000 in
set_option maxRecDepth 100000 in
theorem q_restore (l : Launch) (G : va_G) (y : Nat → ClassId) (b0 : Nat) (σ : th_M) (E : th_E) (hO : ok y E σ) (a : Nat) (h_a : kd E a = 12) : Met l yX10_restore wsX10_restore ({ frames := 4, cells := 200, slots := 9800, locals := 139 }) (th_P G y b0 σ [.ref a]) (th_Qi G b0 (fun r σ1 => ∃ E1, ext E E1 ∧ ok y E1 σ1 ∧ fr [1, 5] E σ σ1 ∧ (0 ≤ r ∧ r ≤ 1) ∧ (True))) 200 9800 (th_A b0) := by
  refine Met.ofW (cc := cX10_restore) (maxL := 1) (ret := (some .boolean)) (by decide) rfl ?_
  intro p e s m args below meth c s₁ B hml hv
  obtain ⟨rfl, hH, hK⟩ := hv
  have hx := B.exec
  have hb := B.bytes
  have hr := B.returns
  have hts := atoms_spec (ws := wsX10_restore) B.pre
  have hown : s.vm.findClass RX10 = some m.cls := findClass_of_methodNamed B.named
  have hlocks := B.notSynchronized
  have h00 : b0 ≤ s.heap.size := hH.1
  have hS : va_S (th_A b0) s.heap s.heap [] := va_S.rf
  have hF : fr [1, 5] E σ σ := fr.rf
  have hX : ext E E := ext.rf
  have inX10 : ∀ w ∈ wsX100, w ∈ wsX10_restore := by decide +kernel
  have fl0 := hts (.fieldLink RX10 145 "NestQuery" "imageThere" "Z") (by decide +kernel)
  have fl1 := hts (.fieldLink RX10 63 "NestQuery" "now" "LNestQuery$State;") (by decide +kernel)
  have fl2 := hts (.fieldLink RX10 67 "NestQuery" "imaged" "LNestQuery$State;") (by decide +kernel)
  have hl := lv_entry ([.ref a]) (n := 1) (Nat.le_of_ble_eq_true rfl)
  rw [lg_entry_eq]
  generalize (lg_sl ([.ref a]) ++ List.replicate (1 - (lg_sl ([.ref a])).length) Slot.unset).toArray = ls at hl ⊢
  have hl : lv_has ls 1 [(0, .ref a)] := hl
  refine lv_aload_n hx hb dX10_restore_0 rfl (lv_at hl 0 rfl) ?_
  refine ok.getI hO h_a (by decide) k12_11 (fun _ _ he hv kk => th_get (ci := 10) (C := RX10) (T := TX10) (N := 18) hx hb hts inX10 hown hK hH he rfl 11 (by decide) fl0 hv dX10_restore_1 kk) (fun z_1 e_2 rz_1 lz_1 uz_1 => ?_)
  refine lv_if_eq (tgt := 18) hx hb dX10_restore_4 (by decide) (fun c_3 => ?_) (fun c_3 => ?_)
  · replace c_3 := (I_eq (a := z_1) (b := 0) rz_1 (show rng 0 from ⟨by decide, by decide⟩)).mp c_3
    refine lv_aload_n hx hb dX10_restore_18 rfl (lv_at hl 0 rfl) ?_
    refine ok.getIc hO h_a (by decide) k12_11 e_2 (fun _ _ he hv kk => th_get (ci := 10) (C := RX10) (T := TX10) (N := 18) hx hb hts inX10 hown hK hH he rfl 11 (by decide) fl0 hv dX10_restore_19 kk) ?_
    refine W.widen (k := 200) (n := 9800) (Nat.le_of_ble_eq_true rfl) (Nat.le_of_ble_eq_true rfl) ?_
    exact th_zret hx hb hr hlocks hH hS (z := z_1) (by omega) ⟨E, hX, hO, hF, ⟨by omega, by omega⟩, trivial⟩ dX10_restore_22
  · replace c_3 := mt (I_eq (a := z_1) (b := 0) rz_1 (show rng 0 from ⟨by decide, by decide⟩)).mpr c_3
    refine lv_aload_n hx hb dX10_restore_7 rfl (lv_at hl 0 rfl) ?_
    have hp_4 : kd E (ad E a 9) = 5 := ok.pk hO h_a (by decide) k12_9 rfl
    refine ok.getR hO h_a (by decide) k12_9 (by decide) (fun _ _ he hv kk => th_get (ci := 10) (C := RX10) (T := TX10) (N := 18) hx hb hts inX10 hown hK hH he rfl 9 (by decide) fl1 hv dX10_restore_8 kk) ?_
    refine lv_aload_n hx hb dX10_restore_11 rfl (lv_at hl 0 rfl) ?_
    have hp_5 : kd E (ad E a 10) = 5 := ok.pk hO h_a (by decide) k12_10 rfl
    refine ok.getR hO h_a (by decide) k12_10 (by decide) (fun _ _ he hv kk => th_get (ci := 10) (C := RX10) (T := TX10) (N := 18) hx hb hts inX10 hown hK hH he rfl 10 (by decide) fl2 hv dX10_restore_12 kk) ?_
    obtain ⟨_, hc_6⟩ := hO.cell hp_4 (by decide) (ci := 6) rfl
    refine th_callv (va_runV (As := [.ref (ad E a 10)]) (rest := []) ⟨hx, hb, hml, hown, hts⟩ (e_takeAll l G y b0 σ E hO (ad E a 9) hp_4 (ad E a 10) hp_5) (cwV 1 hts gX10_restore_X6_takeAll rfl rfl rfl (by decide +kernel) ⟨Nat.le_of_ble_eq_true rfl, Nat.le_of_ble_eq_true rfl⟩) (th_PV hK hH rfl hc_6) rfl rfl hl.1 rfl (lv_room (Nat.le_of_ble_eq_true rfl)) dX10_restore_15 ⟨Nat.le_of_ble_eq_true rfl, Nat.le_of_ble_eq_true rfl⟩) hS (fun σ_s_8 H locs hw_7 hH hS => ?_)
    obtain ⟨E_9, hX9, hO9, hF9, hw_7⟩ := hw_7
    have e_10 : gI σ_s_8 a 11 = z_1 := (fr.ki hO hF9 h_a (by decide) (by decide) _).trans e_2
    replace hO := hO9
    replace hF := hF.ex hX hF9 (by decide)
    replace hX := hX.tr hX9
    have hp_11 : kd E_9 a = 12 := hX9.kd2 h_a (by decide)
    refine lv_aload_n hx hb dX10_restore_18 rfl (lv_at hl 0 rfl) ?_
    refine ok.getIc hO hp_11 (by decide) k12_11 e_10 (fun _ _ he hv kk => th_get (ci := 10) (C := RX10) (T := TX10) (N := 18) hx hb hts inX10 hown hK hH he rfl 11 (by decide) fl0 hv dX10_restore_19 kk) ?_
    exact th_zret hx hb hr hlocks hH hS (z := z_1) (by omega) ⟨E_9, hX, hO, hF, ⟨by omega, by omega⟩, trivial⟩ dX10_restore_22
