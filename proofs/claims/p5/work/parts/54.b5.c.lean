set_option maxHeartbeats 1000000 in
set_option maxRecDepth 100000 in
theorem e_refuse (l : Launch) (G : va_G) (y : Nat → ClassId) (b0 : Nat) (σ : th_M) (E : th_E) (hO : ok y E σ) (a : Nat) (h_a : kd E a = 5) (i : Int) (ri : rng i) : Met l yX6_refuse wsX6_refuse ({ frames := 0, cells := 0, slots := 0, locals := 0 }) (th_P G y b0 σ [.ref a, .int (I i)]) (th_Qv G b0 (fun σ1 => ok y E σ1 ∧ fr [5] E σ σ1 ∧ (True))) 0 0 (th_A b0) := by
  refine Met.ofW (cc := cX6_refuse) (maxL := 2) (ret := none) (by decide) rfl ?_
  intro p e s m args below meth c s₁ B hml hv
  obtain ⟨rfl, hH, hK⟩ := hv
  have hx := B.exec
  have hb := B.bytes
  have hr := B.returns
  have hts := atoms_spec (ws := wsX6_refuse) B.pre
  have hown : s.vm.findClass RX6 = some m.cls := findClass_of_methodNamed B.named
  have hlocks := B.notSynchronized
  have h00 : b0 ≤ s.heap.size := hH.1
  have hS : va_S (th_A b0) s.heap s.heap [] := va_S.rf
  have hF : fr [5] E σ σ := fr.rf
  have inX6 : ∀ w ∈ wsX60, w ∈ wsX6_refuse := by decide +kernel
  have fl0 := hts (.fieldLink RX6 32 "NestQuery$State" "refused" "[I") (by decide +kernel)
  have hl := lv_entry ([.ref a, .int (I i)]) (n := 2) (Nat.le_of_ble_eq_true rfl)
  rw [lg_entry_eq]
  generalize (lg_sl ([.ref a, .int (I i)]) ++ List.replicate (2 - (lg_sl ([.ref a, .int (I i)])).length) Slot.unset).toArray = ls at hl ⊢
  have hl : lv_has ls 2 [(0, .ref a), (1, .int (I i))] := hl
  refine lv_iload_n hx hb dX6_refuse_0 rfl (lv_at hl 1 rfl) ?_
  refine lv_if_lt (tgt := 23) hx hb dX6_refuse_1 (by decide) (fun c_1 => ?_) (fun c_1 => ?_)
  · replace c_1 := (I_lt (a := i) (b := 0) ri (show rng 0 from ⟨by decide, by decide⟩)).mp c_1
    exact th_vret hx hb hr hlocks hH hS ⟨hO, hF, trivial⟩ dX6_refuse_23
  · replace c_1 := mt (I_lt (a := i) (b := 0) ri (show rng 0 from ⟨by decide, by decide⟩)).mpr c_1
    refine lv_iload_n hx hb dX6_refuse_4 rfl (lv_at hl 1 rfl) ?_
    refine lv_aload_n hx hb dX6_refuse_5 rfl (lv_at hl 0 rfl) ?_
    refine ok.getR hO h_a (by decide) k5_6 (by decide) (fun _ _ he hv kk => th_get (ci := 6) (C := RX6) (T := TX6) (N := 7) hx hb hts inX6 hown hK hH he rfl 6 (by decide) fl0 hv dX6_refuse_6 kk) ?_
    refine ok_alen hx hb hK hH hO h_a (by decide) k5_6 isA1 (by decide) dX6_refuse_9 ?_
    refine lv_icmp_ge (tgt := 23) hx hb dX6_refuse_10 (by decide) (fun c_2 => ?_) (fun c_2 => ?_)
    · replace c_2 := (I_le (a := 3) (b := i) (show rng 3 from ⟨by decide, by decide⟩) ri).mp c_2
      exact th_vret hx hb hr hlocks hH hS ⟨hO, hF, trivial⟩ dX6_refuse_23
    · replace c_2 := mt (I_le (a := 3) (b := i) (show rng 3 from ⟨by decide, by decide⟩) ri).mpr c_2
      refine lv_aload_n hx hb dX6_refuse_13 rfl (lv_at hl 0 rfl) ?_
      refine ok.getR hO h_a (by decide) k5_6 (by decide) (fun _ _ he hv kk => th_get (ci := 6) (C := RX6) (T := TX6) (N := 7) hx hb hts inX6 hown hK hH he rfl 6 (by decide) fl0 hv dX6_refuse_14 kk) ?_
      refine lv_iload_n hx hb dX6_refuse_17 rfl (lv_at hl 1 rfl) ?_
      refine lv_dup2_11 hx hb dX6_refuse_18 rfl rfl ?_
      refine ok_iald hx hb hK hH hO h_a (by decide) k5_6 isA1 ri (by omega) (by omega) dX6_refuse_19 (fun z_3 ez_3 rz_3 el9 => ?_)
      refine lv_iconst (v := I 1) hx hb dX6_refuse_20 (by decide) ?_
      refine lv_iadd hx hb dX6_refuse_21 ?_
      refine th_addo (fun z_4 rz_4 hz_4 => ?_)
      refine ok_iast hx hb hK hH hS h00 hO h_a (by decide) k5_6 isA1 ri (by omega) (by omega) rz_4 el1 dX6_refuse_22 (fun σ_s_5 H locs hO hF9 hi9 ha9 hH hS => ?_)
      replace hF := hF.tu hF9 (by decide)
      exact th_vret hx hb hr hlocks hH hS ⟨hO, hF, trivial⟩ dX6_refuse_23

set_option maxHeartbeats 1000000 in
set_option maxRecDepth 100000 in
theorem e_refusedOf (l : Launch) (G : va_G) (y : Nat → ClassId) (b0 : Nat) (σ : th_M) (E : th_E) (hO : ok y E σ) (a : Nat) (h_a : kd E a = 5) (i : Int) (ri : rng i) : Met l yX6_refusedOf wsX6_refusedOf ({ frames := 0, cells := 0, slots := 0, locals := 0 }) (th_P G y b0 σ [.ref a, .int (I i)]) (th_Qi G b0 (fun r σ1 => σ1 = σ ∧ (True))) 0 0 (th_A b0) := by
  refine Met.ofW (cc := cX6_refusedOf) (maxL := 2) (ret := (some .int)) (by decide) rfl ?_
  intro p e s m args below meth c s₁ B hml hv
  obtain ⟨rfl, hH, hK⟩ := hv
  have hx := B.exec
  have hb := B.bytes
  have hr := B.returns
  have hts := atoms_spec (ws := wsX6_refusedOf) B.pre
  have hown : s.vm.findClass RX6 = some m.cls := findClass_of_methodNamed B.named
  have hlocks := B.notSynchronized
  have h00 : b0 ≤ s.heap.size := hH.1
  have hS : va_S (th_A b0) s.heap s.heap [] := va_S.rf
  have inX6 : ∀ w ∈ wsX60, w ∈ wsX6_refusedOf := by decide +kernel
  have fl0 := hts (.fieldLink RX6 32 "NestQuery$State" "refused" "[I") (by decide +kernel)
  have hl := lv_entry ([.ref a, .int (I i)]) (n := 2) (Nat.le_of_ble_eq_true rfl)
  rw [lg_entry_eq]
  generalize (lg_sl ([.ref a, .int (I i)]) ++ List.replicate (2 - (lg_sl ([.ref a, .int (I i)])).length) Slot.unset).toArray = ls at hl ⊢
  have hl : lv_has ls 2 [(0, .ref a), (1, .int (I i))] := hl
  refine lv_iload_n hx hb dX6_refusedOf_0 rfl (lv_at hl 1 rfl) ?_
  refine lv_if_lt (tgt := 13) hx hb dX6_refusedOf_1 (by decide) (fun c_1 => ?_) (fun c_1 => ?_)
  · replace c_1 := (I_lt (a := i) (b := 0) ri (show rng 0 from ⟨by decide, by decide⟩)).mp c_1
    refine lv_iconst (v := I 0) hx hb dX6_refusedOf_13 (by decide) ?_
    refine lv_goto (tgt := 23) hx hb dX6_refusedOf_14 (by decide) ?_
    exact th_iret hx hb hr hlocks hH hS (z := 0) (show rng 0 from ⟨by decide, by decide⟩) ⟨rfl, trivial⟩ dX6_refusedOf_23
  · replace c_1 := mt (I_lt (a := i) (b := 0) ri (show rng 0 from ⟨by decide, by decide⟩)).mpr c_1
    refine lv_iload_n hx hb dX6_refusedOf_4 rfl (lv_at hl 1 rfl) ?_
    refine lv_aload_n hx hb dX6_refusedOf_5 rfl (lv_at hl 0 rfl) ?_
    refine ok.getR hO h_a (by decide) k5_6 (by decide) (fun _ _ he hv kk => th_get (ci := 6) (C := RX6) (T := TX6) (N := 7) hx hb hts inX6 hown hK hH he rfl 6 (by decide) fl0 hv dX6_refusedOf_6 kk) ?_
    refine ok_alen hx hb hK hH hO h_a (by decide) k5_6 isA1 (by decide) dX6_refusedOf_9 ?_
    refine lv_icmp_lt (tgt := 17) hx hb dX6_refusedOf_10 (by decide) (fun c_2 => ?_) (fun c_2 => ?_)
    · replace c_2 := (I_lt (a := i) (b := 3) ri (show rng 3 from ⟨by decide, by decide⟩)).mp c_2
      refine lv_aload_n hx hb dX6_refusedOf_17 rfl (lv_at hl 0 rfl) ?_
      refine ok.getR hO h_a (by decide) k5_6 (by decide) (fun _ _ he hv kk => th_get (ci := 6) (C := RX6) (T := TX6) (N := 7) hx hb hts inX6 hown hK hH he rfl 6 (by decide) fl0 hv dX6_refusedOf_18 kk) ?_
      refine lv_iload_n hx hb dX6_refusedOf_21 rfl (lv_at hl 1 rfl) ?_
      refine ok_iald hx hb hK hH hO h_a (by decide) k5_6 isA1 ri (by omega) (by omega) dX6_refusedOf_22 (fun z_3 ez_3 rz_3 el9 => ?_)
      exact th_iret hx hb hr hlocks hH hS (z := z_3) rz_3 ⟨rfl, trivial⟩ dX6_refusedOf_23
    · replace c_2 := mt (I_lt (a := i) (b := 3) ri (show rng 3 from ⟨by decide, by decide⟩)).mpr c_2
      refine lv_iconst (v := I 0) hx hb dX6_refusedOf_13 (by decide) ?_
      refine lv_goto (tgt := 23) hx hb dX6_refusedOf_14 (by decide) ?_
      exact th_iret hx hb hr hlocks hH hS (z := 0) (show rng 0 from ⟨by decide, by decide⟩) ⟨rfl, trivial⟩ dX6_refusedOf_23

set_option maxHeartbeats 1000000 in
set_option maxRecDepth 100000 in
theorem e_lose (l : Launch) (G : va_G) (y : Nat → ClassId) (b0 : Nat) (σ : th_M) (E : th_E) (hO : ok y E σ) (a : Nat) (h_a : kd E a = 5) : Met l yX6_loseOldest wsX6_loseOldest ({ frames := 0, cells := 0, slots := 0, locals := 0 }) (th_P G y b0 σ [.ref a]) (th_Qv G b0 (fun σ1 => ok y E σ1 ∧ fr [5] E σ σ1 ∧ (True))) 0 0 (th_A b0) := by
  refine Met.ofW (cc := cX6_loseOldest) (maxL := 3) (ret := none) (by decide) rfl ?_
  intro p e s m args below meth c s₁ B hml hv
  obtain ⟨rfl, hH, hK⟩ := hv
  have hx := B.exec
  have hb := B.bytes
  have hr := B.returns
  have hts := atoms_spec (ws := wsX6_loseOldest) B.pre
  have hown : s.vm.findClass RX6 = some m.cls := findClass_of_methodNamed B.named
  have hlocks := B.notSynchronized
  have h00 : b0 ≤ s.heap.size := hH.1
  have hS : va_S (th_A b0) s.heap s.heap [] := va_S.rf
  have hF : fr [5] E σ σ := fr.rf
  have inX6 : ∀ w ∈ wsX60, w ∈ wsX6_loseOldest := by decide +kernel
  have fl0 := hts (.fieldLink RX6 20 "NestQuery$State" "before" "[LNestQuery$Tree;") (by decide +kernel)
  have fl1 := hts (.fieldLink RX6 35 "NestQuery$State" "actCount" "I") (by decide +kernel)
  have hl := lv_entry ([.ref a]) (n := 3) (Nat.le_of_ble_eq_true rfl)
  rw [lg_entry_eq]
  generalize (lg_sl ([.ref a]) ++ List.replicate (3 - (lg_sl ([.ref a])).length) Slot.unset).toArray = ls at hl ⊢
  have hl : lv_has ls 3 [(0, .ref a)] := hl
  refine lv_aload_n hx hb dX6_loseOldest_0 rfl (lv_at hl 0 rfl) ?_
  refine ok.getR hO h_a (by decide) k5_1 (by decide) (fun _ _ he hv kk => th_get (ci := 6) (C := RX6) (T := TX6) (N := 7) hx hb hts inX6 hown hK hH he rfl 1 (by decide) fl0 hv dX6_loseOldest_1 kk) ?_
  refine lv_iconst (v := I 0) hx hb dX6_loseOldest_4 (by decide) ?_
  refine ok_aald hx hb hK hH hO h_a (by decide) k5_1 (Or.inr rfl) rfl (show rng 0 from ⟨by decide, by decide⟩) (by omega) (by omega) dX6_loseOldest_5 (fun x_1 hx_2 => ?_)
  cases x_1 with
  | none =>
    refine lv_astore_nN (lv' := [(1, .null), (0, .ref a)]) hx hb dX6_loseOldest_6 rfl hl (by decide) rfl (fun ls hl => ?_)
    refine lv_iconst (v := I 1) hx hb dX6_loseOldest_7 (by decide) ?_
    refine lv_istore_n (lv' := [(2, .int (I 1)), (1, .null), (0, .ref a)]) hx hb dX6_loseOldest_8 rfl hl (by decide) rfl (fun ls hl => ?_)
    refine th_loop (α := Int) (pc := 9) (fun x9 => (40 - x9).toNat) (fun x9 σ9 H9 l9 ls9 => ok y E σ9 ∧ fr [5] E σ σ9 ∧ th_H G b0 σ9 H9 ∧ va_S (th_A b0) s.heap H9 l9 ∧ lv_has ls9 3 [(0, .ref a), (1, .null), (2, .int (I x9))] ∧ rng x9 ∧ (1 ≤ x9) ∧ (x9 ≤ 40)) ?_ (1) σ _ _ _ ⟨hO, hF, hH, hS, lv_sub hl [2, 1, 0] rfl, (show rng 1 from ⟨by decide, by decide⟩), by first | omega | (dsimp only; omega), by first | omega | (dsimp only; omega)⟩
    intro x9 σ_J_14 H locs ls hI9 ihJ_14
    obtain ⟨v2q13, ex9⟩ : ∃ z, z = x9 := ⟨_, rfl⟩
    subst ex9
    obtain ⟨hO, hF, hH, hS, hl, rv2q13, J_14_0, J_14_1⟩ := hI9
    have hl : lv_has ls 3 [(0, .ref a), (1, .null), (2, .int (I v2q13))] := hl
    have rv2q13 : rng v2q13 := rv2q13
    have J_14_0 : 1 ≤ v2q13 := J_14_0
    have J_14_1 : v2q13 ≤ 40 := J_14_1
    refine lv_iload_n hx hb dX6_loseOldest_9 rfl (lv_at hl 2 rfl) ?_
    refine lv_bipush (v := I 40) hx hb dX6_loseOldest_10 (by decide) ?_
    refine lv_icmp_ge (tgt := 35) hx hb dX6_loseOldest_12 (by decide) (fun c_15 => ?_) (fun c_15 => ?_)
    · replace c_15 := (I_le (a := 40) (b := v2q13) (show rng 40 from ⟨by decide, by decide⟩) rv2q13).mp c_15
      refine lv_aload_n hx hb dX6_loseOldest_35 rfl (lv_at hl 0 rfl) ?_
      refine ok.getR hO h_a (by decide) k5_1 (by decide) (fun _ _ he hv kk => th_get (ci := 6) (C := RX6) (T := TX6) (N := 7) hx hb hts inX6 hown hK hH he rfl 1 (by decide) fl0 hv dX6_loseOldest_36 kk) ?_
      refine lv_bipush (v := I 39) hx hb dX6_loseOldest_39 (by decide) ?_
      refine lv_aload_nN hx hb dX6_loseOldest_41 rfl (lv_at hl 1 rfl) ?_
      refine ok_aastN hx hb hK hH hS h00 hO h_a (by decide) k5_1 (Or.inr rfl) (show rng 39 from ⟨by decide, by decide⟩) (by omega) (by omega) dX6_loseOldest_42 (fun σ_s_16 H locs hO hF9 hi9 hH hS => ?_)
      replace hF := hF.tu hF9 (by decide)
      refine lv_aload_n hx hb dX6_loseOldest_43 rfl (lv_at hl 0 rfl) ?_
      refine lv_bipush (v := I 39) hx hb dX6_loseOldest_44 (by decide) ?_
      refine ok.putI hO h_a (by decide) k5_2 (show rng 39 from ⟨by decide, by decide⟩) (by omega) (by omega) (fun _ he hl9 kk => th_put (ci := 6) (v := .int (I 39)) (ty := .int) (C := RX6) (T := TX6) (N := 7) hx hb hts inX6 tyX6 tyX6_ok nmX6 hown hK hH hS h00 he rfl 2 (by decide) fl1 rfl (by decide +kernel) rfl rfl hl9 dX6_loseOldest_46 kk) (fun σ_s_17 H locs hO hF9 hg9 hi9 ha9 hH hS => ?_)
      replace hF := hF.tu hF9 (by decide)
      have e_18 := hg9
      exact th_vret hx hb hr hlocks hH hS ⟨hO, hF, trivial⟩ dX6_loseOldest_49
    · replace c_15 := mt (I_le (a := 40) (b := v2q13) (show rng 40 from ⟨by decide, by decide⟩) rv2q13).mpr c_15
      refine lv_aload_n hx hb dX6_loseOldest_15 rfl (lv_at hl 0 rfl) ?_
      refine ok.getR hO h_a (by decide) k5_1 (by decide) (fun _ _ he hv kk => th_get (ci := 6) (C := RX6) (T := TX6) (N := 7) hx hb hts inX6 hown hK hH he rfl 1 (by decide) fl0 hv dX6_loseOldest_16 kk) ?_
      refine lv_iload_n hx hb dX6_loseOldest_19 rfl (lv_at hl 2 rfl) ?_
      refine lv_iconst (v := I 1) hx hb dX6_loseOldest_20 (by decide) ?_
      refine lv_isub hx hb dX6_loseOldest_21 ?_
      refine nq_top (I_sub _ _) ?_
      refine lv_aload_n hx hb dX6_loseOldest_22 rfl (lv_at hl 0 rfl) ?_
      refine ok.getR hO h_a (by decide) k5_1 (by decide) (fun _ _ he hv kk => th_get (ci := 6) (C := RX6) (T := TX6) (N := 7) hx hb hts inX6 hown hK hH he rfl 1 (by decide) fl0 hv dX6_loseOldest_23 kk) ?_
      refine lv_iload_n hx hb dX6_loseOldest_26 rfl (lv_at hl 2 rfl) ?_
      refine ok_aald hx hb hK hH hO h_a (by decide) k5_1 (Or.inr rfl) rfl rv2q13 (by omega) (by omega) dX6_loseOldest_27 (fun x_19 hx_20 => ?_)
      cases x_19 with
      | none =>
        refine ok_aastN hx hb hK hH hS h00 hO h_a (by decide) k5_1 (Or.inr rfl) ⟨by omega, by omega⟩ (by omega) (by omega) dX6_loseOldest_28 (fun σ_s_23 H locs hO hF9 hi9 hH hS => ?_)
        replace hF := hF.tu hF9 (by decide)
        refine lv_iinc (v := I (v2q13 + 1)) (lv' := [(2, .int (I (v2q13 + 1))), (0, .ref a), (1, .null)]) hx hb dX6_loseOldest_29 hl (k := 2) rfl (I_add _ _) (by decide) rfl (fun ls hl => ?_)
        refine lv_goto (tgt := 9) hx hb dX6_loseOldest_32 (by decide) ?_
        exact ihJ_14 (v2q13 + 1) σ_s_23 _ _ _ (by first | omega | (dsimp only; omega)) ⟨hO, hF, hH, hS, lv_sub hl [1, 2, 0] rfl, ⟨by first | omega | (dsimp only; omega), by first | omega | (dsimp only; omega)⟩, by first | omega | (dsimp only; omega), by first | omega | (dsimp only; omega)⟩
      | some b_21 =>
        have hb_22 : kd E b_21 = 1 := hx_20 b_21 rfl
        refine ok_aast hx hb hK hH hS h00 hO h_a (by decide) k5_1 (Or.inr rfl) (v := b_21) hb_22 ⟨by omega, by omega⟩ (by omega) (by omega) dX6_loseOldest_28 (fun σ_s_24 H locs hO hF9 hi9 hH hS => ?_)
        replace hF := hF.tu hF9 (by decide)
        refine lv_iinc (v := I (v2q13 + 1)) (lv' := [(2, .int (I (v2q13 + 1))), (0, .ref a), (1, .null)]) hx hb dX6_loseOldest_29 hl (k := 2) rfl (I_add _ _) (by decide) rfl (fun ls hl => ?_)
        refine lv_goto (tgt := 9) hx hb dX6_loseOldest_32 (by decide) ?_
        exact ihJ_14 (v2q13 + 1) σ_s_24 _ _ _ (by first | omega | (dsimp only; omega)) ⟨hO, hF, hH, hS, lv_sub hl [1, 2, 0] rfl, ⟨by first | omega | (dsimp only; omega), by first | omega | (dsimp only; omega)⟩, by first | omega | (dsimp only; omega), by first | omega | (dsimp only; omega)⟩
  | some b_3 =>
    have hb_4 : kd E b_3 = 1 := hx_2 b_3 rfl
    refine lv_astore_n (lv' := [(1, .ref b_3), (0, .ref a)]) hx hb dX6_loseOldest_6 rfl hl (by decide) rfl (fun ls hl => ?_)
    refine lv_iconst (v := I 1) hx hb dX6_loseOldest_7 (by decide) ?_
    refine lv_istore_n (lv' := [(2, .int (I 1)), (1, .ref b_3), (0, .ref a)]) hx hb dX6_loseOldest_8 rfl hl (by decide) rfl (fun ls hl => ?_)
    refine th_loop (α := Int) (pc := 9) (fun x9 => (40 - x9).toNat) (fun x9 σ9 H9 l9 ls9 => ok y E σ9 ∧ fr [5] E σ σ9 ∧ th_H G b0 σ9 H9 ∧ va_S (th_A b0) s.heap H9 l9 ∧ lv_has ls9 3 [(0, .ref a), (1, .ref b_3), (2, .int (I x9))] ∧ rng x9 ∧ (1 ≤ x9) ∧ (x9 ≤ 40)) ?_ (1) σ _ _ _ ⟨hO, hF, hH, hS, lv_sub hl [2, 1, 0] rfl, (show rng 1 from ⟨by decide, by decide⟩), by first | omega | (dsimp only; omega), by first | omega | (dsimp only; omega)⟩
    intro x9 σ_J_26 H locs ls hI9 ihJ_26
    obtain ⟨v2q25, ex9⟩ : ∃ z, z = x9 := ⟨_, rfl⟩
    subst ex9
    obtain ⟨hO, hF, hH, hS, hl, rv2q25, J_26_0, J_26_1⟩ := hI9
    have hl : lv_has ls 3 [(0, .ref a), (1, .ref b_3), (2, .int (I v2q25))] := hl
    have rv2q25 : rng v2q25 := rv2q25
    have J_26_0 : 1 ≤ v2q25 := J_26_0
    have J_26_1 : v2q25 ≤ 40 := J_26_1
    refine lv_iload_n hx hb dX6_loseOldest_9 rfl (lv_at hl 2 rfl) ?_
    refine lv_bipush (v := I 40) hx hb dX6_loseOldest_10 (by decide) ?_
    refine lv_icmp_ge (tgt := 35) hx hb dX6_loseOldest_12 (by decide) (fun c_27 => ?_) (fun c_27 => ?_)
    · replace c_27 := (I_le (a := 40) (b := v2q25) (show rng 40 from ⟨by decide, by decide⟩) rv2q25).mp c_27
      refine lv_aload_n hx hb dX6_loseOldest_35 rfl (lv_at hl 0 rfl) ?_
      refine ok.getR hO h_a (by decide) k5_1 (by decide) (fun _ _ he hv kk => th_get (ci := 6) (C := RX6) (T := TX6) (N := 7) hx hb hts inX6 hown hK hH he rfl 1 (by decide) fl0 hv dX6_loseOldest_36 kk) ?_
      refine lv_bipush (v := I 39) hx hb dX6_loseOldest_39 (by decide) ?_
      refine lv_aload_n hx hb dX6_loseOldest_41 rfl (lv_at hl 1 rfl) ?_
      refine ok_aast hx hb hK hH hS h00 hO h_a (by decide) k5_1 (Or.inr rfl) (v := b_3) hb_4 (show rng 39 from ⟨by decide, by decide⟩) (by omega) (by omega) dX6_loseOldest_42 (fun σ_s_28 H locs hO hF9 hi9 hH hS => ?_)
      replace hF := hF.tu hF9 (by decide)
      refine lv_aload_n hx hb dX6_loseOldest_43 rfl (lv_at hl 0 rfl) ?_
      refine lv_bipush (v := I 39) hx hb dX6_loseOldest_44 (by decide) ?_
      refine ok.putI hO h_a (by decide) k5_2 (show rng 39 from ⟨by decide, by decide⟩) (by omega) (by omega) (fun _ he hl9 kk => th_put (ci := 6) (v := .int (I 39)) (ty := .int) (C := RX6) (T := TX6) (N := 7) hx hb hts inX6 tyX6 tyX6_ok nmX6 hown hK hH hS h00 he rfl 2 (by decide) fl1 rfl (by decide +kernel) rfl rfl hl9 dX6_loseOldest_46 kk) (fun σ_s_29 H locs hO hF9 hg9 hi9 ha9 hH hS => ?_)
      replace hF := hF.tu hF9 (by decide)
      have e_30 := hg9
      exact th_vret hx hb hr hlocks hH hS ⟨hO, hF, trivial⟩ dX6_loseOldest_49
    · replace c_27 := mt (I_le (a := 40) (b := v2q25) (show rng 40 from ⟨by decide, by decide⟩) rv2q25).mpr c_27
      refine lv_aload_n hx hb dX6_loseOldest_15 rfl (lv_at hl 0 rfl) ?_
      refine ok.getR hO h_a (by decide) k5_1 (by decide) (fun _ _ he hv kk => th_get (ci := 6) (C := RX6) (T := TX6) (N := 7) hx hb hts inX6 hown hK hH he rfl 1 (by decide) fl0 hv dX6_loseOldest_16 kk) ?_
      refine lv_iload_n hx hb dX6_loseOldest_19 rfl (lv_at hl 2 rfl) ?_
      refine lv_iconst (v := I 1) hx hb dX6_loseOldest_20 (by decide) ?_
      refine lv_isub hx hb dX6_loseOldest_21 ?_
      refine nq_top (I_sub _ _) ?_
      refine lv_aload_n hx hb dX6_loseOldest_22 rfl (lv_at hl 0 rfl) ?_
      refine ok.getR hO h_a (by decide) k5_1 (by decide) (fun _ _ he hv kk => th_get (ci := 6) (C := RX6) (T := TX6) (N := 7) hx hb hts inX6 hown hK hH he rfl 1 (by decide) fl0 hv dX6_loseOldest_23 kk) ?_
      refine lv_iload_n hx hb dX6_loseOldest_26 rfl (lv_at hl 2 rfl) ?_
      refine ok_aald hx hb hK hH hO h_a (by decide) k5_1 (Or.inr rfl) rfl rv2q25 (by omega) (by omega) dX6_loseOldest_27 (fun x_31 hx_32 => ?_)
      cases x_31 with
      | none =>
        refine ok_aastN hx hb hK hH hS h00 hO h_a (by decide) k5_1 (Or.inr rfl) ⟨by omega, by omega⟩ (by omega) (by omega) dX6_loseOldest_28 (fun σ_s_35 H locs hO hF9 hi9 hH hS => ?_)
        replace hF := hF.tu hF9 (by decide)
        refine lv_iinc (v := I (v2q25 + 1)) (lv' := [(2, .int (I (v2q25 + 1))), (0, .ref a), (1, .ref b_3)]) hx hb dX6_loseOldest_29 hl (k := 2) rfl (I_add _ _) (by decide) rfl (fun ls hl => ?_)
        refine lv_goto (tgt := 9) hx hb dX6_loseOldest_32 (by decide) ?_
        exact ihJ_26 (v2q25 + 1) σ_s_35 _ _ _ (by first | omega | (dsimp only; omega)) ⟨hO, hF, hH, hS, lv_sub hl [1, 2, 0] rfl, ⟨by first | omega | (dsimp only; omega), by first | omega | (dsimp only; omega)⟩, by first | omega | (dsimp only; omega), by first | omega | (dsimp only; omega)⟩
      | some b_33 =>
        have hb_34 : kd E b_33 = 1 := hx_32 b_33 rfl
        refine ok_aast hx hb hK hH hS h00 hO h_a (by decide) k5_1 (Or.inr rfl) (v := b_33) hb_34 ⟨by omega, by omega⟩ (by omega) (by omega) dX6_loseOldest_28 (fun σ_s_36 H locs hO hF9 hi9 hH hS => ?_)
        replace hF := hF.tu hF9 (by decide)
        refine lv_iinc (v := I (v2q25 + 1)) (lv' := [(2, .int (I (v2q25 + 1))), (0, .ref a), (1, .ref b_3)]) hx hb dX6_loseOldest_29 hl (k := 2) rfl (I_add _ _) (by decide) rfl (fun ls hl => ?_)
        refine lv_goto (tgt := 9) hx hb dX6_loseOldest_32 (by decide) ?_
        exact ihJ_26 (v2q25 + 1) σ_s_36 _ _ _ (by first | omega | (dsimp only; omega)) ⟨hO, hF, hH, hS, lv_sub hl [1, 2, 0] rfl, ⟨by first | omega | (dsimp only; omega), by first | omega | (dsimp only; omega)⟩, by first | omega | (dsimp only; omega), by first | omega | (dsimp only; omega)⟩

set_option maxHeartbeats 1000000 in
set_option maxRecDepth 100000 in
theorem e_stepBack (l : Launch) (G : va_G) (y : Nat → ClassId) (b0 : Nat) (σ : th_M) (E : th_E) (hO : ok y E σ) (a : Nat) (h_a : kd E a = 5) : Met l yX6_stepBack wsX6_stepBack ({ frames := 2, cells := 0, slots := 0, locals := 86 }) (th_P G y b0 σ [.ref a]) (th_Qi G b0 (fun r σ1 => ok y E σ1 ∧ fr [5, 1] E σ σ1 ∧ (True))) 0 0 (th_A b0) := by
  refine Met.ofW (cc := cX6_stepBack) (maxL := 2) (ret := (some .int)) (by decide) rfl ?_
  intro p e s m args below meth c s₁ B hml hv
  obtain ⟨rfl, hH, hK⟩ := hv
  have hx := B.exec
  have hb := B.bytes
  have hr := B.returns
  have hts := atoms_spec (ws := wsX6_stepBack) B.pre
  have hown : s.vm.findClass RX6 = some m.cls := findClass_of_methodNamed B.named
  have hlocks := B.notSynchronized
  have h00 : b0 ≤ s.heap.size := hH.1
  have hS : va_S (th_A b0) s.heap s.heap [] := va_S.rf
  have hF : fr [5, 1] E σ σ := fr.rf
  have inX6 : ∀ w ∈ wsX60, w ∈ wsX6_stepBack := by decide +kernel
  have fl0 := hts (.fieldLink RX6 35 "NestQuery$State" "actCount" "I") (by decide +kernel)
  have fl1 := hts (.fieldLink RX6 20 "NestQuery$State" "before" "[LNestQuery$Tree;") (by decide +kernel)
  have fl2 := hts (.fieldLink RX6 14 "NestQuery$State" "tree" "LNestQuery$Tree;") (by decide +kernel)
  have hl := lv_entry ([.ref a]) (n := 2) (Nat.le_of_ble_eq_true rfl)
  rw [lg_entry_eq]
  generalize (lg_sl ([.ref a]) ++ List.replicate (2 - (lg_sl ([.ref a])).length) Slot.unset).toArray = ls at hl ⊢
  have hl : lv_has ls 2 [(0, .ref a)] := hl
  refine lv_aload_n hx hb dX6_stepBack_0 rfl (lv_at hl 0 rfl) ?_
  refine ok.getI hO h_a (by decide) k5_2 (fun _ _ he hv kk => th_get (ci := 6) (C := RX6) (T := TX6) (N := 7) hx hb hts inX6 hown hK hH he rfl 2 (by decide) fl0 hv dX6_stepBack_1 kk) (fun z_1 e_2 rz_1 lz_1 uz_1 => ?_)
  refine lv_iconst (v := I 1) hx hb dX6_stepBack_4 (by decide) ?_
  refine lv_icmp_lt (tgt := 17) hx hb dX6_stepBack_5 (by decide) (fun c_3 => ?_) (fun c_3 => ?_)
  · replace c_3 := (I_lt (a := z_1) (b := 1) rz_1 (show rng 1 from ⟨by decide, by decide⟩)).mp c_3
    refine lv_iconst (v := I (-1)) hx hb dX6_stepBack_17 (by decide) ?_
    exact th_iret hx hb hr hlocks hH hS (z := (-1)) (show rng (-1) from ⟨by decide, by decide⟩) ⟨hO, hF, trivial⟩ dX6_stepBack_18
  · replace c_3 := mt (I_lt (a := z_1) (b := 1) rz_1 (show rng 1 from ⟨by decide, by decide⟩)).mpr c_3
    refine lv_aload_n hx hb dX6_stepBack_8 rfl (lv_at hl 0 rfl) ?_
    refine ok.getIc hO h_a (by decide) k5_2 e_2 (fun _ _ he hv kk => th_get (ci := 6) (C := RX6) (T := TX6) (N := 7) hx hb hts inX6 hown hK hH he rfl 2 (by decide) fl0 hv dX6_stepBack_9 kk) ?_
    refine lv_bipush (v := I 40) hx hb dX6_stepBack_12 (by decide) ?_
    refine lv_icmp_le (tgt := 19) hx hb dX6_stepBack_14 (by decide) (fun c_4 => ?_) (fun c_4 => ?_)
    · replace c_4 := (I_le (a := z_1) (b := 40) rz_1 (show rng 40 from ⟨by decide, by decide⟩)).mp c_4
      refine lv_aload_n hx hb dX6_stepBack_19 rfl (lv_at hl 0 rfl) ?_
      refine lv_dup hx hb dX6_stepBack_20 rfl ?_
      refine ok.getIc hO h_a (by decide) k5_2 e_2 (fun _ _ he hv kk => th_get (ci := 6) (C := RX6) (T := TX6) (N := 7) hx hb hts inX6 hown hK hH he rfl 2 (by decide) fl0 hv dX6_stepBack_21 kk) ?_
      refine lv_iconst (v := I 1) hx hb dX6_stepBack_24 (by decide) ?_
      refine lv_isub hx hb dX6_stepBack_25 ?_
      refine nq_top (I_sub _ _) ?_
      refine ok.putI hO h_a (by decide) k5_2 ⟨by omega, by omega⟩ (by omega) (by omega) (fun _ he hl9 kk => th_put (ci := 6) (v := .int (I (z_1 - 1))) (ty := .int) (C := RX6) (T := TX6) (N := 7) hx hb hts inX6 tyX6 tyX6_ok nmX6 hown hK hH hS h00 he rfl 2 (by decide) fl0 rfl (by decide +kernel) rfl rfl hl9 dX6_stepBack_26 kk) (fun σ_s_5 H locs hO hF9 hg9 hi9 ha9 hH hS => ?_)
      replace hF := hF.tu hF9 (by decide)
      have e_6 := hg9
      refine lv_aload_n hx hb dX6_stepBack_29 rfl (lv_at hl 0 rfl) ?_
      refine ok.getR hO h_a (by decide) k5_1 (by decide) (fun _ _ he hv kk => th_get (ci := 6) (C := RX6) (T := TX6) (N := 7) hx hb hts inX6 hown hK hH he rfl 1 (by decide) fl1 hv dX6_stepBack_30 kk) ?_
      refine lv_aload_n hx hb dX6_stepBack_33 rfl (lv_at hl 0 rfl) ?_
      refine ok.getIc hO h_a (by decide) k5_2 e_6 (fun _ _ he hv kk => th_get (ci := 6) (C := RX6) (T := TX6) (N := 7) hx hb hts inX6 hown hK hH he rfl 2 (by decide) fl0 hv dX6_stepBack_34 kk) ?_
      refine ok_aald hx hb hK hH hO h_a (by decide) k5_1 (Or.inr rfl) rfl ⟨by omega, by omega⟩ (by omega) (by omega) dX6_stepBack_37 (fun x_7 hx_8 => ?_)
      cases x_7 with
      | none =>
        refine lv_astore_nN (lv' := [(1, .null), (0, .ref a)]) hx hb dX6_stepBack_38 rfl hl (by decide) rfl (fun ls hl => ?_)
        refine lv_aload_nN hx hb dX6_stepBack_39 rfl (lv_at hl 0 rfl) ?_
        refine lv_ifnullN (tgt := 51) hx hb dX6_stepBack_40 (by decide) ?_
        refine lv_aload_n hx hb dX6_stepBack_51 rfl (lv_at hl 1 rfl) ?_
        refine ok.getIc hO h_a (by decide) k5_2 e_6 (fun _ _ he hv kk => th_get (ci := 6) (C := RX6) (T := TX6) (N := 7) hx hb hts inX6 hown hK hH he rfl 2 (by decide) fl0 hv dX6_stepBack_52 kk) ?_
        exact th_iret hx hb hr hlocks hH hS (z := (z_1 - 1)) ⟨by omega, by omega⟩ ⟨hO, hF, trivial⟩ dX6_stepBack_55
      | some b_9 =>
        have hb_10 : kd E b_9 = 1 := hx_8 b_9 rfl
        refine lv_astore_n (lv' := [(1, .ref b_9), (0, .ref a)]) hx hb dX6_stepBack_38 rfl hl (by decide) rfl (fun ls hl => ?_)
        refine lv_aload_n hx hb dX6_stepBack_39 rfl (lv_at hl 0 rfl) ?_
        refine lv_ifnull hx hb dX6_stepBack_40 ?_
        refine lv_aload_n hx hb dX6_stepBack_43 rfl (lv_at hl 1 rfl) ?_
        have hp_11 : kd E (ad E a 0) = 1 := ok.pk hO h_a (by decide) k5_0 rfl
        refine ok.getR hO h_a (by decide) k5_0 (by decide) (fun _ _ he hv kk => th_get (ci := 6) (C := RX6) (T := TX6) (N := 7) hx hb hts inX6 hown hK hH he rfl 0 (by decide) fl2 hv dX6_stepBack_44 kk) ?_
        refine lv_aload_n hx hb dX6_stepBack_47 rfl (lv_at hl 0 rfl) ?_
        obtain ⟨_, hc_12⟩ := hO.cell hp_11 (by decide) (ci := 9) rfl
        refine th_callv (va_runV (As := [.ref b_9]) (rest := []) ⟨hx, hb, hml, hown, hts⟩ (t11_become l G y b0 σ_s_5 E hO (ad E a 0) hp_11 b_9 hb_10) (cwV 1 hts gX6_stepBack_X9_become rfl rfl rfl (by decide +kernel) ⟨Nat.le_of_ble_eq_true rfl, Nat.le_of_ble_eq_true rfl⟩) (th_PV hK hH rfl hc_12) rfl rfl hl.1 rfl (lv_room (Nat.le_of_ble_eq_true rfl)) dX6_stepBack_48 ⟨Nat.le_of_ble_eq_true rfl, Nat.le_of_ble_eq_true rfl⟩) hS (fun σ_s_14 H locs hw_13 hH hS => ?_)
        obtain ⟨hO9, hF9, hw_13⟩ := hw_13
        have e_15 : gI σ_s_14 a 2 = z_1 - 1 := (fr.ki hO hF9 h_a (by decide) (by decide) _).trans e_6
        replace hO := hO9
        replace hF := hF.tu hF9 (by decide)
        refine lv_aload_n hx hb dX6_stepBack_51 rfl (lv_at hl 1 rfl) ?_
        refine ok.getIc hO h_a (by decide) k5_2 e_15 (fun _ _ he hv kk => th_get (ci := 6) (C := RX6) (T := TX6) (N := 7) hx hb hts inX6 hown hK hH he rfl 2 (by decide) fl0 hv dX6_stepBack_52 kk) ?_
        exact th_iret hx hb hr hlocks hH hS (z := (z_1 - 1)) ⟨by omega, by omega⟩ ⟨hO, hF, trivial⟩ dX6_stepBack_55
    · replace c_4 := mt (I_le (a := z_1) (b := 40) rz_1 (show rng 40 from ⟨by decide, by decide⟩)).mpr c_4
      refine lv_iconst (v := I (-1)) hx hb dX6_stepBack_17 (by decide) ?_
      exact th_iret hx hb hr hlocks hH hS (z := (-1)) (show rng (-1) from ⟨by decide, by decide⟩) ⟨hO, hF, trivial⟩ dX6_stepBack_18

set_option maxHeartbeats 1000000 in
set_option maxRecDepth 100000 in
theorem e_notes (l : Launch) (G : va_G) (y : Nat → ClassId) (b0 : Nat) (σ : th_M) (E : th_E) (hO : ok y E σ) (a : Nat) (h_a : kd E a = 5) (i : Int) (ri : rng i) (w : Int) (rw : rng w) (l_w : 0 ≤ w) (u_w : w ≤ 1) : Met l yX6_notes wsX6_notes ({ frames := 0, cells := 0, slots := 0, locals := 0 }) (th_P G y b0 σ [.ref a, .int (I i), .int (I w)]) (th_Qi G b0 (fun r σ1 => ok y E σ1 ∧ fr [5] E σ σ1 ∧ (0 ≤ r ∧ r ≤ 1) ∧ (True))) 0 0 (th_A b0) := by
  refine Met.ofW (cc := cX6_notes) (maxL := 3) (ret := (some .boolean)) (by decide) rfl ?_
  intro p e s m args below meth c s₁ B hml hv
  obtain ⟨rfl, hH, hK⟩ := hv
  have hx := B.exec
  have hb := B.bytes
  have hr := B.returns
  have hts := atoms_spec (ws := wsX6_notes) B.pre
  have hown : s.vm.findClass RX6 = some m.cls := findClass_of_methodNamed B.named
  have hlocks := B.notSynchronized
  have h00 : b0 ≤ s.heap.size := hH.1
  have hS : va_S (th_A b0) s.heap s.heap [] := va_S.rf
  have hF : fr [5] E σ σ := fr.rf
  have inX6 : ∀ w ∈ wsX60, w ∈ wsX6_notes := by decide +kernel
  have fl0 := hts (.fieldLink RX6 46 "NestQuery$State" "notedCount" "I") (by decide +kernel)
  have fl1 := hts (.fieldLink RX6 24 "NestQuery$State" "notedThings" "[I") (by decide +kernel)
  have fl2 := hts (.fieldLink RX6 28 "NestQuery$State" "notedIs" "[Z") (by decide +kernel)
  have hl := lv_entry ([.ref a, .int (I i), .int (I w)]) (n := 3) (Nat.le_of_ble_eq_true rfl)
  rw [lg_entry_eq]
  generalize (lg_sl ([.ref a, .int (I i), .int (I w)]) ++ List.replicate (3 - (lg_sl ([.ref a, .int (I i), .int (I w)])).length) Slot.unset).toArray = ls at hl ⊢
  have hl : lv_has ls 3 [(0, .ref a), (1, .int (I i)), (2, .int (I w))] := hl
  refine lv_aload_n hx hb dX6_notes_0 rfl (lv_at hl 0 rfl) ?_
  refine ok.getI hO h_a (by decide) k5_5 (fun _ _ he hv kk => th_get (ci := 6) (C := RX6) (T := TX6) (N := 7) hx hb hts inX6 hown hK hH he rfl 5 (by decide) fl0 hv dX6_notes_1 kk) (fun z_1 e_2 rz_1 lz_1 uz_1 => ?_)
  refine lv_if_lt (tgt := 16) hx hb dX6_notes_4 (by decide) (fun c_3 => ?_) (fun c_3 => ?_)
  · replace c_3 := (I_lt (a := z_1) (b := 0) rz_1 (show rng 0 from ⟨by decide, by decide⟩)).mp c_3
    refine lv_iconst (v := I 0) hx hb dX6_notes_16 (by decide) ?_
    exact th_zret hx hb hr hlocks hH hS (z := 0) (by omega) ⟨hO, hF, ⟨by omega, by omega⟩, trivial⟩ dX6_notes_17
  · replace c_3 := mt (I_lt (a := z_1) (b := 0) rz_1 (show rng 0 from ⟨by decide, by decide⟩)).mpr c_3
    refine lv_aload_n hx hb dX6_notes_7 rfl (lv_at hl 0 rfl) ?_
    refine ok.getIc hO h_a (by decide) k5_5 e_2 (fun _ _ he hv kk => th_get (ci := 6) (C := RX6) (T := TX6) (N := 7) hx hb hts inX6 hown hK hH he rfl 5 (by decide) fl0 hv dX6_notes_8 kk) ?_
    refine lv_bipush (v := I 8) hx hb dX6_notes_11 (by decide) ?_
    refine lv_icmp_lt (tgt := 18) hx hb dX6_notes_13 (by decide) (fun c_4 => ?_) (fun c_4 => ?_)
    · replace c_4 := (I_lt (a := z_1) (b := 8) rz_1 (show rng 8 from ⟨by decide, by decide⟩)).mp c_4
      refine lv_aload_n hx hb dX6_notes_18 rfl (lv_at hl 0 rfl) ?_
      refine ok.getR hO h_a (by decide) k5_3 (by decide) (fun _ _ he hv kk => th_get (ci := 6) (C := RX6) (T := TX6) (N := 7) hx hb hts inX6 hown hK hH he rfl 3 (by decide) fl1 hv dX6_notes_19 kk) ?_
      refine lv_aload_n hx hb dX6_notes_22 rfl (lv_at hl 0 rfl) ?_
      refine ok.getIc hO h_a (by decide) k5_5 e_2 (fun _ _ he hv kk => th_get (ci := 6) (C := RX6) (T := TX6) (N := 7) hx hb hts inX6 hown hK hH he rfl 5 (by decide) fl0 hv dX6_notes_23 kk) ?_
      refine lv_iload_n hx hb dX6_notes_26 rfl (lv_at hl 1 rfl) ?_
      refine ok_iast hx hb hK hH hS h00 hO h_a (by decide) k5_3 isA1 rz_1 (by omega) (by omega) ri el1 dX6_notes_27 (fun σ_s_5 H locs hO hF9 hi9 ha9 hH hS => ?_)
      replace hF := hF.tu hF9 (by decide)
      have e_6 : gI σ_s_5 a 5 = z_1 := (hi9 _ _).trans e_2
      refine lv_aload_n hx hb dX6_notes_28 rfl (lv_at hl 0 rfl) ?_
      refine ok.getR hO h_a (by decide) k5_4 (by decide) (fun _ _ he hv kk => th_get (ci := 6) (C := RX6) (T := TX6) (N := 7) hx hb hts inX6 hown hK hH he rfl 4 (by decide) fl2 hv dX6_notes_29 kk) ?_
      refine lv_aload_n hx hb dX6_notes_32 rfl (lv_at hl 0 rfl) ?_
      refine ok.getIc hO h_a (by decide) k5_5 e_6 (fun _ _ he hv kk => th_get (ci := 6) (C := RX6) (T := TX6) (N := 7) hx hb hts inX6 hown hK hH he rfl 5 (by decide) fl0 hv dX6_notes_33 kk) ?_
      refine lv_iload_n hx hb dX6_notes_36 rfl (lv_at hl 2 rfl) ?_
      refine ok_zast hx hb hK hH hS h00 hO h_a (by decide) k5_4 rz_1 (by omega) (by omega) (by omega) dX6_notes_37 (fun σ_s_7 H locs hO hF9 hi9 ha9 hH hS => ?_)
      replace hF := hF.tu hF9 (by decide)
      have e_8 : gI σ_s_7 a 5 = z_1 := (hi9 _ _).trans e_6
      refine lv_aload_n hx hb dX6_notes_38 rfl (lv_at hl 0 rfl) ?_
      refine lv_dup hx hb dX6_notes_39 rfl ?_
      refine ok.getIc hO h_a (by decide) k5_5 e_8 (fun _ _ he hv kk => th_get (ci := 6) (C := RX6) (T := TX6) (N := 7) hx hb hts inX6 hown hK hH he rfl 5 (by decide) fl0 hv dX6_notes_40 kk) ?_
      refine lv_iconst (v := I 1) hx hb dX6_notes_43 (by decide) ?_
      refine lv_iadd hx hb dX6_notes_44 ?_
      refine nq_top (I_add _ _) ?_
      refine ok.putI hO h_a (by decide) k5_5 ⟨by omega, by omega⟩ (by omega) (by omega) (fun _ he hl9 kk => th_put (ci := 6) (v := .int (I (z_1 + 1))) (ty := .int) (C := RX6) (T := TX6) (N := 7) hx hb hts inX6 tyX6 tyX6_ok nmX6 hown hK hH hS h00 he rfl 5 (by decide) fl0 rfl (by decide +kernel) rfl rfl hl9 dX6_notes_45 kk) (fun σ_s_9 H locs hO hF9 hg9 hi9 ha9 hH hS => ?_)
      replace hF := hF.tu hF9 (by decide)
      have e_10 := hg9
      refine lv_iconst (v := I 1) hx hb dX6_notes_48 (by decide) ?_
      exact th_zret hx hb hr hlocks hH hS (z := 1) (by omega) ⟨hO, hF, ⟨by omega, by omega⟩, trivial⟩ dX6_notes_49
    · replace c_4 := mt (I_lt (a := z_1) (b := 8) rz_1 (show rng 8 from ⟨by decide, by decide⟩)).mpr c_4
      refine lv_iconst (v := I 0) hx hb dX6_notes_16 (by decide) ?_
      exact th_zret hx hb hr hlocks hH hS (z := 0) (by omega) ⟨hO, hF, ⟨by omega, by omega⟩, trivial⟩ dX6_notes_17

set_option maxHeartbeats 1000000 in
set_option maxRecDepth 100000 in
theorem e_notedFits (l : Launch) (G : va_G) (y : Nat → ClassId) (b0 : Nat) (σ : th_M) (E : th_E) (hO : ok y E σ) (a : Nat) (h_a : kd E a = 5) (w : Int64) : Met l yX6_notedFits wsX6_notedFits ({ frames := 2, cells := 0, slots := 0, locals := 50 }) (th_P G y b0 σ [.ref a, .long w]) (th_Qi G b0 (fun r σ1 => σ1 = σ ∧ (0 ≤ r ∧ r ≤ 1) ∧ (True))) 0 0 (th_A b0) := by
  refine Met.ofW (cc := cX6_notedFits) (maxL := 4) (ret := (some .boolean)) (by decide) rfl ?_
  intro p e s m args below meth c s₁ B hml hv
  obtain ⟨rfl, hH, hK⟩ := hv
  have hx := B.exec
  have hb := B.bytes
  have hr := B.returns
  have hts := atoms_spec (ws := wsX6_notedFits) B.pre
  have hown : s.vm.findClass RX6 = some m.cls := findClass_of_methodNamed B.named
  have hlocks := B.notSynchronized
  have h00 : b0 ≤ s.heap.size := hH.1
  have hS : va_S (th_A b0) s.heap s.heap [] := va_S.rf
  have inX6 : ∀ w ∈ wsX60, w ∈ wsX6_notedFits := by decide +kernel
  have fl0 := hts (.fieldLink RX6 46 "NestQuery$State" "notedCount" "I") (by decide +kernel)
  have fl1 := hts (.fieldLink RX6 24 "NestQuery$State" "notedThings" "[I") (by decide +kernel)
  have fl2 := hts (.initialized RX10) (by decide +kernel)
  have fl3 := hts (.static yX10_isIn) (by decide +kernel)
  have fl4 := hts (.fieldLink RX6 28 "NestQuery$State" "notedIs" "[Z") (by decide +kernel)
  have hl := lv_entry ([.ref a, .long w]) (n := 4) (Nat.le_of_ble_eq_true rfl)
  rw [lg_entry_eq]
  generalize (lg_sl ([.ref a, .long w]) ++ List.replicate (4 - (lg_sl ([.ref a, .long w])).length) Slot.unset).toArray = ls at hl ⊢
  have hl : lv_has ls 4 [(0, .ref a), (1, .long w)] := hl
  refine lv_iconst (v := I 0) hx hb dX6_notedFits_0 (by decide) ?_
  refine lv_istore_n (lv' := [(3, .int (I 0)), (0, .ref a), (1, .long w)]) hx hb dX6_notedFits_1 rfl hl (by decide) rfl (fun ls hl => ?_)
  refine th_loop (α := Int) (pc := 2) (fun x9 => (8 - x9).toNat) (fun x9 σ9 H9 l9 ls9 => σ9 = σ ∧ th_H G b0 σ9 H9 ∧ va_S (th_A b0) s.heap H9 l9 ∧ lv_has ls9 4 [(0, .ref a), (1, .long w), (3, .int (I x9))] ∧ rng x9 ∧ (0 ≤ x9) ∧ (x9 ≤ 8)) ?_ (0) σ _ _ _ ⟨rfl, hH, hS, lv_sub hl [1, 2, 0] rfl, (show rng 0 from ⟨by decide, by decide⟩), by first | omega | (dsimp only; omega), by first | omega | (dsimp only; omega)⟩
  intro x9 σ_J_13 H locs ls hI9 ihJ_13
  obtain ⟨v3q12, ex9⟩ : ∃ z, z = x9 := ⟨_, rfl⟩
  subst ex9
  obtain ⟨eJ_13, hH, hS, hl, rv3q12, J_13_0, J_13_1⟩ := hI9
  replace eJ_13 := eJ_13.symm
  subst eJ_13
  have hl : lv_has ls 4 [(0, .ref a), (1, .long w), (3, .int (I v3q12))] := hl
  have rv3q12 : rng v3q12 := rv3q12
  have J_13_0 : 0 ≤ v3q12 := J_13_0
  have J_13_1 : v3q12 ≤ 8 := J_13_1
  refine lv_iload_n hx hb dX6_notedFits_2 rfl (lv_at hl 2 rfl) ?_
  refine lv_aload_n hx hb dX6_notedFits_3 rfl (lv_at hl 0 rfl) ?_
  refine ok.getI hO h_a (by decide) k5_5 (fun _ _ he hv kk => th_get (ci := 6) (C := RX6) (T := TX6) (N := 7) hx hb hts inX6 hown hK hH he rfl 5 (by decide) fl0 hv dX6_notedFits_4 kk) (fun z_14 e_15 rz_14 lz_14 uz_14 => ?_)
  refine lv_icmp_ge (tgt := 43) hx hb dX6_notedFits_7 (by decide) (fun c_16 => ?_) (fun c_16 => ?_)
  · replace c_16 := (I_le (a := z_14) (b := v3q12) rz_14 rv3q12).mp c_16
    refine lv_iconst (v := I 1) hx hb dX6_notedFits_43 (by decide) ?_
    exact th_zret hx hb hr hlocks hH hS (z := 1) (by omega) ⟨rfl, ⟨by omega, by omega⟩, trivial⟩ dX6_notedFits_44
  · replace c_16 := mt (I_le (a := z_14) (b := v3q12) rz_14 rv3q12).mpr c_16
    refine lv_iload_n hx hb dX6_notedFits_10 rfl (lv_at hl 2 rfl) ?_
    refine lv_bipush (v := I 8) hx hb dX6_notedFits_11 (by decide) ?_
    refine lv_icmp_ge (tgt := 43) hx hb dX6_notedFits_13 (by decide) (fun c_17 => ?_) (fun c_17 => ?_)
    · replace c_17 := (I_le (a := 8) (b := v3q12) (show rng 8 from ⟨by decide, by decide⟩) rv3q12).mp c_17
      refine lv_iconst (v := I 1) hx hb dX6_notedFits_43 (by decide) ?_
      exact th_zret hx hb hr hlocks hH hS (z := 1) (by omega) ⟨rfl, ⟨by omega, by omega⟩, trivial⟩ dX6_notedFits_44
    · replace c_17 := mt (I_le (a := 8) (b := v3q12) (show rng 8 from ⟨by decide, by decide⟩) rv3q12).mpr c_17
      refine lv_lload_n hx hb dX6_notedFits_16 rfl (lv_at hl 1 rfl) ?_
      refine lv_aload_n hx hb dX6_notedFits_17 rfl (lv_at hl 0 rfl) ?_
      refine ok.getR hO h_a (by decide) k5_3 (by decide) (fun _ _ he hv kk => th_get (ci := 6) (C := RX6) (T := TX6) (N := 7) hx hb hts inX6 hown hK hH he rfl 3 (by decide) fl1 hv dX6_notedFits_18 kk) ?_
      refine lv_iload_n hx hb dX6_notedFits_21 rfl (lv_at hl 2 rfl) ?_
      refine ok_iald hx hb hK hH hO h_a (by decide) k5_3 isA1 rv3q12 (by omega) (by omega) dX6_notedFits_22 (fun z_18 ez_18 rz_18 el9 => ?_)
      refine th_calli (va_runSN (As := [.long w, .int (I z_18)]) (rest := []) ⟨hx, hb, hml, hown, hts⟩ (n_isIn l G y b0 σ E hO w z_18 (show rng z_18 from rz_18)) ⟨(va_cnB 2 hts gX6_notedFits_X10_isIn_n49 rfl rfl rfl (ml_10 hK) fl2 (by decide +kernel) ⟨Nat.le_of_ble_eq_true rfl, Nat.le_of_ble_eq_true rfl⟩), fl3, trivial⟩ (th_PS hK hH) rfl rfl hl.1 rfl (lv_room (Nat.le_of_ble_eq_true rfl)) dX6_notedFits_23 ⟨Nat.le_of_ble_eq_true rfl, Nat.le_of_ble_eq_true rfl⟩) hS (fun z_21 σ_s_20 H locs rz_21 hw_19 hH hS => ?_)
      obtain ⟨e9, bhw_19, hw_19⟩ := hw_19
      replace e9 := e9.symm
      subst e9
      refine lv_aload_n hx hb dX6_notedFits_26 rfl (lv_at hl 0 rfl) ?_
      refine ok.getR hO h_a (by decide) k5_4 (by decide) (fun _ _ he hv kk => th_get (ci := 6) (C := RX6) (T := TX6) (N := 7) hx hb hts inX6 hown hK hH he rfl 4 (by decide) fl4 hv dX6_notedFits_27 kk) ?_
      refine lv_iload_n hx hb dX6_notedFits_30 rfl (lv_at hl 2 rfl) ?_
      refine ok_zald hx hb hK hH hO h_a (by decide) k5_4 rv3q12 (by omega) (by omega) dX6_notedFits_31 (fun z_22 ez_22 rz_22 uz_22 => ?_)
      refine lv_icmp_eq (tgt := 37) hx hb dX6_notedFits_32 (by decide) (fun c_23 => ?_) (fun c_23 => ?_)
      · replace c_23 := (I_eq (a := z_21) (b := z_22) rz_21 rz_22).mp c_23
        refine lv_iinc (v := I (v3q12 + 1)) (lv' := [(3, .int (I (v3q12 + 1))), (0, .ref a), (1, .long w)]) hx hb dX6_notedFits_37 hl (k := 2) rfl (I_add _ _) (by decide) rfl (fun ls hl => ?_)
        refine lv_goto (tgt := 2) hx hb dX6_notedFits_40 (by decide) ?_
        exact ihJ_13 (v3q12 + 1) σ _ _ _ (by first | omega | (dsimp only; omega)) ⟨rfl, hH, hS, lv_sub hl [1, 2, 0] rfl, ⟨by first | omega | (dsimp only; omega), by first | omega | (dsimp only; omega)⟩, by first | omega | (dsimp only; omega), by first | omega | (dsimp only; omega)⟩
      · replace c_23 := mt (I_eq (a := z_21) (b := z_22) rz_21 rz_22).mpr c_23
        refine lv_iconst (v := I 0) hx hb dX6_notedFits_35 (by decide) ?_
        exact th_zret hx hb hr hlocks hH hS (z := 0) (by omega) ⟨rfl, ⟨by omega, by omega⟩, trivial⟩ dX6_notedFits_36

set_option maxHeartbeats 1000000 in
set_option maxRecDepth 100000 in
theorem h_addRow (l : Launch) (G : va_G) (y : Nat → ClassId) (b0 : Nat) (σ : th_M) (E : th_E) (hO : ok y E σ) (a : Nat) (h_a : kd E a = 7) (w1 : Int) (rw1 : rng w1) (l_w1 : -1 ≤ w1) (u_w1 : w1 ≤ 59) (w2 : Int) (rw2 : rng w2) (l_w2 : -1 ≤ w2) (u_w2 : w2 ≤ 59) : Met l yX3_addRow wsX3_addRow ({ frames := 0, cells := 0, slots := 0, locals := 0 }) (th_P G y b0 σ [.ref a, .int (I w1), .int (I w2)]) (th_Qv G b0 (fun σ1 => ok y E σ1 ∧ fr [7] E σ σ1 ∧ (True))) 0 0 (th_A b0) := by
  refine Met.ofW (cc := cX3_addRow) (maxL := 3) (ret := none) (by decide) rfl ?_
  intro p e s m args below meth c s₁ B hml hv
  obtain ⟨rfl, hH, hK⟩ := hv
  have hx := B.exec
  have hb := B.bytes
  have hr := B.returns
  have hts := atoms_spec (ws := wsX3_addRow) B.pre
  have hown : s.vm.findClass RX3 = some m.cls := findClass_of_methodNamed B.named
  have hlocks := B.notSynchronized
  have h00 : b0 ≤ s.heap.size := hH.1
  have hS : va_S (th_A b0) s.heap s.heap [] := va_S.rf
  have hF : fr [7] E σ σ := fr.rf
  have inX3 : ∀ w ∈ wsX30, w ∈ wsX3_addRow := by decide +kernel
  have fl0 := hts (.fieldLink RX3 34 "NestQuery$Patch" "rowCount" "I") (by decide +kernel)
  have fl1 := hts (.fieldLink RX3 23 "NestQuery$Patch" "rowFrom" "[I") (by decide +kernel)
  have fl2 := hts (.fieldLink RX3 27 "NestQuery$Patch" "rowTo" "[I") (by decide +kernel)
  have hl := lv_entry ([.ref a, .int (I w1), .int (I w2)]) (n := 3) (Nat.le_of_ble_eq_true rfl)
  rw [lg_entry_eq]
  generalize (lg_sl ([.ref a, .int (I w1), .int (I w2)]) ++ List.replicate (3 - (lg_sl ([.ref a, .int (I w1), .int (I w2)])).length) Slot.unset).toArray = ls at hl ⊢
  have hl : lv_has ls 3 [(0, .ref a), (1, .int (I w1)), (2, .int (I w2))] := hl
  refine lv_aload_n hx hb dX3_addRow_0 rfl (lv_at hl 0 rfl) ?_
  refine ok.getI hO h_a (by decide) k7_4 (fun _ _ he hv kk => th_get (ci := 3) (C := RX3) (T := TX3) (N := 5) hx hb hts inX3 hown hK hH he rfl 4 (by decide) fl0 hv dX3_addRow_1 kk) (fun z_1 e_2 rz_1 lz_1 uz_1 => ?_)
  refine lv_if_lt (tgt := 46) hx hb dX3_addRow_4 (by decide) (fun c_3 => ?_) (fun c_3 => ?_)
  · replace c_3 := (I_lt (a := z_1) (b := 0) rz_1 (show rng 0 from ⟨by decide, by decide⟩)).mp c_3
    exact th_vret hx hb hr hlocks hH hS ⟨hO, hF, trivial⟩ dX3_addRow_46
  · replace c_3 := mt (I_lt (a := z_1) (b := 0) rz_1 (show rng 0 from ⟨by decide, by decide⟩)).mpr c_3
    refine lv_aload_n hx hb dX3_addRow_7 rfl (lv_at hl 0 rfl) ?_
    refine ok.getIc hO h_a (by decide) k7_4 e_2 (fun _ _ he hv kk => th_get (ci := 3) (C := RX3) (T := TX3) (N := 5) hx hb hts inX3 hown hK hH he rfl 4 (by decide) fl0 hv dX3_addRow_8 kk) ?_
    refine lv_bipush (v := I 120) hx hb dX3_addRow_11 (by decide) ?_
    refine lv_icmp_ge (tgt := 46) hx hb dX3_addRow_13 (by decide) (fun c_4 => ?_) (fun c_4 => ?_)
    · replace c_4 := (I_le (a := 120) (b := z_1) (show rng 120 from ⟨by decide, by decide⟩) rz_1).mp c_4
      exact th_vret hx hb hr hlocks hH hS ⟨hO, hF, trivial⟩ dX3_addRow_46
    · replace c_4 := mt (I_le (a := 120) (b := z_1) (show rng 120 from ⟨by decide, by decide⟩) rz_1).mpr c_4
      refine lv_aload_n hx hb dX3_addRow_16 rfl (lv_at hl 0 rfl) ?_
      refine ok.getR hO h_a (by decide) k7_2 (by decide) (fun _ _ he hv kk => th_get (ci := 3) (C := RX3) (T := TX3) (N := 5) hx hb hts inX3 hown hK hH he rfl 2 (by decide) fl1 hv dX3_addRow_17 kk) ?_
      refine lv_aload_n hx hb dX3_addRow_20 rfl (lv_at hl 0 rfl) ?_
      refine ok.getIc hO h_a (by decide) k7_4 e_2 (fun _ _ he hv kk => th_get (ci := 3) (C := RX3) (T := TX3) (N := 5) hx hb hts inX3 hown hK hH he rfl 4 (by decide) fl0 hv dX3_addRow_21 kk) ?_
      refine lv_iload_n hx hb dX3_addRow_24 rfl (lv_at hl 1 rfl) ?_
      refine ok_iast hx hb hK hH hS h00 hO h_a (by decide) k7_2 isA10 rz_1 (by omega) (by omega) rw1 (el10 (by omega) (by omega)) dX3_addRow_25 (fun σ_s_5 H locs hO hF9 hi9 ha9 hH hS => ?_)
      replace hF := hF.tu hF9 (by decide)
      have e_6 : gI σ_s_5 a 4 = z_1 := (hi9 _ _).trans e_2
      refine lv_aload_n hx hb dX3_addRow_26 rfl (lv_at hl 0 rfl) ?_
      refine ok.getR hO h_a (by decide) k7_3 (by decide) (fun _ _ he hv kk => th_get (ci := 3) (C := RX3) (T := TX3) (N := 5) hx hb hts inX3 hown hK hH he rfl 3 (by decide) fl2 hv dX3_addRow_27 kk) ?_
      refine lv_aload_n hx hb dX3_addRow_30 rfl (lv_at hl 0 rfl) ?_
      refine ok.getIc hO h_a (by decide) k7_4 e_6 (fun _ _ he hv kk => th_get (ci := 3) (C := RX3) (T := TX3) (N := 5) hx hb hts inX3 hown hK hH he rfl 4 (by decide) fl0 hv dX3_addRow_31 kk) ?_
      refine lv_iload_n hx hb dX3_addRow_34 rfl (lv_at hl 2 rfl) ?_
      refine ok_iast hx hb hK hH hS h00 hO h_a (by decide) k7_3 isA10 rz_1 (by omega) (by omega) rw2 (el10 (by omega) (by omega)) dX3_addRow_35 (fun σ_s_7 H locs hO hF9 hi9 ha9 hH hS => ?_)
      replace hF := hF.tu hF9 (by decide)
      have e_8 : gI σ_s_7 a 4 = z_1 := (hi9 _ _).trans e_6
      refine lv_aload_n hx hb dX3_addRow_36 rfl (lv_at hl 0 rfl) ?_
      refine lv_dup hx hb dX3_addRow_37 rfl ?_
      refine ok.getIc hO h_a (by decide) k7_4 e_8 (fun _ _ he hv kk => th_get (ci := 3) (C := RX3) (T := TX3) (N := 5) hx hb hts inX3 hown hK hH he rfl 4 (by decide) fl0 hv dX3_addRow_38 kk) ?_
      refine lv_iconst (v := I 1) hx hb dX3_addRow_41 (by decide) ?_
      refine lv_iadd hx hb dX3_addRow_42 ?_
      refine nq_top (I_add _ _) ?_
      refine ok.putI hO h_a (by decide) k7_4 ⟨by omega, by omega⟩ (by omega) (by omega) (fun _ he hl9 kk => th_put (ci := 3) (v := .int (I (z_1 + 1))) (ty := .int) (C := RX3) (T := TX3) (N := 5) hx hb hts inX3 tyX3 tyX3_ok nmX3 hown hK hH hS h00 he rfl 4 (by decide) fl0 rfl (by decide +kernel) rfl rfl hl9 dX3_addRow_43 kk) (fun σ_s_9 H locs hO hF9 hg9 hi9 ha9 hH hS => ?_)
      replace hF := hF.tu hF9 (by decide)
      have e_10 := hg9
      exact th_vret hx hb hr hlocks hH hS ⟨hO, hF, trivial⟩ dX3_addRow_46

set_option maxHeartbeats 1000000 in
set_option maxRecDepth 100000 in
theorem h_rowsOfMaps (n : Nat) (ih : ∀ (l : Launch) (G : va_G) (y : Nat → ClassId) (b0 : Nat) (σ : th_M) (E : th_E) (hO : ok y E σ) (a : Nat) (h_a : kd E a = 7) (w1 : Int) (rw1 : rng w1) (l_w1 : -1 ≤ w1) (u_w1 : w1 ≤ 59) (w2 : Int) (rw2 : rng w2) (l_w2 : -1 ≤ w2) (u_w2 : w2 ≤ 59) (lv : Int) (rlv : rng lv) (l_lv : 0 ≤ lv) (u_lv : lv ≤ 17) (hn : (17 - lv).toNat < n), Met l yX3_rowsOf wsX3_rowsOf ({ frames := 4*n+70, cells := 0, slots := 0, locals := (120*n+2000) }) (th_P G y b0 σ [.ref a, .int (I w1), .int (I w2), .int (I lv)]) (th_Qv G b0 (fun σ1 => ok y E σ1 ∧ fr [7] E σ σ1 ∧ (True))) 0 0 (th_A b0)) (l : Launch) (G : va_G) (y : Nat → ClassId) (b0 : Nat) (σ : th_M) (E : th_E) (hO : ok y E σ) (a : Nat) (h_a : kd E a = 7) (w1 : Int) (rw1 : rng w1) (l_w1 : -1 ≤ w1) (u_w1 : w1 ≤ 59) (w2 : Int) (rw2 : rng w2) (l_w2 : -1 ≤ w2) (u_w2 : w2 ≤ 59) (lv : Int) (rlv : rng lv) (l_lv : 0 ≤ lv) (u_lv : lv ≤ 16) (hy0 : (17 - lv).toNat < n + 1) : Met l yX3_rowsOfMaps wsX3_rowsOfMaps ({ frames := 4*n+72, cells := 0, slots := 0, locals := (120*n+2050) }) (th_P G y b0 σ [.ref a, .int (I w1), .int (I w2), .int (I lv)]) (th_Qv G b0 (fun σ1 => ok y E σ1 ∧ fr [7] E σ σ1 ∧ (True))) 0 0 (th_A b0) := by
  refine Met.ofW (cc := cX3_rowsOfMaps) (maxL := 8) (ret := none) (by decide) rfl ?_
  intro p e s m args below meth c s₁ B hml hv
  obtain ⟨rfl, hH, hK⟩ := hv
  have hx := B.exec
  have hb := B.bytes
  have hr := B.returns
  have hts := atoms_spec (ws := wsX3_rowsOfMaps) B.pre
  have hown : s.vm.findClass RX3 = some m.cls := findClass_of_methodNamed B.named
  have hlocks := B.notSynchronized
  have h00 : b0 ≤ s.heap.size := hH.1
  have hS : va_S (th_A b0) s.heap s.heap [] := va_S.rf
  have hF : fr [7] E σ σ := fr.rf
  have inX3 : ∀ w ∈ wsX30, w ∈ wsX3_rowsOfMaps := by decide +kernel
  have fl0 := hts (.fieldLink RX3 14 "NestQuery$Patch" "from" "LNestQuery$Tree;") (by decide +kernel)
  have fl1 := hts (.fieldLink RX3 20 "NestQuery$Patch" "to" "LNestQuery$Tree;") (by decide +kernel)
  have hl := lv_entry ([.ref a, .int (I w1), .int (I w2), .int (I lv)]) (n := 8) (Nat.le_of_ble_eq_true rfl)
  rw [lg_entry_eq]
  generalize (lg_sl ([.ref a, .int (I w1), .int (I w2), .int (I lv)]) ++ List.replicate (8 - (lg_sl ([.ref a, .int (I w1), .int (I w2), .int (I lv)])).length) Slot.unset).toArray = ls at hl ⊢
  have hl : lv_has ls 8 [(0, .ref a), (1, .int (I w1)), (2, .int (I w2)), (3, .int (I lv))] := hl
  refine lv_aload_n hx hb dX3_rowsOfMaps_0 rfl (lv_at hl 0 rfl) ?_
  have hp_1 : kd E (ad E a 0) = 1 := ok.pk hO h_a (by decide) k7_0 rfl
  refine ok.getR hO h_a (by decide) k7_0 (by decide) (fun _ _ he hv kk => th_get (ci := 3) (C := RX3) (T := TX3) (N := 5) hx hb hts inX3 hown hK hH he rfl 0 (by decide) fl0 hv dX3_rowsOfMaps_1 kk) ?_
  refine lv_iload_n hx hb dX3_rowsOfMaps_4 rfl (lv_at hl 1 rfl) ?_
  obtain ⟨z_2, e_3, rz_2, lz_2, uz_2⟩ := hO.gi hp_1 (by decide) k1_4
  obtain ⟨_, hc_4⟩ := hO.cell hp_1 (by decide) (ci := 9) rfl
  refine th_calli (va_runV (As := [.int (I w1)]) (rest := []) ⟨hx, hb, hml, hown, hts⟩ (t_childCount l G y b0 σ (ad E a 0) (tvE E σ (ad E a 0) 60) w1 (hO.isT1 hp_1) (show rng w1 from rw1)) (cwV 1 hts gX3_rowsOfMaps_X9_childCount rfl rfl rfl (by decide +kernel) ⟨(by first | (simp only [headSpec]; omega) | omega | (dsimp only; omega)), (by first | (simp only [headSpec]; omega) | omega | (dsimp only; omega))⟩) (th_PV hK hH rfl hc_4) rfl rfl hl.1 rfl (lv_room (Nat.le_of_ble_eq_true rfl)) dX3_rowsOfMaps_5 ⟨(by first | (simp only [headSpec]; omega) | omega | (dsimp only; omega)), (by first | (simp only [headSpec]; omega) | omega | (dsimp only; omega))⟩) hS (fun z_7 σ_s_6 H locs rz_7 hw_5 hH hS => ?_)
  obtain ⟨e9, hw_5⟩ := hw_5
  replace e9 := e9.symm
  subst e9
  have hw_5 : 0 ≤ z_7 ∧ z_7 ≤ (gI σ (ad E a 0) 4) := hw_5
  refine lv_istore (lv' := [(4, .int (I z_7)), (0, .ref a), (1, .int (I w1)), (2, .int (I w2)), (3, .int (I lv))]) hx hb dX3_rowsOfMaps_8 hl (by decide) rfl (fun ls hl => ?_)
  refine lv_iconst (v := I 0) hx hb dX3_rowsOfMaps_10 (by decide) ?_
  refine lv_istore (lv' := [(5, .int (I 0)), (4, .int (I z_7)), (0, .ref a), (1, .int (I w1)), (2, .int (I w2)), (3, .int (I lv))]) hx hb dX3_rowsOfMaps_11 hl (by decide) rfl (fun ls hl => ?_)
  refine th_loop (α := Int) (pc := 13) (fun x9 => (128 - x9).toNat) (fun x9 σ9 H9 l9 ls9 => ok y E σ9 ∧ fr [7] E σ σ9 ∧ th_H G b0 σ9 H9 ∧ va_S (th_A b0) s.heap H9 l9 ∧ lv_has ls9 8 [(0, .ref a), (1, .int (I w1)), (2, .int (I w2)), (3, .int (I lv)), (4, .int (I z_7)), (5, .int (I x9))] ∧ rng x9 ∧ (0 ≤ x9) ∧ (x9 ≤ 128) ∧ (gI σ9 (ad E a 0) 4 = z_2)) ?_ (0) σ _ _ _ ⟨hO, hF, hH, hS, lv_sub hl [2, 3, 4, 5, 1, 0] rfl, (show rng 0 from ⟨by decide, by decide⟩), by first | omega | (dsimp only; omega), by first | omega | (dsimp only; omega), e_3⟩
  intro x9 σ_J_37 H locs ls hI9 ihJ_37
  obtain ⟨v5q36, ex9⟩ : ∃ z, z = x9 := ⟨_, rfl⟩
  subst ex9
  obtain ⟨hO, hF, hH, hS, hl, rv5q36, J_37_0, J_37_1, J_37_2⟩ := hI9
  have hl : lv_has ls 8 [(0, .ref a), (1, .int (I w1)), (2, .int (I w2)), (3, .int (I lv)), (4, .int (I z_7)), (5, .int (I v5q36))] := hl
  have rv5q36 : rng v5q36 := rv5q36
  have J_37_0 : 0 ≤ v5q36 := J_37_0
  have J_37_1 : v5q36 ≤ 128 := J_37_1
  have J_37_2 : gI σ_J_37 (ad E a 0) 4 = z_2 := J_37_2
  refine lv_iload hx hb dX3_rowsOfMaps_13 (lv_at hl 5 rfl) ?_
  refine lv_iload hx hb dX3_rowsOfMaps_15 (lv_at hl 4 rfl) ?_
  refine lv_icmp_ge (tgt := 84) hx hb dX3_rowsOfMaps_17 (by decide) (fun c_38 => ?_) (fun c_38 => ?_)
  · replace c_38 := (I_le (a := z_7) (b := v5q36) rz_7 rv5q36).mp c_38
    refine lv_aload_n hx hb dX3_rowsOfMaps_84 rfl (lv_at hl 0 rfl) ?_
    have hp_39 : kd E (ad E a 1) = 1 := ok.pk hO h_a (by decide) k7_1 rfl
    refine ok.getR hO h_a (by decide) k7_1 (by decide) (fun _ _ he hv kk => th_get (ci := 3) (C := RX3) (T := TX3) (N := 5) hx hb hts inX3 hown hK hH he rfl 1 (by decide) fl1 hv dX3_rowsOfMaps_85 kk) ?_
    refine lv_iload_n hx hb dX3_rowsOfMaps_88 rfl (lv_at hl 2 rfl) ?_
    obtain ⟨z_40, e_41, rz_40, lz_40, uz_40⟩ := hO.gi hp_39 (by decide) k1_4
    obtain ⟨_, hc_42⟩ := hO.cell hp_39 (by decide) (ci := 9) rfl
    refine th_calli (va_runV (As := [.int (I w2)]) (rest := []) ⟨hx, hb, hml, hown, hts⟩ (t_childCount l G y b0 σ_J_37 (ad E a 1) (tvE E σ_J_37 (ad E a 1) 60) w2 (hO.isT1 hp_39) (show rng w2 from rw2)) (cwV 1 hts gX3_rowsOfMaps_X9_childCount rfl rfl rfl (by decide +kernel) ⟨(by first | (simp only [headSpec]; omega) | omega | (dsimp only; omega)), (by first | (simp only [headSpec]; omega) | omega | (dsimp only; omega))⟩) (th_PV hK hH rfl hc_42) rfl rfl hl.1 rfl (lv_room (Nat.le_of_ble_eq_true rfl)) dX3_rowsOfMaps_89 ⟨(by first | (simp only [headSpec]; omega) | omega | (dsimp only; omega)), (by first | (simp only [headSpec]; omega) | omega | (dsimp only; omega))⟩) hS (fun z_45 σ_s_44 H locs rz_45 hw_43 hH hS => ?_)
    obtain ⟨e9, hw_43⟩ := hw_43
    replace e9 := e9.symm
    subst e9
    have hw_43 : 0 ≤ z_45 ∧ z_45 ≤ (gI σ_J_37 (ad E a 1) 4) := hw_43
    refine lv_istore (lv' := [(5, .int (I z_45)), (0, .ref a), (1, .int (I w1)), (2, .int (I w2)), (3, .int (I lv)), (4, .int (I z_7))]) hx hb dX3_rowsOfMaps_92 hl (by decide) rfl (fun ls hl => ?_)
    refine lv_iconst (v := I 0) hx hb dX3_rowsOfMaps_94 (by decide) ?_
    refine lv_istore (lv' := [(6, .int (I 0)), (5, .int (I z_45)), (0, .ref a), (1, .int (I w1)), (2, .int (I w2)), (3, .int (I lv)), (4, .int (I z_7))]) hx hb dX3_rowsOfMaps_95 hl (by decide) rfl (fun ls hl => ?_)
    replace hl : lv_has ls 8 [(6, .int (I 0)), (5, .int (I z_45)), (0, .ref a), (1, .int (I w1)), (2, .int (I w2))] := lv_sub hl [0, 1, 2, 3, 4] rfl
    refine th_loop (α := Int) (pc := 97) (fun x9 => (128 - x9).toNat) (fun x9 σ9 H9 l9 ls9 => ok y E σ9 ∧ fr [7] E σ σ9 ∧ th_H G b0 σ9 H9 ∧ va_S (th_A b0) s.heap H9 l9 ∧ lv_has ls9 8 [(0, .ref a), (1, .int (I w1)), (2, .int (I w2)), (5, .int (I z_45)), (6, .int (I x9))] ∧ rng x9 ∧ (0 ≤ x9) ∧ (x9 ≤ 128) ∧ (gI σ9 (ad E a 0) 4 = z_2) ∧ (gI σ9 (ad E a 1) 4 = z_40)) ?_ (0) σ_J_37 _ _ _ ⟨hO, hF, hH, hS, lv_sub hl [2, 3, 4, 1, 0] rfl, (show rng 0 from ⟨by decide, by decide⟩), by first | omega | (dsimp only; omega), by first | omega | (dsimp only; omega), J_37_2, e_41⟩
    intro x9 σ_J_67 H locs ls hI9 ihJ_67
    obtain ⟨v6q66, ex9⟩ : ∃ z, z = x9 := ⟨_, rfl⟩
    subst ex9
    obtain ⟨hO, hF, hH, hS, hl, rv6q66, J_67_0, J_67_1, J_67_2, J_67_3⟩ := hI9
    have hl : lv_has ls 8 [(0, .ref a), (1, .int (I w1)), (2, .int (I w2)), (5, .int (I z_45)), (6, .int (I v6q66))] := hl
    have rv6q66 : rng v6q66 := rv6q66
    have J_67_0 : 0 ≤ v6q66 := J_67_0
    have J_67_1 : v6q66 ≤ 128 := J_67_1
    have J_67_2 : gI σ_J_67 (ad E a 0) 4 = z_2 := J_67_2
    have J_67_3 : gI σ_J_67 (ad E a 1) 4 = z_40 := J_67_3
    refine lv_iload hx hb dX3_rowsOfMaps_97 (lv_at hl 4 rfl) ?_
    refine lv_iload hx hb dX3_rowsOfMaps_99 (lv_at hl 3 rfl) ?_
    refine lv_icmp_ge (tgt := 150) hx hb dX3_rowsOfMaps_101 (by decide) (fun c_68 => ?_) (fun c_68 => ?_)
    · replace c_68 := (I_le (a := z_45) (b := v6q66) rz_45 rv6q66).mp c_68
      exact th_vret hx hb hr hlocks hH hS ⟨hO, hF, trivial⟩ dX3_rowsOfMaps_150
    · replace c_68 := mt (I_le (a := z_45) (b := v6q66) rz_45 rv6q66).mpr c_68
      refine lv_aload_n hx hb dX3_rowsOfMaps_104 rfl (lv_at hl 0 rfl) ?_
      refine ok.getR hO h_a (by decide) k7_1 (by decide) (fun _ _ he hv kk => th_get (ci := 3) (C := RX3) (T := TX3) (N := 5) hx hb hts inX3 hown hK hH he rfl 1 (by decide) fl1 hv dX3_rowsOfMaps_105 kk) ?_
      refine lv_iload_n hx hb dX3_rowsOfMaps_108 rfl (lv_at hl 2 rfl) ?_
      refine lv_iload hx hb dX3_rowsOfMaps_109 (lv_at hl 4 rfl) ?_
      obtain ⟨_, hc_69⟩ := hO.cell hp_39 (by decide) (ci := 9) rfl
      refine th_calli (va_runV (As := [.int (I w2), .int (I v6q66)]) (rest := []) ⟨hx, hb, hml, hown, hts⟩ (t_childAt l G y b0 σ_J_67 (ad E a 1) (tvE E σ_J_67 (ad E a 1) 60) w2 v6q66 (hO.isT1 hp_39) (show rng w2 from rw2) (show rng v6q66 from rv6q66)) (cwV 2 hts gX3_rowsOfMaps_X9_childAt rfl rfl rfl (by decide +kernel) ⟨(by first | (simp only [headSpec]; omega) | omega | (dsimp only; omega)), (by first | (simp only [headSpec]; omega) | omega | (dsimp only; omega))⟩) (th_PV hK hH rfl hc_69) rfl rfl hl.1 rfl (lv_room (Nat.le_of_ble_eq_true rfl)) dX3_rowsOfMaps_111 ⟨(by first | (simp only [headSpec]; omega) | omega | (dsimp only; omega)), (by first | (simp only [headSpec]; omega) | omega | (dsimp only; omega))⟩) hS (fun z_72 σ_s_71 H locs rz_72 hw_70 hH hS => ?_)
      obtain ⟨e9, hw_70⟩ := hw_70
      replace e9 := e9.symm
      subst e9
      have hw_70 : z_72 = -1 ∨ (0 ≤ w2 ∧ w2 < z_72 ∧ z_72 < (gI σ_J_67 (ad E a 1) 4)) := hw_70
      refine lv_istore (lv' := [(7, .int (I z_72)), (0, .ref a), (1, .int (I w1)), (2, .int (I w2)), (5, .int (I z_45)), (6, .int (I v6q66))]) hx hb dX3_rowsOfMaps_114 hl (by decide) rfl (fun ls hl => ?_)
      refine lv_aload_n hx hb dX3_rowsOfMaps_116 rfl (lv_at hl 1 rfl) ?_
      refine ok.getR hO h_a (by decide) k7_0 (by decide) (fun _ _ he hv kk => th_get (ci := 3) (C := RX3) (T := TX3) (N := 5) hx hb hts inX3 hown hK hH he rfl 0 (by decide) fl0 hv dX3_rowsOfMaps_117 kk) ?_
      refine lv_iload_n hx hb dX3_rowsOfMaps_120 rfl (lv_at hl 2 rfl) ?_
      refine lv_aload_n hx hb dX3_rowsOfMaps_121 rfl (lv_at hl 1 rfl) ?_
      refine ok.getR hO h_a (by decide) k7_1 (by decide) (fun _ _ he hv kk => th_get (ci := 3) (C := RX3) (T := TX3) (N := 5) hx hb hts inX3 hown hK hH he rfl 1 (by decide) fl1 hv dX3_rowsOfMaps_122 kk) ?_
      refine lv_iload hx hb dX3_rowsOfMaps_125 (lv_at hl 0 rfl) ?_
      obtain ⟨_, hc_73⟩ := hO.cell hp_39 (by decide) (ci := 9) rfl
      refine th_calli (va_runV (As := [.int (I z_72)]) (rest := [.int (I w1), .ref (ad E a 0)]) ⟨hx, hb, hml, hown, hts⟩ (t_keyAt l G y b0 σ_J_67 (ad E a 1) (tvE E σ_J_67 (ad E a 1) 60) z_72 (hO.isT1 hp_39) (show rng z_72 from rz_72)) (cwV 1 hts gX3_rowsOfMaps_X9_keyAt rfl rfl rfl (by decide +kernel) ⟨(by first | (simp only [headSpec]; omega) | omega | (dsimp only; omega)), (by first | (simp only [headSpec]; omega) | omega | (dsimp only; omega))⟩) (th_PV hK hH rfl hc_73) rfl rfl hl.1 rfl (lv_room (Nat.le_of_ble_eq_true rfl)) dX3_rowsOfMaps_127 ⟨(by first | (simp only [headSpec]; omega) | omega | (dsimp only; omega)), (by first | (simp only [headSpec]; omega) | omega | (dsimp only; omega))⟩) hS (fun z_76 σ_s_75 H locs rz_76 hw_74 hH hS => ?_)
      obtain ⟨e9, hw_74⟩ := hw_74
      replace e9 := e9.symm
      subst e9
      obtain ⟨_, hc_77⟩ := hO.cell hp_1 (by decide) (ci := 9) rfl
      refine th_calli (va_runV (As := [.int (I w1), .int (I z_76)]) (rest := []) ⟨hx, hb, hml, hown, hts⟩ (t_childBy l G y b0 σ_J_67 (ad E a 0) (tvE E σ_J_67 (ad E a 0) 60) w1 z_76 (hO.isT1 hp_1) (show rng w1 from rw1) (show rng z_76 from rz_76)) (cwV 2 hts gX3_rowsOfMaps_X9_childBy rfl rfl rfl (by decide +kernel) ⟨(by first | (simp only [headSpec]; omega) | omega | (dsimp only; omega)), (by first | (simp only [headSpec]; omega) | omega | (dsimp only; omega))⟩) (th_PV hK hH rfl hc_77) rfl rfl hl.1 rfl (lv_room (Nat.le_of_ble_eq_true rfl)) dX3_rowsOfMaps_130 ⟨(by first | (simp only [headSpec]; omega) | omega | (dsimp only; omega)), (by first | (simp only [headSpec]; omega) | omega | (dsimp only; omega))⟩) hS (fun z_80 σ_s_79 H locs rz_80 hw_78 hH hS => ?_)
      obtain ⟨e9, hw_78⟩ := hw_78
      replace e9 := e9.symm
      subst e9
      have hw_78 : z_80 = -1 ∨ (0 ≤ w1 ∧ w1 < z_80 ∧ z_80 < (gI σ_J_67 (ad E a 0) 4)) := hw_78
      refine lv_iconst (v := I (-1)) hx hb dX3_rowsOfMaps_133 (by decide) ?_
      refine lv_icmp_ne (tgt := 144) hx hb dX3_rowsOfMaps_134 (by decide) (fun c_81 => ?_) (fun c_81 => ?_)
      · replace c_81 := mt (I_eq (a := z_80) (b := (-1)) rz_80 (show rng (-1) from ⟨by decide, by decide⟩)).mpr c_81
        refine lv_iinc (v := I (v6q66 + 1)) (lv' := [(6, .int (I (v6q66 + 1))), (7, .int (I z_72)), (0, .ref a), (1, .int (I w1)), (2, .int (I w2)), (5, .int (I z_45))]) hx hb dX3_rowsOfMaps_144 hl (k := 5) rfl (I_add _ _) (by decide) rfl (fun ls hl => ?_)
        refine lv_goto (tgt := 97) hx hb dX3_rowsOfMaps_147 (by decide) ?_
        replace hl : lv_has ls 8 [(6, .int (I (v6q66 + 1))), (0, .ref a), (1, .int (I w1)), (2, .int (I w2)), (5, .int (I z_45))] := lv_sub hl [0, 2, 3, 4, 5] rfl
        exact ihJ_67 (v6q66 + 1) σ_J_67 _ _ _ (by first | omega | (dsimp only; omega)) ⟨hO, hF, hH, hS, lv_sub hl [1, 2, 3, 4, 0] rfl, ⟨by first | omega | (dsimp only; omega), by first | omega | (dsimp only; omega)⟩, by first | omega | (dsimp only; omega), by first | omega | (dsimp only; omega), J_67_2, J_67_3⟩
      · replace c_81 := (I_eq (a := z_80) (b := (-1)) rz_80 (show rng (-1) from ⟨by decide, by decide⟩)).mp c_81
        refine lv_aload_n hx hb dX3_rowsOfMaps_137 rfl (lv_at hl 1 rfl) ?_
        refine lv_iconst (v := I (-1)) hx hb dX3_rowsOfMaps_138 (by decide) ?_
        refine lv_iload hx hb dX3_rowsOfMaps_139 (lv_at hl 0 rfl) ?_
        obtain ⟨_, hc_82⟩ := hO.cell h_a (by decide) (ci := 3) rfl
        refine th_callv (va_runV (As := [.int (I (-1)), .int (I z_72)]) (rest := []) ⟨hx, hb, hml, hown, hts⟩ (h_addRow l G y b0 σ_J_67 E hO a h_a (-1) (show rng (-1) from (show rng (-1) from ⟨by decide, by decide⟩)) (by omega) (by omega) z_72 (show rng z_72 from rz_72) (by omega) (by omega)) (cwV 2 hts gX3_rowsOfMaps_X3_addRow rfl rfl rfl (by decide +kernel) ⟨(by first | (simp only [headSpec]; omega) | omega | (dsimp only; omega)), (by first | (simp only [headSpec]; omega) | omega | (dsimp only; omega))⟩) (th_PV hK hH rfl hc_82) rfl rfl hl.1 rfl (lv_room (Nat.le_of_ble_eq_true rfl)) dX3_rowsOfMaps_141 ⟨(by first | (simp only [headSpec]; omega) | omega | (dsimp only; omega)), (by first | (simp only [headSpec]; omega) | omega | (dsimp only; omega))⟩) hS (fun σ_s_84 H locs hw_83 hH hS => ?_)
        obtain ⟨hO9, hF9, hw_83⟩ := hw_83
        have e_85 : gI σ_s_84 (ad E a 0) 4 = z_2 := (fr.ki hO hF9 hp_1 (by decide) (by decide) _).trans J_67_2
        have e_86 : gI σ_s_84 (ad E a 1) 4 = z_40 := (fr.ki hO hF9 hp_39 (by decide) (by decide) _).trans J_67_3
        replace hO := hO9
        replace hF := hF.tu hF9 (by decide)
        refine lv_iinc (v := I (v6q66 + 1)) (lv' := [(6, .int (I (v6q66 + 1))), (7, .int (I z_72)), (0, .ref a), (1, .int (I w1)), (2, .int (I w2)), (5, .int (I z_45))]) hx hb dX3_rowsOfMaps_144 hl (k := 5) rfl (I_add _ _) (by decide) rfl (fun ls hl => ?_)
        refine lv_goto (tgt := 97) hx hb dX3_rowsOfMaps_147 (by decide) ?_
        replace hl : lv_has ls 8 [(6, .int (I (v6q66 + 1))), (0, .ref a), (1, .int (I w1)), (2, .int (I w2)), (5, .int (I z_45))] := lv_sub hl [0, 2, 3, 4, 5] rfl
        exact ihJ_67 (v6q66 + 1) σ_s_84 _ _ _ (by first | omega | (dsimp only; omega)) ⟨hO, hF, hH, hS, lv_sub hl [1, 2, 3, 4, 0] rfl, ⟨by first | omega | (dsimp only; omega), by first | omega | (dsimp only; omega)⟩, by first | omega | (dsimp only; omega), by first | omega | (dsimp only; omega), e_85, e_86⟩
  · replace c_38 := mt (I_le (a := z_7) (b := v5q36) rz_7 rv5q36).mpr c_38
    refine lv_aload_n hx hb dX3_rowsOfMaps_20 rfl (lv_at hl 0 rfl) ?_
    refine ok.getR hO h_a (by decide) k7_0 (by decide) (fun _ _ he hv kk => th_get (ci := 3) (C := RX3) (T := TX3) (N := 5) hx hb hts inX3 hown hK hH he rfl 0 (by decide) fl0 hv dX3_rowsOfMaps_21 kk) ?_
    refine lv_iload_n hx hb dX3_rowsOfMaps_24 rfl (lv_at hl 1 rfl) ?_
    refine lv_iload hx hb dX3_rowsOfMaps_25 (lv_at hl 5 rfl) ?_
    obtain ⟨_, hc_87⟩ := hO.cell hp_1 (by decide) (ci := 9) rfl
    refine th_calli (va_runV (As := [.int (I w1), .int (I v5q36)]) (rest := []) ⟨hx, hb, hml, hown, hts⟩ (t_childAt l G y b0 σ_J_37 (ad E a 0) (tvE E σ_J_37 (ad E a 0) 60) w1 v5q36 (hO.isT1 hp_1) (show rng w1 from rw1) (show rng v5q36 from rv5q36)) (cwV 2 hts gX3_rowsOfMaps_X9_childAt rfl rfl rfl (by decide +kernel) ⟨(by first | (simp only [headSpec]; omega) | omega | (dsimp only; omega)), (by first | (simp only [headSpec]; omega) | omega | (dsimp only; omega))⟩) (th_PV hK hH rfl hc_87) rfl rfl hl.1 rfl (lv_room (Nat.le_of_ble_eq_true rfl)) dX3_rowsOfMaps_27 ⟨(by first | (simp only [headSpec]; omega) | omega | (dsimp only; omega)), (by first | (simp only [headSpec]; omega) | omega | (dsimp only; omega))⟩) hS (fun z_90 σ_s_89 H locs rz_90 hw_88 hH hS => ?_)
    obtain ⟨e9, hw_88⟩ := hw_88
    replace e9 := e9.symm
    subst e9
    have hw_88 : z_90 = -1 ∨ (0 ≤ w1 ∧ w1 < z_90 ∧ z_90 < (gI σ_J_37 (ad E a 0) 4)) := hw_88
    refine lv_istore (lv' := [(6, .int (I z_90)), (0, .ref a), (1, .int (I w1)), (2, .int (I w2)), (3, .int (I lv)), (4, .int (I z_7)), (5, .int (I v5q36))]) hx hb dX3_rowsOfMaps_30 hl (by decide) rfl (fun ls hl => ?_)
    refine lv_aload_n hx hb dX3_rowsOfMaps_32 rfl (lv_at hl 1 rfl) ?_
    have hp_91 : kd E (ad E a 1) = 1 := ok.pk hO h_a (by decide) k7_1 rfl
    refine ok.getR hO h_a (by decide) k7_1 (by decide) (fun _ _ he hv kk => th_get (ci := 3) (C := RX3) (T := TX3) (N := 5) hx hb hts inX3 hown hK hH he rfl 1 (by decide) fl1 hv dX3_rowsOfMaps_33 kk) ?_
    refine lv_iload_n hx hb dX3_rowsOfMaps_36 rfl (lv_at hl 3 rfl) ?_
    refine lv_aload_n hx hb dX3_rowsOfMaps_37 rfl (lv_at hl 1 rfl) ?_
    refine ok.getR hO h_a (by decide) k7_0 (by decide) (fun _ _ he hv kk => th_get (ci := 3) (C := RX3) (T := TX3) (N := 5) hx hb hts inX3 hown hK hH he rfl 0 (by decide) fl0 hv dX3_rowsOfMaps_38 kk) ?_
    refine lv_iload hx hb dX3_rowsOfMaps_41 (lv_at hl 0 rfl) ?_
    obtain ⟨_, hc_92⟩ := hO.cell hp_1 (by decide) (ci := 9) rfl
    refine th_calli (va_runV (As := [.int (I z_90)]) (rest := [.int (I w2), .ref (ad E a 1)]) ⟨hx, hb, hml, hown, hts⟩ (t_keyAt l G y b0 σ_J_37 (ad E a 0) (tvE E σ_J_37 (ad E a 0) 60) z_90 (hO.isT1 hp_1) (show rng z_90 from rz_90)) (cwV 1 hts gX3_rowsOfMaps_X9_keyAt rfl rfl rfl (by decide +kernel) ⟨(by first | (simp only [headSpec]; omega) | omega | (dsimp only; omega)), (by first | (simp only [headSpec]; omega) | omega | (dsimp only; omega))⟩) (th_PV hK hH rfl hc_92) rfl rfl hl.1 rfl (lv_room (Nat.le_of_ble_eq_true rfl)) dX3_rowsOfMaps_43 ⟨(by first | (simp only [headSpec]; omega) | omega | (dsimp only; omega)), (by first | (simp only [headSpec]; omega) | omega | (dsimp only; omega))⟩) hS (fun z_95 σ_s_94 H locs rz_95 hw_93 hH hS => ?_)
    obtain ⟨e9, hw_93⟩ := hw_93
    replace e9 := e9.symm
    subst e9
    obtain ⟨z_96, e_97, rz_96, lz_96, uz_96⟩ := hO.gi hp_91 (by decide) k1_4
    obtain ⟨_, hc_98⟩ := hO.cell hp_91 (by decide) (ci := 9) rfl
    refine th_calli (va_runV (As := [.int (I w2), .int (I z_95)]) (rest := []) ⟨hx, hb, hml, hown, hts⟩ (t_childBy l G y b0 σ_J_37 (ad E a 1) (tvE E σ_J_37 (ad E a 1) 60) w2 z_95 (hO.isT1 hp_91) (show rng w2 from rw2) (show rng z_95 from rz_95)) (cwV 2 hts gX3_rowsOfMaps_X9_childBy rfl rfl rfl (by decide +kernel) ⟨(by first | (simp only [headSpec]; omega) | omega | (dsimp only; omega)), (by first | (simp only [headSpec]; omega) | omega | (dsimp only; omega))⟩) (th_PV hK hH rfl hc_98) rfl rfl hl.1 rfl (lv_room (Nat.le_of_ble_eq_true rfl)) dX3_rowsOfMaps_46 ⟨(by first | (simp only [headSpec]; omega) | omega | (dsimp only; omega)), (by first | (simp only [headSpec]; omega) | omega | (dsimp only; omega))⟩) hS (fun z_101 σ_s_100 H locs rz_101 hw_99 hH hS => ?_)
    obtain ⟨e9, hw_99⟩ := hw_99
    replace e9 := e9.symm
    subst e9
    have hw_99 : z_101 = -1 ∨ (0 ≤ w2 ∧ w2 < z_101 ∧ z_101 < (gI σ_J_37 (ad E a 1) 4)) := hw_99
    refine lv_istore (lv' := [(7, .int (I z_101)), (6, .int (I z_90)), (0, .ref a), (1, .int (I w1)), (2, .int (I w2)), (3, .int (I lv)), (4, .int (I z_7)), (5, .int (I v5q36))]) hx hb dX3_rowsOfMaps_49 hl (by decide) rfl (fun ls hl => ?_)
    refine lv_iload hx hb dX3_rowsOfMaps_51 (lv_at hl 0 rfl) ?_
    refine lv_iconst (v := I (-1)) hx hb dX3_rowsOfMaps_53 (by decide) ?_
    refine lv_icmp_ne (tgt := 67) hx hb dX3_rowsOfMaps_54 (by decide) (fun c_102 => ?_) (fun c_102 => ?_)
    · replace c_102 := mt (I_eq (a := z_101) (b := (-1)) rz_101 (show rng (-1) from ⟨by decide, by decide⟩)).mpr c_102
      refine lv_aload_n hx hb dX3_rowsOfMaps_67 rfl (lv_at hl 2 rfl) ?_
      refine lv_iload hx hb dX3_rowsOfMaps_68 (lv_at hl 1 rfl) ?_
      refine lv_iload hx hb dX3_rowsOfMaps_70 (lv_at hl 0 rfl) ?_
      refine lv_iload_n hx hb dX3_rowsOfMaps_72 rfl (lv_at hl 5 rfl) ?_
      refine lv_iconst (v := I 1) hx hb dX3_rowsOfMaps_73 (by decide) ?_
      refine lv_iadd hx hb dX3_rowsOfMaps_74 ?_
      refine nq_top (I_add _ _) ?_
      obtain ⟨_, hc_103⟩ := hO.cell h_a (by decide) (ci := 3) rfl
      refine th_callv (va_runV (As := [.int (I z_90), .int (I z_101), .int (I (lv + 1))]) (rest := []) ⟨hx, hb, hml, hown, hts⟩ (ih l G y b0 σ_J_37 E hO a h_a z_90 (show rng z_90 from rz_90) (by omega) (by omega) z_101 (show rng z_101 from rz_101) (by omega) (by omega) (lv + 1) (show rng (lv + 1) from ⟨by omega, by omega⟩) (by omega) (by omega) (by omega)) (cwV 3 hts gX3_rowsOfMaps_X3_rowsOf rfl rfl rfl (by decide +kernel) ⟨(by first | (simp only [headSpec]; omega) | omega | (dsimp only; omega)), (by first | (simp only [headSpec]; omega) | omega | (dsimp only; omega))⟩) (th_PV hK hH rfl hc_103) rfl rfl hl.1 rfl (lv_room (Nat.le_of_ble_eq_true rfl)) dX3_rowsOfMaps_75 ⟨(by first | (simp only [headSpec]; omega) | omega | (dsimp only; omega)), (by first | (simp only [headSpec]; omega) | omega | (dsimp only; omega))⟩) hS (fun σ_s_105 H locs hw_104 hH hS => ?_)
      obtain ⟨hO9, hF9, hw_104⟩ := hw_104
      have e_106 : gI σ_s_105 (ad E a 0) 4 = z_2 := (fr.ki hO hF9 hp_1 (by decide) (by decide) _).trans J_37_2
      have e_107 : gI σ_s_105 (ad E a 1) 4 = z_96 := (fr.ki hO hF9 hp_91 (by decide) (by decide) _).trans e_97
      replace hO := hO9
      replace hF := hF.tu hF9 (by decide)
      refine lv_iinc (v := I (v5q36 + 1)) (lv' := [(5, .int (I (v5q36 + 1))), (7, .int (I z_101)), (6, .int (I z_90)), (0, .ref a), (1, .int (I w1)), (2, .int (I w2)), (3, .int (I lv)), (4, .int (I z_7))]) hx hb dX3_rowsOfMaps_78 hl (k := 7) rfl (I_add _ _) (by decide) rfl (fun ls hl => ?_)
      refine lv_goto (tgt := 13) hx hb dX3_rowsOfMaps_81 (by decide) ?_
      replace hl : lv_has ls 8 [(5, .int (I (v5q36 + 1))), (0, .ref a), (1, .int (I w1)), (2, .int (I w2)), (3, .int (I lv)), (4, .int (I z_7))] := lv_sub hl [0, 3, 4, 5, 6, 7] rfl
      exact ihJ_37 (v5q36 + 1) σ_s_105 _ _ _ (by first | omega | (dsimp only; omega)) ⟨hO, hF, hH, hS, lv_sub hl [1, 2, 3, 4, 5, 0] rfl, ⟨by first | omega | (dsimp only; omega), by first | omega | (dsimp only; omega)⟩, by first | omega | (dsimp only; omega), by first | omega | (dsimp only; omega), e_106⟩
    · replace c_102 := (I_eq (a := z_101) (b := (-1)) rz_101 (show rng (-1) from ⟨by decide, by decide⟩)).mp c_102
      refine lv_aload_n hx hb dX3_rowsOfMaps_57 rfl (lv_at hl 2 rfl) ?_
      refine lv_iload hx hb dX3_rowsOfMaps_58 (lv_at hl 1 rfl) ?_
      refine lv_iconst (v := I (-1)) hx hb dX3_rowsOfMaps_60 (by decide) ?_
      obtain ⟨_, hc_108⟩ := hO.cell h_a (by decide) (ci := 3) rfl
      refine th_callv (va_runV (As := [.int (I z_90), .int (I (-1))]) (rest := []) ⟨hx, hb, hml, hown, hts⟩ (h_addRow l G y b0 σ_J_37 E hO a h_a z_90 (show rng z_90 from rz_90) (by omega) (by omega) (-1) (show rng (-1) from (show rng (-1) from ⟨by decide, by decide⟩)) (by omega) (by omega)) (cwV 2 hts gX3_rowsOfMaps_X3_addRow rfl rfl rfl (by decide +kernel) ⟨(by first | (simp only [headSpec]; omega) | omega | (dsimp only; omega)), (by first | (simp only [headSpec]; omega) | omega | (dsimp only; omega))⟩) (th_PV hK hH rfl hc_108) rfl rfl hl.1 rfl (lv_room (Nat.le_of_ble_eq_true rfl)) dX3_rowsOfMaps_61 ⟨(by first | (simp only [headSpec]; omega) | omega | (dsimp only; omega)), (by first | (simp only [headSpec]; omega) | omega | (dsimp only; omega))⟩) hS (fun σ_s_110 H locs hw_109 hH hS => ?_)
      obtain ⟨hO9, hF9, hw_109⟩ := hw_109
      have e_111 : gI σ_s_110 (ad E a 0) 4 = z_2 := (fr.ki hO hF9 hp_1 (by decide) (by decide) _).trans J_37_2
      have e_112 : gI σ_s_110 (ad E a 1) 4 = z_96 := (fr.ki hO hF9 hp_91 (by decide) (by decide) _).trans e_97
      replace hO := hO9
      replace hF := hF.tu hF9 (by decide)
      refine lv_goto (tgt := 78) hx hb dX3_rowsOfMaps_64 (by decide) ?_
      refine lv_iinc (v := I (v5q36 + 1)) (lv' := [(5, .int (I (v5q36 + 1))), (7, .int (I z_101)), (6, .int (I z_90)), (0, .ref a), (1, .int (I w1)), (2, .int (I w2)), (3, .int (I lv)), (4, .int (I z_7))]) hx hb dX3_rowsOfMaps_78 hl (k := 7) rfl (I_add _ _) (by decide) rfl (fun ls hl => ?_)
      refine lv_goto (tgt := 13) hx hb dX3_rowsOfMaps_81 (by decide) ?_
      replace hl : lv_has ls 8 [(5, .int (I (v5q36 + 1))), (0, .ref a), (1, .int (I w1)), (2, .int (I w2)), (3, .int (I lv)), (4, .int (I z_7))] := lv_sub hl [0, 3, 4, 5, 6, 7] rfl
      exact ihJ_37 (v5q36 + 1) σ_s_110 _ _ _ (by first | omega | (dsimp only; omega)) ⟨hO, hF, hH, hS, lv_sub hl [1, 2, 3, 4, 5, 0] rfl, ⟨by first | omega | (dsimp only; omega), by first | omega | (dsimp only; omega)⟩, by first | omega | (dsimp only; omega), by first | omega | (dsimp only; omega), e_111⟩

set_option maxHeartbeats 1000000 in
set_option maxRecDepth 100000 in
theorem h_rowsOfLists (n : Nat) (ih : ∀ (l : Launch) (G : va_G) (y : Nat → ClassId) (b0 : Nat) (σ : th_M) (E : th_E) (hO : ok y E σ) (a : Nat) (h_a : kd E a = 7) (w1 : Int) (rw1 : rng w1) (l_w1 : -1 ≤ w1) (u_w1 : w1 ≤ 59) (w2 : Int) (rw2 : rng w2) (l_w2 : -1 ≤ w2) (u_w2 : w2 ≤ 59) (lv : Int) (rlv : rng lv) (l_lv : 0 ≤ lv) (u_lv : lv ≤ 17) (hn : (17 - lv).toNat < n), Met l yX3_rowsOf wsX3_rowsOf ({ frames := 4*n+70, cells := 0, slots := 0, locals := (120*n+2000) }) (th_P G y b0 σ [.ref a, .int (I w1), .int (I w2), .int (I lv)]) (th_Qv G b0 (fun σ1 => ok y E σ1 ∧ fr [7] E σ σ1 ∧ (True))) 0 0 (th_A b0)) (l : Launch) (G : va_G) (y : Nat → ClassId) (b0 : Nat) (σ : th_M) (E : th_E) (hO : ok y E σ) (a : Nat) (h_a : kd E a = 7) (w1 : Int) (rw1 : rng w1) (l_w1 : -1 ≤ w1) (u_w1 : w1 ≤ 59) (w2 : Int) (rw2 : rng w2) (l_w2 : -1 ≤ w2) (u_w2 : w2 ≤ 59) (lv : Int) (rlv : rng lv) (l_lv : 0 ≤ lv) (u_lv : lv ≤ 16) (hy0 : (17 - lv).toNat < n + 1) : Met l yX3_rowsOfLists wsX3_rowsOfLists ({ frames := 4*n+72, cells := 0, slots := 0, locals := (120*n+2050) }) (th_P G y b0 σ [.ref a, .int (I w1), .int (I w2), .int (I lv)]) (th_Qv G b0 (fun σ1 => ok y E σ1 ∧ fr [7] E σ σ1 ∧ (True))) 0 0 (th_A b0) := by
  refine Met.ofW (cc := cX3_rowsOfLists) (maxL := 8) (ret := none) (by decide) rfl ?_
  intro p e s m args below meth c s₁ B hml hv
  obtain ⟨rfl, hH, hK⟩ := hv
  have hx := B.exec
  have hb := B.bytes
  have hr := B.returns
  have hts := atoms_spec (ws := wsX3_rowsOfLists) B.pre
  have hown : s.vm.findClass RX3 = some m.cls := findClass_of_methodNamed B.named
  have hlocks := B.notSynchronized
  have h00 : b0 ≤ s.heap.size := hH.1
  have hS : va_S (th_A b0) s.heap s.heap [] := va_S.rf
  have hF : fr [7] E σ σ := fr.rf
  have inX3 : ∀ w ∈ wsX30, w ∈ wsX3_rowsOfLists := by decide +kernel
  have fl0 := hts (.fieldLink RX3 14 "NestQuery$Patch" "from" "LNestQuery$Tree;") (by decide +kernel)
  have fl1 := hts (.fieldLink RX3 20 "NestQuery$Patch" "to" "LNestQuery$Tree;") (by decide +kernel)
  have fl2 := hts (.methodLink RX3 73 Lib.Math.min.name) (by decide +kernel)
  have fl3 := hts (.static Lib.Math.min.name) (by decide +kernel)
  have fl4 := hts (.initialized "java/lang/Math") (by decide +kernel)
  have fl5 := hts (.code Lib.Math.min.name Lib.Math.min.code 2 (some .int)) (by decide +kernel)
  have hl := lv_entry ([.ref a, .int (I w1), .int (I w2), .int (I lv)]) (n := 8) (Nat.le_of_ble_eq_true rfl)
  rw [lg_entry_eq]
  generalize (lg_sl ([.ref a, .int (I w1), .int (I w2), .int (I lv)]) ++ List.replicate (8 - (lg_sl ([.ref a, .int (I w1), .int (I w2), .int (I lv)])).length) Slot.unset).toArray = ls at hl ⊢
  have hl : lv_has ls 8 [(0, .ref a), (1, .int (I w1)), (2, .int (I w2)), (3, .int (I lv))] := hl
  refine lv_aload_n hx hb dX3_rowsOfLists_0 rfl (lv_at hl 0 rfl) ?_
  have hp_1 : kd E (ad E a 0) = 1 := ok.pk hO h_a (by decide) k7_0 rfl
  refine ok.getR hO h_a (by decide) k7_0 (by decide) (fun _ _ he hv kk => th_get (ci := 3) (C := RX3) (T := TX3) (N := 5) hx hb hts inX3 hown hK hH he rfl 0 (by decide) fl0 hv dX3_rowsOfLists_1 kk) ?_
  refine lv_iload_n hx hb dX3_rowsOfLists_4 rfl (lv_at hl 1 rfl) ?_
  obtain ⟨z_2, e_3, rz_2, lz_2, uz_2⟩ := hO.gi hp_1 (by decide) k1_4
  obtain ⟨_, hc_4⟩ := hO.cell hp_1 (by decide) (ci := 9) rfl
  refine th_calli (va_runV (As := [.int (I w1)]) (rest := []) ⟨hx, hb, hml, hown, hts⟩ (t_childCount l G y b0 σ (ad E a 0) (tvE E σ (ad E a 0) 60) w1 (hO.isT1 hp_1) (show rng w1 from rw1)) (cwV 1 hts gX3_rowsOfLists_X9_childCount rfl rfl rfl (by decide +kernel) ⟨(by first | (simp only [headSpec]; omega) | omega | (dsimp only; omega)), (by first | (simp only [headSpec]; omega) | omega | (dsimp only; omega))⟩) (th_PV hK hH rfl hc_4) rfl rfl hl.1 rfl (lv_room (Nat.le_of_ble_eq_true rfl)) dX3_rowsOfLists_5 ⟨(by first | (simp only [headSpec]; omega) | omega | (dsimp only; omega)), (by first | (simp only [headSpec]; omega) | omega | (dsimp only; omega))⟩) hS (fun z_7 σ_s_6 H locs rz_7 hw_5 hH hS => ?_)
  obtain ⟨e9, hw_5⟩ := hw_5
  replace e9 := e9.symm
  subst e9
  have hw_5 : 0 ≤ z_7 ∧ z_7 ≤ (gI σ (ad E a 0) 4) := hw_5
  refine lv_istore (lv' := [(4, .int (I z_7)), (0, .ref a), (1, .int (I w1)), (2, .int (I w2)), (3, .int (I lv))]) hx hb dX3_rowsOfLists_8 hl (by decide) rfl (fun ls hl => ?_)
  refine lv_aload_n hx hb dX3_rowsOfLists_10 rfl (lv_at hl 1 rfl) ?_
  have hp_8 : kd E (ad E a 1) = 1 := ok.pk hO h_a (by decide) k7_1 rfl
  refine ok.getR hO h_a (by decide) k7_1 (by decide) (fun _ _ he hv kk => th_get (ci := 3) (C := RX3) (T := TX3) (N := 5) hx hb hts inX3 hown hK hH he rfl 1 (by decide) fl1 hv dX3_rowsOfLists_11 kk) ?_
  refine lv_iload_n hx hb dX3_rowsOfLists_14 rfl (lv_at hl 3 rfl) ?_
  obtain ⟨z_9, e_10, rz_9, lz_9, uz_9⟩ := hO.gi hp_8 (by decide) k1_4
  obtain ⟨_, hc_11⟩ := hO.cell hp_8 (by decide) (ci := 9) rfl
  refine th_calli (va_runV (As := [.int (I w2)]) (rest := []) ⟨hx, hb, hml, hown, hts⟩ (t_childCount l G y b0 σ (ad E a 1) (tvE E σ (ad E a 1) 60) w2 (hO.isT1 hp_8) (show rng w2 from rw2)) (cwV 1 hts gX3_rowsOfLists_X9_childCount rfl rfl rfl (by decide +kernel) ⟨(by first | (simp only [headSpec]; omega) | omega | (dsimp only; omega)), (by first | (simp only [headSpec]; omega) | omega | (dsimp only; omega))⟩) (th_PV hK hH rfl hc_11) rfl rfl hl.1 rfl (lv_room (Nat.le_of_ble_eq_true rfl)) dX3_rowsOfLists_15 ⟨(by first | (simp only [headSpec]; omega) | omega | (dsimp only; omega)), (by first | (simp only [headSpec]; omega) | omega | (dsimp only; omega))⟩) hS (fun z_14 σ_s_13 H locs rz_14 hw_12 hH hS => ?_)
  obtain ⟨e9, hw_12⟩ := hw_12
  replace e9 := e9.symm
  subst e9
  have hw_12 : 0 ≤ z_14 ∧ z_14 ≤ (gI σ (ad E a 1) 4) := hw_12
  refine lv_istore (lv' := [(5, .int (I z_14)), (4, .int (I z_7)), (0, .ref a), (1, .int (I w1)), (2, .int (I w2)), (3, .int (I lv))]) hx hb dX3_rowsOfLists_18 hl (by decide) rfl (fun ls hl => ?_)
  refine lv_iload hx hb dX3_rowsOfLists_20 (lv_at hl 1 rfl) ?_
  refine lv_iload hx hb dX3_rowsOfLists_22 (lv_at hl 0 rfl) ?_
  refine va_mmin hx hb (by rw [hml]; exact hl.1.symm) hown fl2 fl3 fl4 fl5 (Nat.le_of_ble_eq_true rfl) (Nat.le_of_ble_eq_true rfl) (Nat.zero_le _) (Nat.zero_le _) dX3_rowsOfLists_24 ?_
  refine th_mmin rz_7 rz_14 (fun z_15 rz_15 hz_15 => ?_)
  refine lv_istore (lv' := [(6, .int (I z_15)), (5, .int (I z_14)), (4, .int (I z_7)), (0, .ref a), (1, .int (I w1)), (2, .int (I w2)), (3, .int (I lv))]) hx hb dX3_rowsOfLists_27 hl (by decide) rfl (fun ls hl => ?_)
  refine lv_iconst (v := I 0) hx hb dX3_rowsOfLists_29 (by decide) ?_
  refine lv_istore (lv' := [(7, .int (I 0)), (6, .int (I z_15)), (5, .int (I z_14)), (4, .int (I z_7)), (0, .ref a), (1, .int (I w1)), (2, .int (I w2)), (3, .int (I lv))]) hx hb dX3_rowsOfLists_30 hl (by decide) rfl (fun ls hl => ?_)
  refine th_loop (α := Int) (pc := 32) (fun x9 => (128 - x9).toNat) (fun x9 σ9 H9 l9 ls9 => ok y E σ9 ∧ fr [7] E σ σ9 ∧ th_H G b0 σ9 H9 ∧ va_S (th_A b0) s.heap H9 l9 ∧ lv_has ls9 8 [(0, .ref a), (1, .int (I w1)), (2, .int (I w2)), (3, .int (I lv)), (4, .int (I z_7)), (5, .int (I z_14)), (6, .int (I z_15)), (7, .int (I x9))] ∧ rng x9 ∧ (0 ≤ x9) ∧ (x9 ≤ 128) ∧ (gI σ9 (ad E a 0) 4 = z_2) ∧ (gI σ9 (ad E a 1) 4 = z_9)) ?_ (0) σ _ _ _ ⟨hO, hF, hH, hS, lv_sub hl [4, 5, 6, 7, 3, 2, 1, 0] rfl, (show rng 0 from ⟨by decide, by decide⟩), by first | omega | (dsimp only; omega), by first | omega | (dsimp only; omega), e_3, e_10⟩
  intro x9 σ_J_32 H locs ls hI9 ihJ_32
  obtain ⟨v7q31, ex9⟩ : ∃ z, z = x9 := ⟨_, rfl⟩
  subst ex9
  obtain ⟨hO, hF, hH, hS, hl, rv7q31, J_32_0, J_32_1, J_32_2, J_32_3⟩ := hI9
  have hl : lv_has ls 8 [(0, .ref a), (1, .int (I w1)), (2, .int (I w2)), (3, .int (I lv)), (4, .int (I z_7)), (5, .int (I z_14)), (6, .int (I z_15)), (7, .int (I v7q31))] := hl
  have rv7q31 : rng v7q31 := rv7q31
  have J_32_0 : 0 ≤ v7q31 := J_32_0
  have J_32_1 : v7q31 ≤ 128 := J_32_1
  have J_32_2 : gI σ_J_32 (ad E a 0) 4 = z_2 := J_32_2
  have J_32_3 : gI σ_J_32 (ad E a 1) 4 = z_9 := J_32_3
  refine lv_iload hx hb dX3_rowsOfLists_32 (lv_at hl 7 rfl) ?_
  refine lv_iload hx hb dX3_rowsOfLists_34 (lv_at hl 6 rfl) ?_
  refine lv_icmp_ge (tgt := 72) hx hb dX3_rowsOfLists_36 (by decide) (fun c_33 => ?_) (fun c_33 => ?_)
  · replace c_33 := (I_le (a := z_15) (b := v7q31) rz_15 rv7q31).mp c_33
    refine lv_iload hx hb dX3_rowsOfLists_72 (lv_at hl 6 rfl) ?_
    refine lv_istore (lv' := [(7, .int (I z_15)), (0, .ref a), (1, .int (I w1)), (2, .int (I w2)), (3, .int (I lv)), (4, .int (I z_7)), (5, .int (I z_14)), (6, .int (I z_15))]) hx hb dX3_rowsOfLists_74 hl (by decide) rfl (fun ls hl => ?_)
    replace hl : lv_has ls 8 [(7, .int (I z_15)), (0, .ref a), (1, .int (I w1)), (2, .int (I w2)), (4, .int (I z_7)), (5, .int (I z_14)), (6, .int (I z_15))] := lv_sub hl [0, 1, 2, 3, 5, 6, 7] rfl
    refine th_loop (α := Int) (pc := 76) (fun x9 => (128 - x9).toNat) (fun x9 σ9 H9 l9 ls9 => ok y E σ9 ∧ fr [7] E σ σ9 ∧ th_H G b0 σ9 H9 ∧ va_S (th_A b0) s.heap H9 l9 ∧ lv_has ls9 8 [(0, .ref a), (1, .int (I w1)), (2, .int (I w2)), (4, .int (I z_7)), (5, .int (I z_14)), (6, .int (I z_15)), (7, .int (I x9))] ∧ rng x9 ∧ (0 ≤ x9) ∧ (x9 ≤ 128) ∧ (gI σ9 (ad E a 0) 4 = z_2) ∧ (gI σ9 (ad E a 1) 4 = z_9)) ?_ (z_15) σ_J_32 _ _ _ ⟨hO, hF, hH, hS, lv_sub hl [1, 2, 3, 4, 5, 6, 0] rfl, rz_15, by first | omega | (dsimp only; omega), by first | omega | (dsimp only; omega), J_32_2, J_32_3⟩
    intro x9 σ_J_46 H locs ls hI9 ihJ_46
    obtain ⟨v7q45, ex9⟩ : ∃ z, z = x9 := ⟨_, rfl⟩
    subst ex9
    obtain ⟨hO, hF, hH, hS, hl, rv7q45, J_46_0, J_46_1, J_46_2, J_46_3⟩ := hI9
    have hl : lv_has ls 8 [(0, .ref a), (1, .int (I w1)), (2, .int (I w2)), (4, .int (I z_7)), (5, .int (I z_14)), (6, .int (I z_15)), (7, .int (I v7q45))] := hl
    have rv7q45 : rng v7q45 := rv7q45
    have J_46_0 : 0 ≤ v7q45 := J_46_0
    have J_46_1 : v7q45 ≤ 128 := J_46_1
    have J_46_2 : gI σ_J_46 (ad E a 0) 4 = z_2 := J_46_2
    have J_46_3 : gI σ_J_46 (ad E a 1) 4 = z_9 := J_46_3
    refine lv_iload hx hb dX3_rowsOfLists_76 (lv_at hl 6 rfl) ?_
    refine lv_iload hx hb dX3_rowsOfLists_78 (lv_at hl 4 rfl) ?_
    refine lv_icmp_ge (tgt := 104) hx hb dX3_rowsOfLists_80 (by decide) (fun c_47 => ?_) (fun c_47 => ?_)
    · replace c_47 := (I_le (a := z_14) (b := v7q45) rz_14 rv7q45).mp c_47
      refine lv_iload hx hb dX3_rowsOfLists_104 (lv_at hl 3 rfl) ?_
      refine lv_iconst (v := I 1) hx hb dX3_rowsOfLists_106 (by decide) ?_
      refine lv_isub hx hb dX3_rowsOfLists_107 ?_
      refine nq_top (I_sub _ _) ?_
      refine lv_istore (lv' := [(7, .int (I (z_7 - 1))), (0, .ref a), (1, .int (I w1)), (2, .int (I w2)), (4, .int (I z_7)), (5, .int (I z_14)), (6, .int (I z_15))]) hx hb dX3_rowsOfLists_108 hl (by decide) rfl (fun ls hl => ?_)
      replace hl : lv_has ls 8 [(7, .int (I (z_7 - 1))), (0, .ref a), (1, .int (I w1)), (6, .int (I z_15))] := lv_sub hl [0, 1, 2, 6] rfl
      refine th_loop (α := Int) (pc := 110) (fun x9 => (x9 + 1).toNat) (fun x9 σ9 H9 l9 ls9 => ok y E σ9 ∧ fr [7] E σ σ9 ∧ th_H G b0 σ9 H9 ∧ va_S (th_A b0) s.heap H9 l9 ∧ lv_has ls9 8 [(0, .ref a), (1, .int (I w1)), (6, .int (I z_15)), (7, .int (I x9))] ∧ rng x9 ∧ (-1 ≤ x9) ∧ (x9 ≤ 128) ∧ (gI σ9 (ad E a 0) 4 = z_2) ∧ (gI σ9 (ad E a 1) 4 = z_9)) ?_ (z_7 - 1) σ_J_46 _ _ _ ⟨hO, hF, hH, hS, lv_sub hl [1, 2, 3, 0] rfl, ⟨by first | omega | (dsimp only; omega), by first | omega | (dsimp only; omega)⟩, by first | omega | (dsimp only; omega), by first | omega | (dsimp only; omega), J_46_2, J_46_3⟩
      intro x9 σ_J_60 H locs ls hI9 ihJ_60
      obtain ⟨v7q59, ex9⟩ : ∃ z, z = x9 := ⟨_, rfl⟩
      subst ex9
      obtain ⟨hO, hF, hH, hS, hl, rv7q59, J_60_0, J_60_1, J_60_2, J_60_3⟩ := hI9
      have hl : lv_has ls 8 [(0, .ref a), (1, .int (I w1)), (6, .int (I z_15)), (7, .int (I v7q59))] := hl
      have rv7q59 : rng v7q59 := rv7q59
      have J_60_0 : -1 ≤ v7q59 := J_60_0
      have J_60_1 : v7q59 ≤ 128 := J_60_1
      have J_60_2 : gI σ_J_60 (ad E a 0) 4 = z_2 := J_60_2
      have J_60_3 : gI σ_J_60 (ad E a 1) 4 = z_9 := J_60_3
      refine lv_iload hx hb dX3_rowsOfLists_110 (lv_at hl 3 rfl) ?_
      refine lv_iload hx hb dX3_rowsOfLists_112 (lv_at hl 2 rfl) ?_
      refine lv_icmp_lt (tgt := 138) hx hb dX3_rowsOfLists_114 (by decide) (fun c_61 => ?_) (fun c_61 => ?_)
      · replace c_61 := (I_lt (a := v7q59) (b := z_15) rv7q59 rz_15).mp c_61
        exact th_vret hx hb hr hlocks hH hS ⟨hO, hF, trivial⟩ dX3_rowsOfLists_138
      · replace c_61 := mt (I_lt (a := v7q59) (b := z_15) rv7q59 rz_15).mpr c_61
        refine lv_aload_n hx hb dX3_rowsOfLists_117 rfl (lv_at hl 0 rfl) ?_
        refine lv_aload_n hx hb dX3_rowsOfLists_118 rfl (lv_at hl 0 rfl) ?_
        refine ok.getR hO h_a (by decide) k7_0 (by decide) (fun _ _ he hv kk => th_get (ci := 3) (C := RX3) (T := TX3) (N := 5) hx hb hts inX3 hown hK hH he rfl 0 (by decide) fl0 hv dX3_rowsOfLists_119 kk) ?_
        refine lv_iload_n hx hb dX3_rowsOfLists_122 rfl (lv_at hl 1 rfl) ?_
        refine lv_iload hx hb dX3_rowsOfLists_123 (lv_at hl 3 rfl) ?_
        obtain ⟨_, hc_62⟩ := hO.cell hp_1 (by decide) (ci := 9) rfl
        refine th_calli (va_runV (As := [.int (I w1), .int (I v7q59)]) (rest := [.ref a]) ⟨hx, hb, hml, hown, hts⟩ (t_childAt l G y b0 σ_J_60 (ad E a 0) (tvE E σ_J_60 (ad E a 0) 60) w1 v7q59 (hO.isT1 hp_1) (show rng w1 from rw1) (show rng v7q59 from rv7q59)) (cwV 2 hts gX3_rowsOfLists_X9_childAt rfl rfl rfl (by decide +kernel) ⟨(by first | (simp only [headSpec]; omega) | omega | (dsimp only; omega)), (by first | (simp only [headSpec]; omega) | omega | (dsimp only; omega))⟩) (th_PV hK hH rfl hc_62) rfl rfl hl.1 rfl (lv_room (Nat.le_of_ble_eq_true rfl)) dX3_rowsOfLists_125 ⟨(by first | (simp only [headSpec]; omega) | omega | (dsimp only; omega)), (by first | (simp only [headSpec]; omega) | omega | (dsimp only; omega))⟩) hS (fun z_65 σ_s_64 H locs rz_65 hw_63 hH hS => ?_)
        obtain ⟨e9, hw_63⟩ := hw_63
        replace e9 := e9.symm
        subst e9
        have hw_63 : z_65 = -1 ∨ (0 ≤ w1 ∧ w1 < z_65 ∧ z_65 < (gI σ_J_60 (ad E a 0) 4)) := hw_63
        refine lv_iconst (v := I (-1)) hx hb dX3_rowsOfLists_128 (by decide) ?_
        obtain ⟨_, hc_66⟩ := hO.cell h_a (by decide) (ci := 3) rfl
        refine th_callv (va_runV (As := [.int (I z_65), .int (I (-1))]) (rest := []) ⟨hx, hb, hml, hown, hts⟩ (h_addRow l G y b0 σ_J_60 E hO a h_a z_65 (show rng z_65 from rz_65) (by omega) (by omega) (-1) (show rng (-1) from (show rng (-1) from ⟨by decide, by decide⟩)) (by omega) (by omega)) (cwV 2 hts gX3_rowsOfLists_X3_addRow rfl rfl rfl (by decide +kernel) ⟨(by first | (simp only [headSpec]; omega) | omega | (dsimp only; omega)), (by first | (simp only [headSpec]; omega) | omega | (dsimp only; omega))⟩) (th_PV hK hH rfl hc_66) rfl rfl hl.1 rfl (lv_room (Nat.le_of_ble_eq_true rfl)) dX3_rowsOfLists_129 ⟨(by first | (simp only [headSpec]; omega) | omega | (dsimp only; omega)), (by first | (simp only [headSpec]; omega) | omega | (dsimp only; omega))⟩) hS (fun σ_s_68 H locs hw_67 hH hS => ?_)
        obtain ⟨hO9, hF9, hw_67⟩ := hw_67
        have e_69 : gI σ_s_68 (ad E a 0) 4 = z_2 := (fr.ki hO hF9 hp_1 (by decide) (by decide) _).trans J_60_2
        have e_70 : gI σ_s_68 (ad E a 1) 4 = z_9 := (fr.ki hO hF9 hp_8 (by decide) (by decide) _).trans J_60_3
        replace hO := hO9
        replace hF := hF.tu hF9 (by decide)
        refine lv_iinc (v := I (v7q59 + (-1))) (lv' := [(7, .int (I (v7q59 + (-1)))), (0, .ref a), (1, .int (I w1)), (6, .int (I z_15))]) hx hb dX3_rowsOfLists_132 hl (k := 3) rfl (I_add _ _) (by decide) rfl (fun ls hl => ?_)
        refine lv_goto (tgt := 110) hx hb dX3_rowsOfLists_135 (by decide) ?_
        exact ihJ_60 (v7q59 + (-1)) σ_s_68 _ _ _ (by first | omega | (dsimp only; omega)) ⟨hO, hF, hH, hS, lv_sub hl [1, 2, 3, 0] rfl, ⟨by first | omega | (dsimp only; omega), by first | omega | (dsimp only; omega)⟩, by first | omega | (dsimp only; omega), by first | omega | (dsimp only; omega), e_69, e_70⟩
    · replace c_47 := mt (I_le (a := z_14) (b := v7q45) rz_14 rv7q45).mpr c_47
      refine lv_aload_n hx hb dX3_rowsOfLists_83 rfl (lv_at hl 0 rfl) ?_
      refine lv_iconst (v := I (-1)) hx hb dX3_rowsOfLists_84 (by decide) ?_
      refine lv_aload_n hx hb dX3_rowsOfLists_85 rfl (lv_at hl 0 rfl) ?_
      refine ok.getR hO h_a (by decide) k7_1 (by decide) (fun _ _ he hv kk => th_get (ci := 3) (C := RX3) (T := TX3) (N := 5) hx hb hts inX3 hown hK hH he rfl 1 (by decide) fl1 hv dX3_rowsOfLists_86 kk) ?_
      refine lv_iload_n hx hb dX3_rowsOfLists_89 rfl (lv_at hl 2 rfl) ?_
      refine lv_iload hx hb dX3_rowsOfLists_90 (lv_at hl 6 rfl) ?_
      obtain ⟨_, hc_71⟩ := hO.cell hp_8 (by decide) (ci := 9) rfl
      refine th_calli (va_runV (As := [.int (I w2), .int (I v7q45)]) (rest := [.int (I (-1)), .ref a]) ⟨hx, hb, hml, hown, hts⟩ (t_childAt l G y b0 σ_J_46 (ad E a 1) (tvE E σ_J_46 (ad E a 1) 60) w2 v7q45 (hO.isT1 hp_8) (show rng w2 from rw2) (show rng v7q45 from rv7q45)) (cwV 2 hts gX3_rowsOfLists_X9_childAt rfl rfl rfl (by decide +kernel) ⟨(by first | (simp only [headSpec]; omega) | omega | (dsimp only; omega)), (by first | (simp only [headSpec]; omega) | omega | (dsimp only; omega))⟩) (th_PV hK hH rfl hc_71) rfl rfl hl.1 rfl (lv_room (Nat.le_of_ble_eq_true rfl)) dX3_rowsOfLists_92 ⟨(by first | (simp only [headSpec]; omega) | omega | (dsimp only; omega)), (by first | (simp only [headSpec]; omega) | omega | (dsimp only; omega))⟩) hS (fun z_74 σ_s_73 H locs rz_74 hw_72 hH hS => ?_)
      obtain ⟨e9, hw_72⟩ := hw_72
      replace e9 := e9.symm
      subst e9
      have hw_72 : z_74 = -1 ∨ (0 ≤ w2 ∧ w2 < z_74 ∧ z_74 < (gI σ_J_46 (ad E a 1) 4)) := hw_72
      obtain ⟨_, hc_75⟩ := hO.cell h_a (by decide) (ci := 3) rfl
      refine th_callv (va_runV (As := [.int (I (-1)), .int (I z_74)]) (rest := []) ⟨hx, hb, hml, hown, hts⟩ (h_addRow l G y b0 σ_J_46 E hO a h_a (-1) (show rng (-1) from (show rng (-1) from ⟨by decide, by decide⟩)) (by omega) (by omega) z_74 (show rng z_74 from rz_74) (by omega) (by omega)) (cwV 2 hts gX3_rowsOfLists_X3_addRow rfl rfl rfl (by decide +kernel) ⟨(by first | (simp only [headSpec]; omega) | omega | (dsimp only; omega)), (by first | (simp only [headSpec]; omega) | omega | (dsimp only; omega))⟩) (th_PV hK hH rfl hc_75) rfl rfl hl.1 rfl (lv_room (Nat.le_of_ble_eq_true rfl)) dX3_rowsOfLists_95 ⟨(by first | (simp only [headSpec]; omega) | omega | (dsimp only; omega)), (by first | (simp only [headSpec]; omega) | omega | (dsimp only; omega))⟩) hS (fun σ_s_77 H locs hw_76 hH hS => ?_)
      obtain ⟨hO9, hF9, hw_76⟩ := hw_76
      have e_78 : gI σ_s_77 (ad E a 0) 4 = z_2 := (fr.ki hO hF9 hp_1 (by decide) (by decide) _).trans J_46_2
      have e_79 : gI σ_s_77 (ad E a 1) 4 = z_9 := (fr.ki hO hF9 hp_8 (by decide) (by decide) _).trans J_46_3
      replace hO := hO9
      replace hF := hF.tu hF9 (by decide)
      refine lv_iinc (v := I (v7q45 + 1)) (lv' := [(7, .int (I (v7q45 + 1))), (0, .ref a), (1, .int (I w1)), (2, .int (I w2)), (4, .int (I z_7)), (5, .int (I z_14)), (6, .int (I z_15))]) hx hb dX3_rowsOfLists_98 hl (k := 6) rfl (I_add _ _) (by decide) rfl (fun ls hl => ?_)
      refine lv_goto (tgt := 76) hx hb dX3_rowsOfLists_101 (by decide) ?_
      exact ihJ_46 (v7q45 + 1) σ_s_77 _ _ _ (by first | omega | (dsimp only; omega)) ⟨hO, hF, hH, hS, lv_sub hl [1, 2, 3, 4, 5, 6, 0] rfl, ⟨by first | omega | (dsimp only; omega), by first | omega | (dsimp only; omega)⟩, by first | omega | (dsimp only; omega), by first | omega | (dsimp only; omega), e_78, e_79⟩
  · replace c_33 := mt (I_le (a := z_15) (b := v7q31) rz_15 rv7q31).mpr c_33
    refine lv_aload_n hx hb dX3_rowsOfLists_39 rfl (lv_at hl 0 rfl) ?_
    refine lv_aload_n hx hb dX3_rowsOfLists_40 rfl (lv_at hl 0 rfl) ?_
    refine ok.getR hO h_a (by decide) k7_0 (by decide) (fun _ _ he hv kk => th_get (ci := 3) (C := RX3) (T := TX3) (N := 5) hx hb hts inX3 hown hK hH he rfl 0 (by decide) fl0 hv dX3_rowsOfLists_41 kk) ?_
    refine lv_iload_n hx hb dX3_rowsOfLists_44 rfl (lv_at hl 1 rfl) ?_
    refine lv_iload hx hb dX3_rowsOfLists_45 (lv_at hl 7 rfl) ?_
    obtain ⟨_, hc_80⟩ := hO.cell hp_1 (by decide) (ci := 9) rfl
    refine th_calli (va_runV (As := [.int (I w1), .int (I v7q31)]) (rest := [.ref a]) ⟨hx, hb, hml, hown, hts⟩ (t_childAt l G y b0 σ_J_32 (ad E a 0) (tvE E σ_J_32 (ad E a 0) 60) w1 v7q31 (hO.isT1 hp_1) (show rng w1 from rw1) (show rng v7q31 from rv7q31)) (cwV 2 hts gX3_rowsOfLists_X9_childAt rfl rfl rfl (by decide +kernel) ⟨(by first | (simp only [headSpec]; omega) | omega | (dsimp only; omega)), (by first | (simp only [headSpec]; omega) | omega | (dsimp only; omega))⟩) (th_PV hK hH rfl hc_80) rfl rfl hl.1 rfl (lv_room (Nat.le_of_ble_eq_true rfl)) dX3_rowsOfLists_47 ⟨(by first | (simp only [headSpec]; omega) | omega | (dsimp only; omega)), (by first | (simp only [headSpec]; omega) | omega | (dsimp only; omega))⟩) hS (fun z_83 σ_s_82 H locs rz_83 hw_81 hH hS => ?_)
    obtain ⟨e9, hw_81⟩ := hw_81
    replace e9 := e9.symm
    subst e9
    have hw_81 : z_83 = -1 ∨ (0 ≤ w1 ∧ w1 < z_83 ∧ z_83 < (gI σ_J_32 (ad E a 0) 4)) := hw_81
    refine lv_aload_n hx hb dX3_rowsOfLists_50 rfl (lv_at hl 0 rfl) ?_
    refine ok.getR hO h_a (by decide) k7_1 (by decide) (fun _ _ he hv kk => th_get (ci := 3) (C := RX3) (T := TX3) (N := 5) hx hb hts inX3 hown hK hH he rfl 1 (by decide) fl1 hv dX3_rowsOfLists_51 kk) ?_
    refine lv_iload_n hx hb dX3_rowsOfLists_54 rfl (lv_at hl 2 rfl) ?_
    refine lv_iload hx hb dX3_rowsOfLists_55 (lv_at hl 7 rfl) ?_
    obtain ⟨_, hc_84⟩ := hO.cell hp_8 (by decide) (ci := 9) rfl
    refine th_calli (va_runV (As := [.int (I w2), .int (I v7q31)]) (rest := [.int (I z_83), .ref a]) ⟨hx, hb, hml, hown, hts⟩ (t_childAt l G y b0 σ_J_32 (ad E a 1) (tvE E σ_J_32 (ad E a 1) 60) w2 v7q31 (hO.isT1 hp_8) (show rng w2 from rw2) (show rng v7q31 from rv7q31)) (cwV 2 hts gX3_rowsOfLists_X9_childAt rfl rfl rfl (by decide +kernel) ⟨(by first | (simp only [headSpec]; omega) | omega | (dsimp only; omega)), (by first | (simp only [headSpec]; omega) | omega | (dsimp only; omega))⟩) (th_PV hK hH rfl hc_84) rfl rfl hl.1 rfl (lv_room (Nat.le_of_ble_eq_true rfl)) dX3_rowsOfLists_57 ⟨(by first | (simp only [headSpec]; omega) | omega | (dsimp only; omega)), (by first | (simp only [headSpec]; omega) | omega | (dsimp only; omega))⟩) hS (fun z_87 σ_s_86 H locs rz_87 hw_85 hH hS => ?_)
    obtain ⟨e9, hw_85⟩ := hw_85
    replace e9 := e9.symm
    subst e9
    have hw_85 : z_87 = -1 ∨ (0 ≤ w2 ∧ w2 < z_87 ∧ z_87 < (gI σ_J_32 (ad E a 1) 4)) := hw_85
    refine lv_iload_n hx hb dX3_rowsOfLists_60 rfl (lv_at hl 3 rfl) ?_
    refine lv_iconst (v := I 1) hx hb dX3_rowsOfLists_61 (by decide) ?_
    refine lv_iadd hx hb dX3_rowsOfLists_62 ?_
    refine nq_top (I_add _ _) ?_
    obtain ⟨_, hc_88⟩ := hO.cell h_a (by decide) (ci := 3) rfl
    refine th_callv (va_runV (As := [.int (I z_83), .int (I z_87), .int (I (lv + 1))]) (rest := []) ⟨hx, hb, hml, hown, hts⟩ (ih l G y b0 σ_J_32 E hO a h_a z_83 (show rng z_83 from rz_83) (by omega) (by omega) z_87 (show rng z_87 from rz_87) (by omega) (by omega) (lv + 1) (show rng (lv + 1) from ⟨by omega, by omega⟩) (by omega) (by omega) (by omega)) (cwV 3 hts gX3_rowsOfLists_X3_rowsOf rfl rfl rfl (by decide +kernel) ⟨(by first | (simp only [headSpec]; omega) | omega | (dsimp only; omega)), (by first | (simp only [headSpec]; omega) | omega | (dsimp only; omega))⟩) (th_PV hK hH rfl hc_88) rfl rfl hl.1 rfl (lv_room (Nat.le_of_ble_eq_true rfl)) dX3_rowsOfLists_63 ⟨(by first | (simp only [headSpec]; omega) | omega | (dsimp only; omega)), (by first | (simp only [headSpec]; omega) | omega | (dsimp only; omega))⟩) hS (fun σ_s_90 H locs hw_89 hH hS => ?_)
    obtain ⟨hO9, hF9, hw_89⟩ := hw_89
    have e_91 : gI σ_s_90 (ad E a 0) 4 = z_2 := (fr.ki hO hF9 hp_1 (by decide) (by decide) _).trans J_32_2
    have e_92 : gI σ_s_90 (ad E a 1) 4 = z_9 := (fr.ki hO hF9 hp_8 (by decide) (by decide) _).trans J_32_3
    replace hO := hO9
    replace hF := hF.tu hF9 (by decide)
    refine lv_iinc (v := I (v7q31 + 1)) (lv' := [(7, .int (I (v7q31 + 1))), (0, .ref a), (1, .int (I w1)), (2, .int (I w2)), (3, .int (I lv)), (4, .int (I z_7)), (5, .int (I z_14)), (6, .int (I z_15))]) hx hb dX3_rowsOfLists_66 hl (k := 7) rfl (I_add _ _) (by decide) rfl (fun ls hl => ?_)
    refine lv_goto (tgt := 32) hx hb dX3_rowsOfLists_69 (by decide) ?_
    exact ihJ_32 (v7q31 + 1) σ_s_90 _ _ _ (by first | omega | (dsimp only; omega)) ⟨hO, hF, hH, hS, lv_sub hl [1, 2, 3, 4, 5, 6, 7, 0] rfl, ⟨by first | omega | (dsimp only; omega), by first | omega | (dsimp only; omega)⟩, by first | omega | (dsimp only; omega), by first | omega | (dsimp only; omega), e_91, e_92⟩

set_option maxHeartbeats 1000000 in
set_option maxRecDepth 100000 in
theorem h_rowsOf (n : Nat) : ∀ (l : Launch) (G : va_G) (y : Nat → ClassId) (b0 : Nat) (σ : th_M) (E : th_E) (hO : ok y E σ) (a : Nat) (h_a : kd E a = 7) (w1 : Int) (rw1 : rng w1) (l_w1 : -1 ≤ w1) (u_w1 : w1 ≤ 59) (w2 : Int) (rw2 : rng w2) (l_w2 : -1 ≤ w2) (u_w2 : w2 ≤ 59) (lv : Int) (rlv : rng lv) (l_lv : 0 ≤ lv) (u_lv : lv ≤ 17) (hn : (17 - lv).toNat < n), Met l yX3_rowsOf wsX3_rowsOf ({ frames := 4*n+70, cells := 0, slots := 0, locals := (120*n+2000) }) (th_P G y b0 σ [.ref a, .int (I w1), .int (I w2), .int (I lv)]) (th_Qv G b0 (fun σ1 => ok y E σ1 ∧ fr [7] E σ σ1 ∧ (True))) 0 0 (th_A b0) := by
  induction n with
  | zero => intro l G y b0 σ E hO a h_a w1 rw1 l_w1 u_w1 w2 rw2 l_w2 u_w2 lv rlv l_lv u_lv hn; exact absurd hn (Nat.not_lt_zero _)
  | succ n ih =>
    intro l G y b0 σ E hO a h_a w1 rw1 l_w1 u_w1 w2 rw2 l_w2 u_w2 lv rlv l_lv u_lv hn
    refine Met.ofW (cc := cX3_rowsOf) (maxL := 5) (ret := none) (by decide) rfl ?_
    intro p e s m args below meth c s₁ B hml hv
    obtain ⟨rfl, hH, hK⟩ := hv
    have hx := B.exec
    have hb := B.bytes
    have hr := B.returns
    have hts := atoms_spec (ws := wsX3_rowsOf) B.pre
    have hown : s.vm.findClass RX3 = some m.cls := findClass_of_methodNamed B.named
    have hlocks := B.notSynchronized
    have h00 : b0 ≤ s.heap.size := hH.1
    have hS : va_S (th_A b0) s.heap s.heap [] := va_S.rf
    have hF : fr [7] E σ σ := fr.rf
    have inX3 : ∀ w ∈ wsX30, w ∈ wsX3_rowsOf := by decide +kernel
    have fl0 := hts (.fieldLink RX3 14 "NestQuery$Patch" "from" "LNestQuery$Tree;") (by decide +kernel)
    have fl1 := hts (.fieldLink RX3 20 "NestQuery$Patch" "to" "LNestQuery$Tree;") (by decide +kernel)
    have hl := lv_entry ([.ref a, .int (I w1), .int (I w2), .int (I lv)]) (n := 5) (Nat.le_of_ble_eq_true rfl)
    rw [lg_entry_eq]
    generalize (lg_sl ([.ref a, .int (I w1), .int (I w2), .int (I lv)]) ++ List.replicate (5 - (lg_sl ([.ref a, .int (I w1), .int (I w2), .int (I lv)])).length) Slot.unset).toArray = ls at hl ⊢
    have hl : lv_has ls 5 [(0, .ref a), (1, .int (I w1)), (2, .int (I w2)), (3, .int (I lv))] := hl
    refine lv_iload_n hx hb dX3_rowsOf_0 rfl (lv_at hl 3 rfl) ?_
    refine lv_bipush (v := I 16) hx hb dX3_rowsOf_1 (by decide) ?_
    refine lv_icmp_gt (tgt := 23) hx hb dX3_rowsOf_3 (by decide) (fun c_1 => ?_) (fun c_1 => ?_)
    · replace c_1 := (I_lt (a := 16) (b := lv) (show rng 16 from ⟨by decide, by decide⟩) rlv).mp c_1
      exact th_vret hx hb hr hlocks hH hS ⟨hO, hF, trivial⟩ dX3_rowsOf_23
    · replace c_1 := mt (I_lt (a := 16) (b := lv) (show rng 16 from ⟨by decide, by decide⟩) rlv).mpr c_1
      refine lv_aload_n hx hb dX3_rowsOf_6 rfl (lv_at hl 0 rfl) ?_
      have hp_2 : kd E (ad E a 0) = 1 := ok.pk hO h_a (by decide) k7_0 rfl
      refine ok.getR hO h_a (by decide) k7_0 (by decide) (fun _ _ he hv kk => th_get (ci := 3) (C := RX3) (T := TX3) (N := 5) hx hb hts inX3 hown hK hH he rfl 0 (by decide) fl0 hv dX3_rowsOf_7 kk) ?_
      refine lv_iload_n hx hb dX3_rowsOf_10 rfl (lv_at hl 1 rfl) ?_
      refine lv_aload_n hx hb dX3_rowsOf_11 rfl (lv_at hl 0 rfl) ?_
      have hp_3 : kd E (ad E a 1) = 1 := ok.pk hO h_a (by decide) k7_1 rfl
      refine ok.getR hO h_a (by decide) k7_1 (by decide) (fun _ _ he hv kk => th_get (ci := 3) (C := RX3) (T := TX3) (N := 5) hx hb hts inX3 hown hK hH he rfl 1 (by decide) fl1 hv dX3_rowsOf_12 kk) ?_
      refine lv_iload_n hx hb dX3_rowsOf_15 rfl (lv_at hl 2 rfl) ?_
      refine lv_iconst (v := I 0) hx hb dX3_rowsOf_16 (by decide) ?_
      obtain ⟨_, hc_4⟩ := hO.cell hp_2 (by decide) (ci := 9) rfl
      refine th_calli (va_runV (As := [.int (I w1), .ref (ad E a 1), .int (I w2), .int (I 0)]) (rest := []) ⟨hx, hb, hml, hown, hts⟩ (t11_like 18 l G y b0 σ E hO (ad E a 0) hp_2 w1 (show rng w1 from rw1) (ad E a 1) hp_3 w2 (show rng w2 from rw2) 0 (show rng 0 from (show rng 0 from ⟨by decide, by decide⟩)) (by omega) (by omega) (by omega)) (cwV 4 hts gX3_rowsOf_X9_like rfl rfl rfl (by decide +kernel) ⟨(by first | (simp only [headSpec]; omega) | omega | (dsimp only; omega)), (by first | (simp only [headSpec]; omega) | omega | (dsimp only; omega))⟩) (th_PV hK hH rfl hc_4) rfl rfl hl.1 rfl (lv_room (Nat.le_of_ble_eq_true rfl)) dX3_rowsOf_17 ⟨(by first | (simp only [headSpec]; omega) | omega | (dsimp only; omega)), (by first | (simp only [headSpec]; omega) | omega | (dsimp only; omega))⟩) hS (fun z_7 σ_s_6 H locs rz_7 hw_5 hH hS => ?_)
      obtain ⟨e9, bhw_5, hw_5⟩ := hw_5
      replace e9 := e9.symm
      subst e9
      refine lv_if_eq (tgt := 24) hx hb dX3_rowsOf_20 (by decide) (fun c_8 => ?_) (fun c_8 => ?_)
      · replace c_8 := (I_eq (a := z_7) (b := 0) rz_7 (show rng 0 from ⟨by decide, by decide⟩)).mp c_8
        refine lv_aload_n hx hb dX3_rowsOf_24 rfl (lv_at hl 0 rfl) ?_
        refine ok.getR hO h_a (by decide) k7_0 (by decide) (fun _ _ he hv kk => th_get (ci := 3) (C := RX3) (T := TX3) (N := 5) hx hb hts inX3 hown hK hH he rfl 0 (by decide) fl0 hv dX3_rowsOf_25 kk) ?_
        refine lv_iload_n hx hb dX3_rowsOf_28 rfl (lv_at hl 1 rfl) ?_
        obtain ⟨z_9, e_10, rz_9, lz_9, uz_9⟩ := hO.gi hp_2 (by decide) k1_4
        obtain ⟨_, hc_11⟩ := hO.cell hp_2 (by decide) (ci := 9) rfl
        refine th_calli (va_runV (As := [.int (I w1)]) (rest := []) ⟨hx, hb, hml, hown, hts⟩ (t_kindAt l G y b0 σ (ad E a 0) (tvE E σ (ad E a 0) 60) w1 (hO.isT1 hp_2) (show rng w1 from rw1)) (cwV 1 hts gX3_rowsOf_X9_kindAt rfl rfl rfl (by decide +kernel) ⟨(by first | (simp only [headSpec]; omega) | omega | (dsimp only; omega)), (by first | (simp only [headSpec]; omega) | omega | (dsimp only; omega))⟩) (th_PV hK hH rfl hc_11) rfl rfl hl.1 rfl (lv_room (Nat.le_of_ble_eq_true rfl)) dX3_rowsOf_29 ⟨(by first | (simp only [headSpec]; omega) | omega | (dsimp only; omega)), (by first | (simp only [headSpec]; omega) | omega | (dsimp only; omega))⟩) hS (fun z_14 σ_s_13 H locs rz_14 hw_12 hH hS => ?_)
        obtain ⟨e9, hw_12⟩ := hw_12
        replace e9 := e9.symm
        subst e9
        have hw_12 : (0 ≤ w1 ∧ w1 < (gI σ (ad E a 0) 4)) ∨ z_14 = -1 := hw_12
        refine lv_istore (lv' := [(4, .int (I z_14)), (0, .ref a), (1, .int (I w1)), (2, .int (I w2)), (3, .int (I lv))]) hx hb dX3_rowsOf_32 hl (by decide) rfl (fun ls hl => ?_)
        refine lv_iload hx hb dX3_rowsOf_34 (lv_at hl 0 rfl) ?_
        refine lv_iconst (v := I 3) hx hb dX3_rowsOf_36 (by decide) ?_
        refine th_join (α := Unit) (J := 62) (stk := fun x9 => []) (fun x9 σ9 H9 l9 ls9 => σ9 = σ ∧ th_H G b0 σ9 H9 ∧ va_S (th_A b0) s.heap H9 l9 ∧ lv_has ls9 5 [(0, .ref a), (1, .int (I w1)), (2, .int (I w2)), (3, .int (I lv)), (4, .int (I z_14))]) ?_ (fun jK_29 => ?_)
        · intro x9 σ_K_29 H locs ls hI9
          obtain ⟨eK_29, hH, hS, hl⟩ := hI9
          replace eK_29 := eK_29.symm
          subst eK_29
          have hl : lv_has ls 5 [(0, .ref a), (1, .int (I w1)), (2, .int (I w2)), (3, .int (I lv)), (4, .int (I z_14))] := hl
          refine lv_iload hx hb dX3_rowsOf_62 (lv_at hl 4 rfl) ?_
          refine lv_iconst (v := I 2) hx hb dX3_rowsOf_64 (by decide) ?_
          refine lv_icmp_ne (tgt := 90) hx hb dX3_rowsOf_65 (by decide) (fun c_30 => ?_) (fun c_30 => ?_)
          · replace c_30 := mt (I_eq (a := z_14) (b := 2) rz_14 (show rng 2 from ⟨by decide, by decide⟩)).mpr c_30
            refine lv_aload_n hx hb dX3_rowsOf_90 rfl (lv_at hl 0 rfl) ?_
            refine lv_iload_n hx hb dX3_rowsOf_91 rfl (lv_at hl 1 rfl) ?_
            refine lv_iload_n hx hb dX3_rowsOf_92 rfl (lv_at hl 2 rfl) ?_
            obtain ⟨_, hc_31⟩ := hO.cell h_a (by decide) (ci := 3) rfl
            refine th_callv (va_runV (As := [.int (I w1), .int (I w2)]) (rest := []) ⟨hx, hb, hml, hown, hts⟩ (h_addRow l G y b0 σ E hO a h_a w1 (show rng w1 from rw1) (by omega) (by omega) w2 (show rng w2 from rw2) (by omega) (by omega)) (cwV 2 hts gX3_rowsOf_X3_addRow rfl rfl rfl (by decide +kernel) ⟨(by first | (simp only [headSpec]; omega) | omega | (dsimp only; omega)), (by first | (simp only [headSpec]; omega) | omega | (dsimp only; omega))⟩) (th_PV hK hH rfl hc_31) rfl rfl hl.1 rfl (lv_room (Nat.le_of_ble_eq_true rfl)) dX3_rowsOf_93 ⟨(by first | (simp only [headSpec]; omega) | omega | (dsimp only; omega)), (by first | (simp only [headSpec]; omega) | omega | (dsimp only; omega))⟩) hS (fun σ_s_33 H locs hw_32 hH hS => ?_)
            obtain ⟨hO9, hF9, hw_32⟩ := hw_32
            have e_34 : gI σ_s_33 (ad E a 0) 4 = z_9 := (fr.ki hO hF9 hp_2 (by decide) (by decide) _).trans e_10
            replace hO := hO9
            replace hF := hF.tu hF9 (by decide)
            exact th_vret hx hb hr hlocks hH hS ⟨hO, hF, trivial⟩ dX3_rowsOf_96
          · replace c_30 := (I_eq (a := z_14) (b := 2) rz_14 (show rng 2 from ⟨by decide, by decide⟩)).mp c_30
            refine lv_aload_n hx hb dX3_rowsOf_68 rfl (lv_at hl 0 rfl) ?_
            refine ok.getR hO h_a (by decide) k7_1 (by decide) (fun _ _ he hv kk => th_get (ci := 3) (C := RX3) (T := TX3) (N := 5) hx hb hts inX3 hown hK hH he rfl 1 (by decide) fl1 hv dX3_rowsOf_69 kk) ?_
            refine lv_iload_n hx hb dX3_rowsOf_72 rfl (lv_at hl 2 rfl) ?_
            obtain ⟨z_35, e_36, rz_35, lz_35, uz_35⟩ := hO.gi hp_3 (by decide) k1_4
            obtain ⟨_, hc_37⟩ := hO.cell hp_3 (by decide) (ci := 9) rfl
            refine th_calli (va_runV (As := [.int (I w2)]) (rest := []) ⟨hx, hb, hml, hown, hts⟩ (t_kindAt l G y b0 σ (ad E a 1) (tvE E σ (ad E a 1) 60) w2 (hO.isT1 hp_3) (show rng w2 from rw2)) (cwV 1 hts gX3_rowsOf_X9_kindAt rfl rfl rfl (by decide +kernel) ⟨(by first | (simp only [headSpec]; omega) | omega | (dsimp only; omega)), (by first | (simp only [headSpec]; omega) | omega | (dsimp only; omega))⟩) (th_PV hK hH rfl hc_37) rfl rfl hl.1 rfl (lv_room (Nat.le_of_ble_eq_true rfl)) dX3_rowsOf_73 ⟨(by first | (simp only [headSpec]; omega) | omega | (dsimp only; omega)), (by first | (simp only [headSpec]; omega) | omega | (dsimp only; omega))⟩) hS (fun z_40 σ_s_39 H locs rz_40 hw_38 hH hS => ?_)
            obtain ⟨e9, hw_38⟩ := hw_38
            replace e9 := e9.symm
            subst e9
            have hw_38 : (0 ≤ w2 ∧ w2 < (gI σ (ad E a 1) 4)) ∨ z_40 = -1 := hw_38
            refine lv_iconst (v := I 2) hx hb dX3_rowsOf_76 (by decide) ?_
            refine lv_icmp_ne (tgt := 90) hx hb dX3_rowsOf_77 (by decide) (fun c_41 => ?_) (fun c_41 => ?_)
            · replace c_41 := mt (I_eq (a := z_40) (b := 2) rz_40 (show rng 2 from ⟨by decide, by decide⟩)).mpr c_41
              refine lv_aload_n hx hb dX3_rowsOf_90 rfl (lv_at hl 0 rfl) ?_
              refine lv_iload_n hx hb dX3_rowsOf_91 rfl (lv_at hl 1 rfl) ?_
              refine lv_iload_n hx hb dX3_rowsOf_92 rfl (lv_at hl 2 rfl) ?_
              obtain ⟨_, hc_42⟩ := hO.cell h_a (by decide) (ci := 3) rfl
              refine th_callv (va_runV (As := [.int (I w1), .int (I w2)]) (rest := []) ⟨hx, hb, hml, hown, hts⟩ (h_addRow l G y b0 σ E hO a h_a w1 (show rng w1 from rw1) (by omega) (by omega) w2 (show rng w2 from rw2) (by omega) (by omega)) (cwV 2 hts gX3_rowsOf_X3_addRow rfl rfl rfl (by decide +kernel) ⟨(by first | (simp only [headSpec]; omega) | omega | (dsimp only; omega)), (by first | (simp only [headSpec]; omega) | omega | (dsimp only; omega))⟩) (th_PV hK hH rfl hc_42) rfl rfl hl.1 rfl (lv_room (Nat.le_of_ble_eq_true rfl)) dX3_rowsOf_93 ⟨(by first | (simp only [headSpec]; omega) | omega | (dsimp only; omega)), (by first | (simp only [headSpec]; omega) | omega | (dsimp only; omega))⟩) hS (fun σ_s_44 H locs hw_43 hH hS => ?_)
              obtain ⟨hO9, hF9, hw_43⟩ := hw_43
              have e_45 : gI σ_s_44 (ad E a 0) 4 = z_9 := (fr.ki hO hF9 hp_2 (by decide) (by decide) _).trans e_10
              have e_46 : gI σ_s_44 (ad E a 1) 4 = z_35 := (fr.ki hO hF9 hp_3 (by decide) (by decide) _).trans e_36
              replace hO := hO9
              replace hF := hF.tu hF9 (by decide)
              exact th_vret hx hb hr hlocks hH hS ⟨hO, hF, trivial⟩ dX3_rowsOf_96
            · replace c_41 := (I_eq (a := z_40) (b := 2) rz_40 (show rng 2 from ⟨by decide, by decide⟩)).mp c_41
              refine lv_aload_n hx hb dX3_rowsOf_80 rfl (lv_at hl 0 rfl) ?_
              refine lv_iload_n hx hb dX3_rowsOf_81 rfl (lv_at hl 1 rfl) ?_
              refine lv_iload_n hx hb dX3_rowsOf_82 rfl (lv_at hl 2 rfl) ?_
              refine lv_iload_n hx hb dX3_rowsOf_83 rfl (lv_at hl 3 rfl) ?_
              obtain ⟨_, hc_47⟩ := hO.cell h_a (by decide) (ci := 3) rfl
              refine th_callv (va_runV (As := [.int (I w1), .int (I w2), .int (I lv)]) (rest := []) ⟨hx, hb, hml, hown, hts⟩ (h_rowsOfLists n ih l G y b0 σ E hO a h_a w1 (show rng w1 from rw1) (by omega) (by omega) w2 (show rng w2 from rw2) (by omega) (by omega) lv (show rng lv from rlv) (by omega) (by omega) (by omega)) (cwV 3 hts gX3_rowsOf_X3_rowsOfLists rfl rfl rfl (by decide +kernel) ⟨(by first | (simp only [headSpec]; omega) | omega | (dsimp only; omega)), (by first | (simp only [headSpec]; omega) | omega | (dsimp only; omega))⟩) (th_PV hK hH rfl hc_47) rfl rfl hl.1 rfl (lv_room (Nat.le_of_ble_eq_true rfl)) dX3_rowsOf_84 ⟨(by first | (simp only [headSpec]; omega) | omega | (dsimp only; omega)), (by first | (simp only [headSpec]; omega) | omega | (dsimp only; omega))⟩) hS (fun σ_s_49 H locs hw_48 hH hS => ?_)
              obtain ⟨hO9, hF9, hw_48⟩ := hw_48
              have e_50 : gI σ_s_49 (ad E a 0) 4 = z_9 := (fr.ki hO hF9 hp_2 (by decide) (by decide) _).trans e_10
              have e_51 : gI σ_s_49 (ad E a 1) 4 = z_35 := (fr.ki hO hF9 hp_3 (by decide) (by decide) _).trans e_36
              replace hO := hO9
              replace hF := hF.tu hF9 (by decide)
              refine lv_goto (tgt := 96) hx hb dX3_rowsOf_87 (by decide) ?_
              exact th_vret hx hb hr hlocks hH hS ⟨hO, hF, trivial⟩ dX3_rowsOf_96
        · refine lv_icmp_ne (tgt := 62) hx hb dX3_rowsOf_37 (by decide) (fun c_52 => ?_) (fun c_52 => ?_)
          · replace c_52 := mt (I_eq (a := z_14) (b := 3) rz_14 (show rng 3 from ⟨by decide, by decide⟩)).mpr c_52
            exact jK_29 () σ _ _ _ ⟨rfl, hH, hS, lv_sub hl [1, 2, 3, 4, 0] rfl⟩
          · replace c_52 := (I_eq (a := z_14) (b := 3) rz_14 (show rng 3 from ⟨by decide, by decide⟩)).mp c_52
            refine lv_aload_n hx hb dX3_rowsOf_40 rfl (lv_at hl 1 rfl) ?_
            refine ok.getR hO h_a (by decide) k7_1 (by decide) (fun _ _ he hv kk => th_get (ci := 3) (C := RX3) (T := TX3) (N := 5) hx hb hts inX3 hown hK hH he rfl 1 (by decide) fl1 hv dX3_rowsOf_41 kk) ?_
            refine lv_iload_n hx hb dX3_rowsOf_44 rfl (lv_at hl 3 rfl) ?_
            obtain ⟨z_53, e_54, rz_53, lz_53, uz_53⟩ := hO.gi hp_3 (by decide) k1_4
            obtain ⟨_, hc_55⟩ := hO.cell hp_3 (by decide) (ci := 9) rfl
            refine th_calli (va_runV (As := [.int (I w2)]) (rest := []) ⟨hx, hb, hml, hown, hts⟩ (t_kindAt l G y b0 σ (ad E a 1) (tvE E σ (ad E a 1) 60) w2 (hO.isT1 hp_3) (show rng w2 from rw2)) (cwV 1 hts gX3_rowsOf_X9_kindAt rfl rfl rfl (by decide +kernel) ⟨(by first | (simp only [headSpec]; omega) | omega | (dsimp only; omega)), (by first | (simp only [headSpec]; omega) | omega | (dsimp only; omega))⟩) (th_PV hK hH rfl hc_55) rfl rfl hl.1 rfl (lv_room (Nat.le_of_ble_eq_true rfl)) dX3_rowsOf_45 ⟨(by first | (simp only [headSpec]; omega) | omega | (dsimp only; omega)), (by first | (simp only [headSpec]; omega) | omega | (dsimp only; omega))⟩) hS (fun z_58 σ_s_57 H locs rz_58 hw_56 hH hS => ?_)
            obtain ⟨e9, hw_56⟩ := hw_56
            replace e9 := e9.symm
            subst e9
            have hw_56 : (0 ≤ w2 ∧ w2 < (gI σ (ad E a 1) 4)) ∨ z_58 = -1 := hw_56
            refine lv_iconst (v := I 3) hx hb dX3_rowsOf_48 (by decide) ?_
            refine lv_icmp_ne (tgt := 62) hx hb dX3_rowsOf_49 (by decide) (fun c_59 => ?_) (fun c_59 => ?_)
            · replace c_59 := mt (I_eq (a := z_58) (b := 3) rz_58 (show rng 3 from ⟨by decide, by decide⟩)).mpr c_59
              exact jK_29 () σ _ _ _ ⟨rfl, hH, hS, lv_sub hl [1, 2, 3, 4, 0] rfl⟩
            · replace c_59 := (I_eq (a := z_58) (b := 3) rz_58 (show rng 3 from ⟨by decide, by decide⟩)).mp c_59
              refine lv_aload_n hx hb dX3_rowsOf_52 rfl (lv_at hl 1 rfl) ?_
              refine lv_iload_n hx hb dX3_rowsOf_53 rfl (lv_at hl 2 rfl) ?_
              refine lv_iload_n hx hb dX3_rowsOf_54 rfl (lv_at hl 3 rfl) ?_
              refine lv_iload_n hx hb dX3_rowsOf_55 rfl (lv_at hl 4 rfl) ?_
              obtain ⟨_, hc_60⟩ := hO.cell h_a (by decide) (ci := 3) rfl
              refine th_callv (va_runV (As := [.int (I w1), .int (I w2), .int (I lv)]) (rest := []) ⟨hx, hb, hml, hown, hts⟩ (h_rowsOfMaps n ih l G y b0 σ E hO a h_a w1 (show rng w1 from rw1) (by omega) (by omega) w2 (show rng w2 from rw2) (by omega) (by omega) lv (show rng lv from rlv) (by omega) (by omega) (by omega)) (cwV 3 hts gX3_rowsOf_X3_rowsOfMaps rfl rfl rfl (by decide +kernel) ⟨(by first | (simp only [headSpec]; omega) | omega | (dsimp only; omega)), (by first | (simp only [headSpec]; omega) | omega | (dsimp only; omega))⟩) (th_PV hK hH rfl hc_60) rfl rfl hl.1 rfl (lv_room (Nat.le_of_ble_eq_true rfl)) dX3_rowsOf_56 ⟨(by first | (simp only [headSpec]; omega) | omega | (dsimp only; omega)), (by first | (simp only [headSpec]; omega) | omega | (dsimp only; omega))⟩) hS (fun σ_s_62 H locs hw_61 hH hS => ?_)
              obtain ⟨hO9, hF9, hw_61⟩ := hw_61
              have e_63 : gI σ_s_62 (ad E a 0) 4 = z_9 := (fr.ki hO hF9 hp_2 (by decide) (by decide) _).trans e_10
              have e_64 : gI σ_s_62 (ad E a 1) 4 = z_53 := (fr.ki hO hF9 hp_3 (by decide) (by decide) _).trans e_54
              replace hO := hO9
              replace hF := hF.tu hF9 (by decide)
              refine lv_goto (tgt := 96) hx hb dX3_rowsOf_59 (by decide) ?_
              exact th_vret hx hb hr hlocks hH hS ⟨hO, hF, trivial⟩ dX3_rowsOf_96
      · replace c_8 := mt (I_eq (a := z_7) (b := 0) rz_7 (show rng 0 from ⟨by decide, by decide⟩)).mpr c_8
        exact th_vret hx hb hr hlocks hH hS ⟨hO, hF, trivial⟩ dX3_rowsOf_23

set_option maxHeartbeats 1000000 in
set_option maxRecDepth 100000 in
theorem h_compare (l : Launch) (G : va_G) (y : Nat → ClassId) (b0 : Nat) (σ : th_M) (E : th_E) (hO : ok y E σ) (a : Nat) (h_a : kd E a = 7) (b : Nat) (h_b : kd E b = 1) (c9 : Nat) (h_c9 : kd E c9 = 1) : Met l yX3_compare wsX3_compare ({ frames := 143, cells := 0, slots := 0, locals := 4188 }) (th_P G y b0 σ [.ref a, .ref b, .ref c9]) (th_Qi G b0 (fun r σ1 => ok y E σ1 ∧ fr [7, 1] E σ σ1 ∧ (True))) 0 0 (th_A b0) := by
  refine Met.ofW (cc := cX3_compare) (maxL := 3) (ret := (some .int)) (by decide) rfl ?_
  intro p e s m args below meth c s₁ B hml hv
  obtain ⟨rfl, hH, hK⟩ := hv
  have hx := B.exec
  have hb := B.bytes
  have hr := B.returns
  have hts := atoms_spec (ws := wsX3_compare) B.pre
  have hown : s.vm.findClass RX3 = some m.cls := findClass_of_methodNamed B.named
  have hlocks := B.notSynchronized
  have h00 : b0 ≤ s.heap.size := hH.1
  have hS : va_S (th_A b0) s.heap s.heap [] := va_S.rf
  have hF : fr [7, 1] E σ σ := fr.rf
  have inX3 : ∀ w ∈ wsX30, w ∈ wsX3_compare := by decide +kernel
  have fl0 := hts (.fieldLink RX3 14 "NestQuery$Patch" "from" "LNestQuery$Tree;") (by decide +kernel)
  have fl1 := hts (.fieldLink RX3 20 "NestQuery$Patch" "to" "LNestQuery$Tree;") (by decide +kernel)
  have fl2 := hts (.fieldLink RX3 34 "NestQuery$Patch" "rowCount" "I") (by decide +kernel)
  have hl := lv_entry ([.ref a, .ref b, .ref c9]) (n := 3) (Nat.le_of_ble_eq_true rfl)
  rw [lg_entry_eq]
  generalize (lg_sl ([.ref a, .ref b, .ref c9]) ++ List.replicate (3 - (lg_sl ([.ref a, .ref b, .ref c9])).length) Slot.unset).toArray = ls at hl ⊢
  have hl : lv_has ls 3 [(0, .ref a), (1, .ref b), (2, .ref c9)] := hl
  refine lv_aload_n hx hb dX3_compare_0 rfl (lv_at hl 0 rfl) ?_
  have hp_1 : kd E (ad E a 0) = 1 := ok.pk hO h_a (by decide) k7_0 rfl
  refine ok.getR hO h_a (by decide) k7_0 (by decide) (fun _ _ he hv kk => th_get (ci := 3) (C := RX3) (T := TX3) (N := 5) hx hb hts inX3 hown hK hH he rfl 0 (by decide) fl0 hv dX3_compare_1 kk) ?_
  refine lv_aload_n hx hb dX3_compare_4 rfl (lv_at hl 1 rfl) ?_
  obtain ⟨_, hc_2⟩ := hO.cell hp_1 (by decide) (ci := 9) rfl
  refine th_callv (va_runV (As := [.ref b]) (rest := []) ⟨hx, hb, hml, hown, hts⟩ (t11_become l G y b0 σ E hO (ad E a 0) hp_1 b h_b) (cwV 1 hts gX3_compare_X9_become rfl rfl rfl (by decide +kernel) ⟨Nat.le_of_ble_eq_true rfl, Nat.le_of_ble_eq_true rfl⟩) (th_PV hK hH rfl hc_2) rfl rfl hl.1 rfl (lv_room (Nat.le_of_ble_eq_true rfl)) dX3_compare_5 ⟨Nat.le_of_ble_eq_true rfl, Nat.le_of_ble_eq_true rfl⟩) hS (fun σ_s_4 H locs hw_3 hH hS => ?_)
  obtain ⟨hO9, hF9, hw_3⟩ := hw_3
  replace hO := hO9
  replace hF := hF.tu hF9 (by decide)
  refine lv_aload_n hx hb dX3_compare_8 rfl (lv_at hl 0 rfl) ?_
  have hp_5 : kd E (ad E a 1) = 1 := ok.pk hO h_a (by decide) k7_1 rfl
  refine ok.getR hO h_a (by decide) k7_1 (by decide) (fun _ _ he hv kk => th_get (ci := 3) (C := RX3) (T := TX3) (N := 5) hx hb hts inX3 hown hK hH he rfl 1 (by decide) fl1 hv dX3_compare_9 kk) ?_
  refine lv_aload_n hx hb dX3_compare_12 rfl (lv_at hl 2 rfl) ?_
  obtain ⟨_, hc_6⟩ := hO.cell hp_5 (by decide) (ci := 9) rfl
  refine th_callv (va_runV (As := [.ref c9]) (rest := []) ⟨hx, hb, hml, hown, hts⟩ (t11_become l G y b0 σ_s_4 E hO (ad E a 1) hp_5 c9 h_c9) (cwV 1 hts gX3_compare_X9_become rfl rfl rfl (by decide +kernel) ⟨Nat.le_of_ble_eq_true rfl, Nat.le_of_ble_eq_true rfl⟩) (th_PV hK hH rfl hc_6) rfl rfl hl.1 rfl (lv_room (Nat.le_of_ble_eq_true rfl)) dX3_compare_13 ⟨Nat.le_of_ble_eq_true rfl, Nat.le_of_ble_eq_true rfl⟩) hS (fun σ_s_8 H locs hw_7 hH hS => ?_)
  obtain ⟨hO9, hF9, hw_7⟩ := hw_7
  replace hO := hO9
  replace hF := hF.tu hF9 (by decide)
  refine lv_aload_n hx hb dX3_compare_16 rfl (lv_at hl 0 rfl) ?_
  refine lv_iconst (v := I 0) hx hb dX3_compare_17 (by decide) ?_
  refine ok.putI hO h_a (by decide) k7_4 (show rng 0 from ⟨by decide, by decide⟩) (by omega) (by omega) (fun _ he hl9 kk => th_put (ci := 3) (v := .int (I 0)) (ty := .int) (C := RX3) (T := TX3) (N := 5) hx hb hts inX3 tyX3 tyX3_ok nmX3 hown hK hH hS h00 he rfl 4 (by decide) fl2 rfl (by decide +kernel) rfl rfl hl9 dX3_compare_18 kk) (fun σ_s_9 H locs hO hF9 hg9 hi9 ha9 hH hS => ?_)
  replace hF := hF.tu hF9 (by decide)
  have e_10 := hg9
  refine lv_aload_n hx hb dX3_compare_21 rfl (lv_at hl 0 rfl) ?_
  refine lv_iconst (v := I 0) hx hb dX3_compare_22 (by decide) ?_
  refine lv_iconst (v := I 0) hx hb dX3_compare_23 (by decide) ?_
  refine lv_iconst (v := I 0) hx hb dX3_compare_24 (by decide) ?_
  obtain ⟨_, hc_11⟩ := hO.cell h_a (by decide) (ci := 3) rfl
  refine th_callv (va_runV (As := [.int (I 0), .int (I 0), .int (I 0)]) (rest := []) ⟨hx, hb, hml, hown, hts⟩ (h_rowsOf 18 l G y b0 σ_s_9 E hO a h_a 0 (show rng 0 from (show rng 0 from ⟨by decide, by decide⟩)) (by omega) (by omega) 0 (show rng 0 from (show rng 0 from ⟨by decide, by decide⟩)) (by omega) (by omega) 0 (show rng 0 from (show rng 0 from ⟨by decide, by decide⟩)) (by omega) (by omega) (by omega)) (cwV 3 hts gX3_compare_X3_rowsOf rfl rfl rfl (by decide +kernel) ⟨Nat.le_of_ble_eq_true rfl, Nat.le_of_ble_eq_true rfl⟩) (th_PV hK hH rfl hc_11) rfl rfl hl.1 rfl (lv_room (Nat.le_of_ble_eq_true rfl)) dX3_compare_25 ⟨Nat.le_of_ble_eq_true rfl, Nat.le_of_ble_eq_true rfl⟩) hS (fun σ_s_13 H locs hw_12 hH hS => ?_)
  obtain ⟨hO9, hF9, hw_12⟩ := hw_12
  replace hO := hO9
  replace hF := hF.tu hF9 (by decide)
  refine lv_aload_n hx hb dX3_compare_28 rfl (lv_at hl 0 rfl) ?_
  refine ok.getI hO h_a (by decide) k7_4 (fun _ _ he hv kk => th_get (ci := 3) (C := RX3) (T := TX3) (N := 5) hx hb hts inX3 hown hK hH he rfl 4 (by decide) fl2 hv dX3_compare_29 kk) (fun z_14 e_15 rz_14 lz_14 uz_14 => ?_)
  exact th_iret hx hb hr hlocks hH hS (z := z_14) rz_14 ⟨hO, hF, trivial⟩ dX3_compare_32

set_option maxHeartbeats 1000000 in
set_option maxRecDepth 100000 in
theorem h_wasOf (l : Launch) (G : va_G) (y : Nat → ClassId) (b0 : Nat) (σ : th_M) (E : th_E) (hO : ok y E σ) (a : Nat) (h_a : kd E a = 7) (i : Int) (ri : rng i) : Met l yX3_wasOf wsX3_wasOf ({ frames := 0, cells := 0, slots := 0, locals := 0 }) (th_P G y b0 σ [.ref a, .int (I i)]) (th_Qi G b0 (fun r σ1 => σ1 = σ ∧ (-1 ≤ r ∧ r ≤ 59))) 0 0 (th_A b0) := by
  refine Met.ofW (cc := cX3_wasOf) (maxL := 2) (ret := (some .int)) (by decide) rfl ?_
  intro p e s m args below meth c s₁ B hml hv
  obtain ⟨rfl, hH, hK⟩ := hv
  have hx := B.exec
  have hb := B.bytes
  have hr := B.returns
  have hts := atoms_spec (ws := wsX3_wasOf) B.pre
  have hown : s.vm.findClass RX3 = some m.cls := findClass_of_methodNamed B.named
  have hlocks := B.notSynchronized
  have h00 : b0 ≤ s.heap.size := hH.1
  have hS : va_S (th_A b0) s.heap s.heap [] := va_S.rf
  have inX3 : ∀ w ∈ wsX30, w ∈ wsX3_wasOf := by decide +kernel
  have fl0 := hts (.fieldLink RX3 34 "NestQuery$Patch" "rowCount" "I") (by decide +kernel)
  have fl1 := hts (.fieldLink RX3 23 "NestQuery$Patch" "rowFrom" "[I") (by decide +kernel)
  have hl := lv_entry ([.ref a, .int (I i)]) (n := 2) (Nat.le_of_ble_eq_true rfl)
  rw [lg_entry_eq]
  generalize (lg_sl ([.ref a, .int (I i)]) ++ List.replicate (2 - (lg_sl ([.ref a, .int (I i)])).length) Slot.unset).toArray = ls at hl ⊢
  have hl : lv_has ls 2 [(0, .ref a), (1, .int (I i))] := hl
  refine lv_iload_n hx hb dX3_wasOf_0 rfl (lv_at hl 1 rfl) ?_
  refine lv_if_lt (tgt := 12) hx hb dX3_wasOf_1 (by decide) (fun c_1 => ?_) (fun c_1 => ?_)
  · replace c_1 := (I_lt (a := i) (b := 0) ri (show rng 0 from ⟨by decide, by decide⟩)).mp c_1
    refine lv_iconst (v := I (-1)) hx hb dX3_wasOf_12 (by decide) ?_
    refine lv_goto (tgt := 22) hx hb dX3_wasOf_13 (by decide) ?_
    exact th_iret hx hb hr hlocks hH hS (z := (-1)) (show rng (-1) from ⟨by decide, by decide⟩) ⟨rfl, by omega⟩ dX3_wasOf_22
  · replace c_1 := mt (I_lt (a := i) (b := 0) ri (show rng 0 from ⟨by decide, by decide⟩)).mpr c_1
    refine lv_iload_n hx hb dX3_wasOf_4 rfl (lv_at hl 1 rfl) ?_
    refine lv_aload_n hx hb dX3_wasOf_5 rfl (lv_at hl 0 rfl) ?_
    refine ok.getI hO h_a (by decide) k7_4 (fun _ _ he hv kk => th_get (ci := 3) (C := RX3) (T := TX3) (N := 5) hx hb hts inX3 hown hK hH he rfl 4 (by decide) fl0 hv dX3_wasOf_6 kk) (fun z_2 e_3 rz_2 lz_2 uz_2 => ?_)
    refine lv_icmp_lt (tgt := 16) hx hb dX3_wasOf_9 (by decide) (fun c_4 => ?_) (fun c_4 => ?_)
    · replace c_4 := (I_lt (a := i) (b := z_2) ri rz_2).mp c_4
      refine lv_aload_n hx hb dX3_wasOf_16 rfl (lv_at hl 0 rfl) ?_
      refine ok.getR hO h_a (by decide) k7_2 (by decide) (fun _ _ he hv kk => th_get (ci := 3) (C := RX3) (T := TX3) (N := 5) hx hb hts inX3 hown hK hH he rfl 2 (by decide) fl1 hv dX3_wasOf_17 kk) ?_
      refine lv_iload_n hx hb dX3_wasOf_20 rfl (lv_at hl 1 rfl) ?_
      refine ok_iald hx hb hK hH hO h_a (by decide) k7_2 isA10 ri (by omega) (by omega) dX3_wasOf_21 (fun z_5 ez_5 rz_5 el9 => ?_)
      have uz_5 := el9.2.2 rfl
      exact th_iret hx hb hr hlocks hH hS (z := z_5) rz_5 ⟨rfl, by omega⟩ dX3_wasOf_22
    · replace c_4 := mt (I_lt (a := i) (b := z_2) ri rz_2).mpr c_4
      refine lv_iconst (v := I (-1)) hx hb dX3_wasOf_12 (by decide) ?_
      refine lv_goto (tgt := 22) hx hb dX3_wasOf_13 (by decide) ?_
      exact th_iret hx hb hr hlocks hH hS (z := (-1)) (show rng (-1) from ⟨by decide, by decide⟩) ⟨rfl, by omega⟩ dX3_wasOf_22

set_option maxHeartbeats 1000000 in
set_option maxRecDepth 100000 in
theorem h_isOf (l : Launch) (G : va_G) (y : Nat → ClassId) (b0 : Nat) (σ : th_M) (E : th_E) (hO : ok y E σ) (a : Nat) (h_a : kd E a = 7) (i : Int) (ri : rng i) : Met l yX3_isOf wsX3_isOf ({ frames := 0, cells := 0, slots := 0, locals := 0 }) (th_P G y b0 σ [.ref a, .int (I i)]) (th_Qi G b0 (fun r σ1 => σ1 = σ ∧ (-1 ≤ r ∧ r ≤ 59))) 0 0 (th_A b0) := by
  refine Met.ofW (cc := cX3_isOf) (maxL := 2) (ret := (some .int)) (by decide) rfl ?_
  intro p e s m args below meth c s₁ B hml hv
  obtain ⟨rfl, hH, hK⟩ := hv
  have hx := B.exec
  have hb := B.bytes
  have hr := B.returns
  have hts := atoms_spec (ws := wsX3_isOf) B.pre
  have hown : s.vm.findClass RX3 = some m.cls := findClass_of_methodNamed B.named
  have hlocks := B.notSynchronized
  have h00 : b0 ≤ s.heap.size := hH.1
  have hS : va_S (th_A b0) s.heap s.heap [] := va_S.rf
  have inX3 : ∀ w ∈ wsX30, w ∈ wsX3_isOf := by decide +kernel
  have fl0 := hts (.fieldLink RX3 34 "NestQuery$Patch" "rowCount" "I") (by decide +kernel)
  have fl1 := hts (.fieldLink RX3 27 "NestQuery$Patch" "rowTo" "[I") (by decide +kernel)
  have hl := lv_entry ([.ref a, .int (I i)]) (n := 2) (Nat.le_of_ble_eq_true rfl)
  rw [lg_entry_eq]
  generalize (lg_sl ([.ref a, .int (I i)]) ++ List.replicate (2 - (lg_sl ([.ref a, .int (I i)])).length) Slot.unset).toArray = ls at hl ⊢
  have hl : lv_has ls 2 [(0, .ref a), (1, .int (I i))] := hl
  refine lv_iload_n hx hb dX3_isOf_0 rfl (lv_at hl 1 rfl) ?_
  refine lv_if_lt (tgt := 12) hx hb dX3_isOf_1 (by decide) (fun c_1 => ?_) (fun c_1 => ?_)
  · replace c_1 := (I_lt (a := i) (b := 0) ri (show rng 0 from ⟨by decide, by decide⟩)).mp c_1
    refine lv_iconst (v := I (-1)) hx hb dX3_isOf_12 (by decide) ?_
    refine lv_goto (tgt := 22) hx hb dX3_isOf_13 (by decide) ?_
    exact th_iret hx hb hr hlocks hH hS (z := (-1)) (show rng (-1) from ⟨by decide, by decide⟩) ⟨rfl, by omega⟩ dX3_isOf_22
  · replace c_1 := mt (I_lt (a := i) (b := 0) ri (show rng 0 from ⟨by decide, by decide⟩)).mpr c_1
    refine lv_iload_n hx hb dX3_isOf_4 rfl (lv_at hl 1 rfl) ?_
    refine lv_aload_n hx hb dX3_isOf_5 rfl (lv_at hl 0 rfl) ?_
    refine ok.getI hO h_a (by decide) k7_4 (fun _ _ he hv kk => th_get (ci := 3) (C := RX3) (T := TX3) (N := 5) hx hb hts inX3 hown hK hH he rfl 4 (by decide) fl0 hv dX3_isOf_6 kk) (fun z_2 e_3 rz_2 lz_2 uz_2 => ?_)
    refine lv_icmp_lt (tgt := 16) hx hb dX3_isOf_9 (by decide) (fun c_4 => ?_) (fun c_4 => ?_)
    · replace c_4 := (I_lt (a := i) (b := z_2) ri rz_2).mp c_4
      refine lv_aload_n hx hb dX3_isOf_16 rfl (lv_at hl 0 rfl) ?_
      refine ok.getR hO h_a (by decide) k7_3 (by decide) (fun _ _ he hv kk => th_get (ci := 3) (C := RX3) (T := TX3) (N := 5) hx hb hts inX3 hown hK hH he rfl 3 (by decide) fl1 hv dX3_isOf_17 kk) ?_
      refine lv_iload_n hx hb dX3_isOf_20 rfl (lv_at hl 1 rfl) ?_
      refine ok_iald hx hb hK hH hO h_a (by decide) k7_3 isA10 ri (by omega) (by omega) dX3_isOf_21 (fun z_5 ez_5 rz_5 el9 => ?_)
      have uz_5 := el9.2.2 rfl
      exact th_iret hx hb hr hlocks hH hS (z := z_5) rz_5 ⟨rfl, by omega⟩ dX3_isOf_22
    · replace c_4 := mt (I_lt (a := i) (b := z_2) ri rz_2).mpr c_4
      refine lv_iconst (v := I (-1)) hx hb dX3_isOf_12 (by decide) ?_
      refine lv_goto (tgt := 22) hx hb dX3_isOf_13 (by decide) ?_
      exact th_iret hx hb hr hlocks hH hS (z := (-1)) (show rng (-1) from ⟨by decide, by decide⟩) ⟨rfl, by omega⟩ dX3_isOf_22

set_option maxHeartbeats 1000000 in
set_option maxRecDepth 100000 in
theorem h_kindOf (l : Launch) (G : va_G) (y : Nat → ClassId) (b0 : Nat) (σ : th_M) (E : th_E) (hO : ok y E σ) (a : Nat) (h_a : kd E a = 7) (i : Int) (ri : rng i) : Met l yX3_kindOf wsX3_kindOf ({ frames := 1, cells := 0, slots := 0, locals := 25 }) (th_P G y b0 σ [.ref a, .int (I i)]) (th_Qi G b0 (fun r σ1 => σ1 = σ ∧ (True))) 0 0 (th_A b0) := by
  refine Met.ofW (cc := cX3_kindOf) (maxL := 2) (ret := (some .int)) (by decide) rfl ?_
  intro p e s m args below meth c s₁ B hml hv
  obtain ⟨rfl, hH, hK⟩ := hv
  have hx := B.exec
  have hb := B.bytes
  have hr := B.returns
  have hts := atoms_spec (ws := wsX3_kindOf) B.pre
  have hown : s.vm.findClass RX3 = some m.cls := findClass_of_methodNamed B.named
  have hlocks := B.notSynchronized
  have h00 : b0 ≤ s.heap.size := hH.1
  have hS : va_S (th_A b0) s.heap s.heap [] := va_S.rf
  have hl := lv_entry ([.ref a, .int (I i)]) (n := 2) (Nat.le_of_ble_eq_true rfl)
  rw [lg_entry_eq]
  generalize (lg_sl ([.ref a, .int (I i)]) ++ List.replicate (2 - (lg_sl ([.ref a, .int (I i)])).length) Slot.unset).toArray = ls at hl ⊢
  have hl : lv_has ls 2 [(0, .ref a), (1, .int (I i))] := hl
  refine lv_aload_n hx hb dX3_kindOf_0 rfl (lv_at hl 0 rfl) ?_
  refine lv_iload_n hx hb dX3_kindOf_1 rfl (lv_at hl 1 rfl) ?_
  obtain ⟨_, hc_1⟩ := hO.cell h_a (by decide) (ci := 3) rfl
  refine th_calli (va_runV (As := [.int (I i)]) (rest := []) ⟨hx, hb, hml, hown, hts⟩ (h_wasOf l G y b0 σ E hO a h_a i (show rng i from ri)) (cwV 1 hts gX3_kindOf_X3_wasOf rfl rfl rfl (by decide +kernel) ⟨Nat.le_of_ble_eq_true rfl, Nat.le_of_ble_eq_true rfl⟩) (th_PV hK hH rfl hc_1) rfl rfl hl.1 rfl (lv_room (Nat.le_of_ble_eq_true rfl)) dX3_kindOf_2 ⟨Nat.le_of_ble_eq_true rfl, Nat.le_of_ble_eq_true rfl⟩) hS (fun z_4 σ_s_3 H locs rz_4 hw_2 hH hS => ?_)
  obtain ⟨e9, hw_2⟩ := hw_2
  replace e9 := e9.symm
  subst e9
  have hw_2 : -1 ≤ z_4 ∧ z_4 ≤ 59 := hw_2
  refine lv_iconst (v := I (-1)) hx hb dX3_kindOf_5 (by decide) ?_
  refine lv_icmp_ne (tgt := 11) hx hb dX3_kindOf_6 (by decide) (fun c_5 => ?_) (fun c_5 => ?_)
  · replace c_5 := mt (I_eq (a := z_4) (b := (-1)) rz_4 (show rng (-1) from ⟨by decide, by decide⟩)).mpr c_5
    refine lv_aload_n hx hb dX3_kindOf_11 rfl (lv_at hl 0 rfl) ?_
    refine lv_iload_n hx hb dX3_kindOf_12 rfl (lv_at hl 1 rfl) ?_
    obtain ⟨_, hc_6⟩ := hO.cell h_a (by decide) (ci := 3) rfl
    refine th_calli (va_runV (As := [.int (I i)]) (rest := []) ⟨hx, hb, hml, hown, hts⟩ (h_isOf l G y b0 σ E hO a h_a i (show rng i from ri)) (cwV 1 hts gX3_kindOf_X3_isOf rfl rfl rfl (by decide +kernel) ⟨Nat.le_of_ble_eq_true rfl, Nat.le_of_ble_eq_true rfl⟩) (th_PV hK hH rfl hc_6) rfl rfl hl.1 rfl (lv_room (Nat.le_of_ble_eq_true rfl)) dX3_kindOf_13 ⟨Nat.le_of_ble_eq_true rfl, Nat.le_of_ble_eq_true rfl⟩) hS (fun z_9 σ_s_8 H locs rz_9 hw_7 hH hS => ?_)
    obtain ⟨e9, hw_7⟩ := hw_7
    replace e9 := e9.symm
    subst e9
    have hw_7 : -1 ≤ z_9 ∧ z_9 ≤ 59 := hw_7
    refine lv_iconst (v := I (-1)) hx hb dX3_kindOf_16 (by decide) ?_
    refine lv_icmp_ne (tgt := 24) hx hb dX3_kindOf_17 (by decide) (fun c_10 => ?_) (fun c_10 => ?_)
    · replace c_10 := mt (I_eq (a := z_9) (b := (-1)) rz_9 (show rng (-1) from ⟨by decide, by decide⟩)).mpr c_10
      refine lv_iconst (v := I 3) hx hb dX3_kindOf_24 (by decide) ?_
      exact th_iret hx hb hr hlocks hH hS (z := 3) (show rng 3 from ⟨by decide, by decide⟩) ⟨rfl, trivial⟩ dX3_kindOf_25
    · replace c_10 := (I_eq (a := z_9) (b := (-1)) rz_9 (show rng (-1) from ⟨by decide, by decide⟩)).mp c_10
      refine lv_iconst (v := I 2) hx hb dX3_kindOf_20 (by decide) ?_
      refine lv_goto (tgt := 25) hx hb dX3_kindOf_21 (by decide) ?_
      exact th_iret hx hb hr hlocks hH hS (z := 2) (show rng 2 from ⟨by decide, by decide⟩) ⟨rfl, trivial⟩ dX3_kindOf_25
  · replace c_5 := (I_eq (a := z_4) (b := (-1)) rz_4 (show rng (-1) from ⟨by decide, by decide⟩)).mp c_5
    refine lv_iconst (v := I 1) hx hb dX3_kindOf_9 (by decide) ?_
    exact th_iret hx hb hr hlocks hH hS (z := 1) (show rng 1 from ⟨by decide, by decide⟩) ⟨rfl, trivial⟩ dX3_kindOf_10

set_option maxHeartbeats 1000000 in
set_option maxRecDepth 100000 in
theorem h_stepsOf (l : Launch) (G : va_G) (y : Nat → ClassId) (b0 : Nat) (σ : th_M) (E : th_E) (hO : ok y E σ) (a : Nat) (h_a : kd E a = 7) (i : Int) (ri : rng i) : Met l yX3_stepsOf wsX3_stepsOf ({ frames := 1, cells := 0, slots := 0, locals := 25 }) (th_P G y b0 σ [.ref a, .int (I i)]) (th_Qi G b0 (fun r σ1 => σ1 = σ ∧ (True))) 0 0 (th_A b0) := by
  refine Met.ofW (cc := cX3_stepsOf) (maxL := 2) (ret := (some .int)) (by decide) rfl ?_
  intro p e s m args below meth c s₁ B hml hv
  obtain ⟨rfl, hH, hK⟩ := hv
  have hx := B.exec
  have hb := B.bytes
  have hr := B.returns
  have hts := atoms_spec (ws := wsX3_stepsOf) B.pre
  have hown : s.vm.findClass RX3 = some m.cls := findClass_of_methodNamed B.named
  have hlocks := B.notSynchronized
  have h00 : b0 ≤ s.heap.size := hH.1
  have hS : va_S (th_A b0) s.heap s.heap [] := va_S.rf
  have inX3 : ∀ w ∈ wsX30, w ∈ wsX3_stepsOf := by decide +kernel
  have fl0 := hts (.fieldLink RX3 14 "NestQuery$Patch" "from" "LNestQuery$Tree;") (by decide +kernel)
  have fl1 := hts (.fieldLink RX3 20 "NestQuery$Patch" "to" "LNestQuery$Tree;") (by decide +kernel)
  have hl := lv_entry ([.ref a, .int (I i)]) (n := 2) (Nat.le_of_ble_eq_true rfl)
  rw [lg_entry_eq]
  generalize (lg_sl ([.ref a, .int (I i)]) ++ List.replicate (2 - (lg_sl ([.ref a, .int (I i)])).length) Slot.unset).toArray = ls at hl ⊢
  have hl : lv_has ls 2 [(0, .ref a), (1, .int (I i))] := hl
  refine lv_aload_n hx hb dX3_stepsOf_0 rfl (lv_at hl 0 rfl) ?_
  refine lv_iload_n hx hb dX3_stepsOf_1 rfl (lv_at hl 1 rfl) ?_
  obtain ⟨_, hc_1⟩ := hO.cell h_a (by decide) (ci := 3) rfl
  refine th_calli (va_runV (As := [.int (I i)]) (rest := []) ⟨hx, hb, hml, hown, hts⟩ (h_wasOf l G y b0 σ E hO a h_a i (show rng i from ri)) (cwV 1 hts gX3_stepsOf_X3_wasOf rfl rfl rfl (by decide +kernel) ⟨Nat.le_of_ble_eq_true rfl, Nat.le_of_ble_eq_true rfl⟩) (th_PV hK hH rfl hc_1) rfl rfl hl.1 rfl (lv_room (Nat.le_of_ble_eq_true rfl)) dX3_stepsOf_2 ⟨Nat.le_of_ble_eq_true rfl, Nat.le_of_ble_eq_true rfl⟩) hS (fun z_4 σ_s_3 H locs rz_4 hw_2 hH hS => ?_)
  obtain ⟨e9, hw_2⟩ := hw_2
  replace e9 := e9.symm
  subst e9
  have hw_2 : -1 ≤ z_4 ∧ z_4 ≤ 59 := hw_2
  refine lv_iconst (v := I (-1)) hx hb dX3_stepsOf_5 (by decide) ?_
  refine lv_icmp_ne (tgt := 24) hx hb dX3_stepsOf_6 (by decide) (fun c_5 => ?_) (fun c_5 => ?_)
  · replace c_5 := mt (I_eq (a := z_4) (b := (-1)) rz_4 (show rng (-1) from ⟨by decide, by decide⟩)).mpr c_5
    refine lv_aload_n hx hb dX3_stepsOf_24 rfl (lv_at hl 0 rfl) ?_
    have hp_6 : kd E (ad E a 0) = 1 := ok.pk hO h_a (by decide) k7_0 rfl
    refine ok.getR hO h_a (by decide) k7_0 (by decide) (fun _ _ he hv kk => th_get (ci := 3) (C := RX3) (T := TX3) (N := 5) hx hb hts inX3 hown hK hH he rfl 0 (by decide) fl0 hv dX3_stepsOf_25 kk) ?_
    refine lv_aload_n hx hb dX3_stepsOf_28 rfl (lv_at hl 0 rfl) ?_
    refine lv_iload_n hx hb dX3_stepsOf_29 rfl (lv_at hl 1 rfl) ?_
    obtain ⟨_, hc_7⟩ := hO.cell h_a (by decide) (ci := 3) rfl
    refine th_calli (va_runV (As := [.int (I i)]) (rest := [.ref (ad E a 0)]) ⟨hx, hb, hml, hown, hts⟩ (h_wasOf l G y b0 σ E hO a h_a i (show rng i from ri)) (cwV 1 hts gX3_stepsOf_X3_wasOf rfl rfl rfl (by decide +kernel) ⟨Nat.le_of_ble_eq_true rfl, Nat.le_of_ble_eq_true rfl⟩) (th_PV hK hH rfl hc_7) rfl rfl hl.1 rfl (lv_room (Nat.le_of_ble_eq_true rfl)) dX3_stepsOf_30 ⟨Nat.le_of_ble_eq_true rfl, Nat.le_of_ble_eq_true rfl⟩) hS (fun z_10 σ_s_9 H locs rz_10 hw_8 hH hS => ?_)
    obtain ⟨e9, hw_8⟩ := hw_8
    replace e9 := e9.symm
    subst e9
    have hw_8 : -1 ≤ z_10 ∧ z_10 ≤ 59 := hw_8
    obtain ⟨_, hc_11⟩ := hO.cell hp_6 (by decide) (ci := 9) rfl
    refine th_calli (va_runV (As := [.int (I z_10)]) (rest := []) ⟨hx, hb, hml, hown, hts⟩ (t1_depthAt l G y b0 σ E hO (ad E a 0) hp_6 z_10 (show rng z_10 from rz_10)) (cwV 1 hts gX3_stepsOf_X9_depthAt rfl rfl rfl (by decide +kernel) ⟨Nat.le_of_ble_eq_true rfl, Nat.le_of_ble_eq_true rfl⟩) (th_PV hK hH rfl hc_11) rfl rfl hl.1 rfl (lv_room (Nat.le_of_ble_eq_true rfl)) dX3_stepsOf_33 ⟨Nat.le_of_ble_eq_true rfl, Nat.le_of_ble_eq_true rfl⟩) hS (fun z_14 σ_s_13 H locs rz_14 hw_12 hH hS => ?_)
    obtain ⟨e9, hw_12⟩ := hw_12
    replace e9 := e9.symm
    subst e9
    have hw_12 : z_14 ≤ 7 ∧ ((0 ≤ z_10 ∧ z_10 < gI σ (ad E a 0) 4) ∨ (z_14 = -1 ∧ ¬ (0 ≤ z_10 ∧ z_10 < gI σ (ad E a 0) 4))) := hw_12
    exact th_iret hx hb hr hlocks hH hS (z := z_14) rz_14 ⟨rfl, trivial⟩ dX3_stepsOf_36
  · replace c_5 := (I_eq (a := z_4) (b := (-1)) rz_4 (show rng (-1) from ⟨by decide, by decide⟩)).mp c_5
    refine lv_aload_n hx hb dX3_stepsOf_9 rfl (lv_at hl 0 rfl) ?_
    have hp_15 : kd E (ad E a 1) = 1 := ok.pk hO h_a (by decide) k7_1 rfl
    refine ok.getR hO h_a (by decide) k7_1 (by decide) (fun _ _ he hv kk => th_get (ci := 3) (C := RX3) (T := TX3) (N := 5) hx hb hts inX3 hown hK hH he rfl 1 (by decide) fl1 hv dX3_stepsOf_10 kk) ?_
    refine lv_aload_n hx hb dX3_stepsOf_13 rfl (lv_at hl 0 rfl) ?_
    refine lv_iload_n hx hb dX3_stepsOf_14 rfl (lv_at hl 1 rfl) ?_
    obtain ⟨_, hc_16⟩ := hO.cell h_a (by decide) (ci := 3) rfl
    refine th_calli (va_runV (As := [.int (I i)]) (rest := [.ref (ad E a 1)]) ⟨hx, hb, hml, hown, hts⟩ (h_isOf l G y b0 σ E hO a h_a i (show rng i from ri)) (cwV 1 hts gX3_stepsOf_X3_isOf rfl rfl rfl (by decide +kernel) ⟨Nat.le_of_ble_eq_true rfl, Nat.le_of_ble_eq_true rfl⟩) (th_PV hK hH rfl hc_16) rfl rfl hl.1 rfl (lv_room (Nat.le_of_ble_eq_true rfl)) dX3_stepsOf_15 ⟨Nat.le_of_ble_eq_true rfl, Nat.le_of_ble_eq_true rfl⟩) hS (fun z_19 σ_s_18 H locs rz_19 hw_17 hH hS => ?_)
    obtain ⟨e9, hw_17⟩ := hw_17
    replace e9 := e9.symm
    subst e9
    have hw_17 : -1 ≤ z_19 ∧ z_19 ≤ 59 := hw_17
    obtain ⟨_, hc_20⟩ := hO.cell hp_15 (by decide) (ci := 9) rfl
    refine th_calli (va_runV (As := [.int (I z_19)]) (rest := []) ⟨hx, hb, hml, hown, hts⟩ (t1_depthAt l G y b0 σ E hO (ad E a 1) hp_15 z_19 (show rng z_19 from rz_19)) (cwV 1 hts gX3_stepsOf_X9_depthAt rfl rfl rfl (by decide +kernel) ⟨Nat.le_of_ble_eq_true rfl, Nat.le_of_ble_eq_true rfl⟩) (th_PV hK hH rfl hc_20) rfl rfl hl.1 rfl (lv_room (Nat.le_of_ble_eq_true rfl)) dX3_stepsOf_18 ⟨Nat.le_of_ble_eq_true rfl, Nat.le_of_ble_eq_true rfl⟩) hS (fun z_23 σ_s_22 H locs rz_23 hw_21 hH hS => ?_)
    obtain ⟨e9, hw_21⟩ := hw_21
    replace e9 := e9.symm
    subst e9
    have hw_21 : z_23 ≤ 7 ∧ ((0 ≤ z_19 ∧ z_19 < gI σ (ad E a 1) 4) ∨ (z_23 = -1 ∧ ¬ (0 ≤ z_19 ∧ z_19 < gI σ (ad E a 1) 4))) := hw_21
    refine lv_goto (tgt := 36) hx hb dX3_stepsOf_21 (by decide) ?_
    exact th_iret hx hb hr hlocks hH hS (z := z_23) rz_23 ⟨rfl, trivial⟩ dX3_stepsOf_36

set_option maxHeartbeats 1000000 in
set_option maxRecDepth 100000 in
theorem h_before (l : Launch) (G : va_G) (y : Nat → ClassId) (b0 : Nat) (σ : th_M) (E : th_E) (hO : ok y E σ) (a : Nat) (h_a : kd E a = 7) (i : Int) (ri : rng i) : Met l yX3_thingsBefore wsX3_thingsBefore ({ frames := 2, cells := 0, slots := 0, locals := 48 }) (th_P G y b0 σ [.ref a, .int (I i)]) (th_Qi G b0 (fun r σ1 => σ1 = σ ∧ (True))) 0 0 (th_A b0) := by
  refine Met.ofW (cc := cX3_thingsBefore) (maxL := 2) (ret := (some .int)) (by decide) rfl ?_
  intro p e s m args below meth c s₁ B hml hv
  obtain ⟨rfl, hH, hK⟩ := hv
  have hx := B.exec
  have hb := B.bytes
  have hr := B.returns
  have hts := atoms_spec (ws := wsX3_thingsBefore) B.pre
  have hown : s.vm.findClass RX3 = some m.cls := findClass_of_methodNamed B.named
  have hlocks := B.notSynchronized
  have h00 : b0 ≤ s.heap.size := hH.1
  have hS : va_S (th_A b0) s.heap s.heap [] := va_S.rf
  have inX3 : ∀ w ∈ wsX30, w ∈ wsX3_thingsBefore := by decide +kernel
  have fl0 := hts (.fieldLink RX3 14 "NestQuery$Patch" "from" "LNestQuery$Tree;") (by decide +kernel)
  have hl := lv_entry ([.ref a, .int (I i)]) (n := 2) (Nat.le_of_ble_eq_true rfl)
  rw [lg_entry_eq]
  generalize (lg_sl ([.ref a, .int (I i)]) ++ List.replicate (2 - (lg_sl ([.ref a, .int (I i)])).length) Slot.unset).toArray = ls at hl ⊢
  have hl : lv_has ls 2 [(0, .ref a), (1, .int (I i))] := hl
  refine lv_aload_n hx hb dX3_thingsBefore_0 rfl (lv_at hl 0 rfl) ?_
  have hp_1 : kd E (ad E a 0) = 1 := ok.pk hO h_a (by decide) k7_0 rfl
  refine ok.getR hO h_a (by decide) k7_0 (by decide) (fun _ _ he hv kk => th_get (ci := 3) (C := RX3) (T := TX3) (N := 5) hx hb hts inX3 hown hK hH he rfl 0 (by decide) fl0 hv dX3_thingsBefore_1 kk) ?_
  refine lv_aload_n hx hb dX3_thingsBefore_4 rfl (lv_at hl 0 rfl) ?_
  refine lv_iload_n hx hb dX3_thingsBefore_5 rfl (lv_at hl 1 rfl) ?_
  obtain ⟨_, hc_2⟩ := hO.cell h_a (by decide) (ci := 3) rfl
  refine th_calli (va_runV (As := [.int (I i)]) (rest := [.ref (ad E a 0)]) ⟨hx, hb, hml, hown, hts⟩ (h_wasOf l G y b0 σ E hO a h_a i (show rng i from ri)) (cwV 1 hts gX3_thingsBefore_X3_wasOf rfl rfl rfl (by decide +kernel) ⟨Nat.le_of_ble_eq_true rfl, Nat.le_of_ble_eq_true rfl⟩) (th_PV hK hH rfl hc_2) rfl rfl hl.1 rfl (lv_room (Nat.le_of_ble_eq_true rfl)) dX3_thingsBefore_6 ⟨Nat.le_of_ble_eq_true rfl, Nat.le_of_ble_eq_true rfl⟩) hS (fun z_5 σ_s_4 H locs rz_5 hw_3 hH hS => ?_)
  obtain ⟨e9, hw_3⟩ := hw_3
  replace e9 := e9.symm
  subst e9
  have hw_3 : -1 ≤ z_5 ∧ z_5 ≤ 59 := hw_3
  obtain ⟨z_6, e_7, rz_6, lz_6, uz_6⟩ := hO.gi hp_1 (by decide) k1_4
  obtain ⟨_, hc_8⟩ := hO.cell hp_1 (by decide) (ci := 9) rfl
  refine th_calli (va_runV (As := [.int (I z_5)]) (rest := []) ⟨hx, hb, hml, hown, hts⟩ (t_sizeOf l G y b0 σ (ad E a 0) (tvE E σ (ad E a 0) 60) z_5 (hO.isT1 hp_1) (show rng z_5 from rz_5)) (cwV 1 hts gX3_thingsBefore_X9_sizeOf rfl rfl rfl (by decide +kernel) ⟨Nat.le_of_ble_eq_true rfl, Nat.le_of_ble_eq_true rfl⟩) (th_PV hK hH rfl hc_8) rfl rfl hl.1 rfl (lv_room (Nat.le_of_ble_eq_true rfl)) dX3_thingsBefore_9 ⟨Nat.le_of_ble_eq_true rfl, Nat.le_of_ble_eq_true rfl⟩) hS (fun z_11 σ_s_10 H locs rz_11 hw_9 hH hS => ?_)
  obtain ⟨e9, hw_9⟩ := hw_9
  replace e9 := e9.symm
  subst e9
  have hw_9 : ((0 ≤ z_5 ∧ z_5 < (gI σ (ad E a 0) 4)) ∧ 1 ≤ z_11 ∧ z_5 + z_11 ≤ (gI σ (ad E a 0) 4)) ∨ (z_11 = 0 ∧ ¬ (0 ≤ z_5 ∧ z_5 < (gI σ (ad E a 0) 4))) := hw_9
  exact th_iret hx hb hr hlocks hH hS (z := z_11) rz_11 ⟨rfl, trivial⟩ dX3_thingsBefore_12

set_option maxHeartbeats 1000000 in
set_option maxRecDepth 100000 in
theorem h_after (l : Launch) (G : va_G) (y : Nat → ClassId) (b0 : Nat) (σ : th_M) (E : th_E) (hO : ok y E σ) (a : Nat) (h_a : kd E a = 7) (i : Int) (ri : rng i) : Met l yX3_thingsAfter wsX3_thingsAfter ({ frames := 2, cells := 0, slots := 0, locals := 48 }) (th_P G y b0 σ [.ref a, .int (I i)]) (th_Qi G b0 (fun r σ1 => σ1 = σ ∧ (True))) 0 0 (th_A b0) := by
  refine Met.ofW (cc := cX3_thingsAfter) (maxL := 2) (ret := (some .int)) (by decide) rfl ?_
  intro p e s m args below meth c s₁ B hml hv
  obtain ⟨rfl, hH, hK⟩ := hv
  have hx := B.exec
  have hb := B.bytes
  have hr := B.returns
  have hts := atoms_spec (ws := wsX3_thingsAfter) B.pre
  have hown : s.vm.findClass RX3 = some m.cls := findClass_of_methodNamed B.named
  have hlocks := B.notSynchronized
  have h00 : b0 ≤ s.heap.size := hH.1
  have hS : va_S (th_A b0) s.heap s.heap [] := va_S.rf
  have inX3 : ∀ w ∈ wsX30, w ∈ wsX3_thingsAfter := by decide +kernel
  have fl0 := hts (.fieldLink RX3 20 "NestQuery$Patch" "to" "LNestQuery$Tree;") (by decide +kernel)
  have hl := lv_entry ([.ref a, .int (I i)]) (n := 2) (Nat.le_of_ble_eq_true rfl)
  rw [lg_entry_eq]
  generalize (lg_sl ([.ref a, .int (I i)]) ++ List.replicate (2 - (lg_sl ([.ref a, .int (I i)])).length) Slot.unset).toArray = ls at hl ⊢
  have hl : lv_has ls 2 [(0, .ref a), (1, .int (I i))] := hl
  refine lv_aload_n hx hb dX3_thingsAfter_0 rfl (lv_at hl 0 rfl) ?_
  have hp_1 : kd E (ad E a 1) = 1 := ok.pk hO h_a (by decide) k7_1 rfl
  refine ok.getR hO h_a (by decide) k7_1 (by decide) (fun _ _ he hv kk => th_get (ci := 3) (C := RX3) (T := TX3) (N := 5) hx hb hts inX3 hown hK hH he rfl 1 (by decide) fl0 hv dX3_thingsAfter_1 kk) ?_
  refine lv_aload_n hx hb dX3_thingsAfter_4 rfl (lv_at hl 0 rfl) ?_
  refine lv_iload_n hx hb dX3_thingsAfter_5 rfl (lv_at hl 1 rfl) ?_
  obtain ⟨_, hc_2⟩ := hO.cell h_a (by decide) (ci := 3) rfl
  refine th_calli (va_runV (As := [.int (I i)]) (rest := [.ref (ad E a 1)]) ⟨hx, hb, hml, hown, hts⟩ (h_isOf l G y b0 σ E hO a h_a i (show rng i from ri)) (cwV 1 hts gX3_thingsAfter_X3_isOf rfl rfl rfl (by decide +kernel) ⟨Nat.le_of_ble_eq_true rfl, Nat.le_of_ble_eq_true rfl⟩) (th_PV hK hH rfl hc_2) rfl rfl hl.1 rfl (lv_room (Nat.le_of_ble_eq_true rfl)) dX3_thingsAfter_6 ⟨Nat.le_of_ble_eq_true rfl, Nat.le_of_ble_eq_true rfl⟩) hS (fun z_5 σ_s_4 H locs rz_5 hw_3 hH hS => ?_)
  obtain ⟨e9, hw_3⟩ := hw_3
  replace e9 := e9.symm
  subst e9
  have hw_3 : -1 ≤ z_5 ∧ z_5 ≤ 59 := hw_3
  obtain ⟨z_6, e_7, rz_6, lz_6, uz_6⟩ := hO.gi hp_1 (by decide) k1_4
  obtain ⟨_, hc_8⟩ := hO.cell hp_1 (by decide) (ci := 9) rfl
  refine th_calli (va_runV (As := [.int (I z_5)]) (rest := []) ⟨hx, hb, hml, hown, hts⟩ (t_sizeOf l G y b0 σ (ad E a 1) (tvE E σ (ad E a 1) 60) z_5 (hO.isT1 hp_1) (show rng z_5 from rz_5)) (cwV 1 hts gX3_thingsAfter_X9_sizeOf rfl rfl rfl (by decide +kernel) ⟨Nat.le_of_ble_eq_true rfl, Nat.le_of_ble_eq_true rfl⟩) (th_PV hK hH rfl hc_8) rfl rfl hl.1 rfl (lv_room (Nat.le_of_ble_eq_true rfl)) dX3_thingsAfter_9 ⟨Nat.le_of_ble_eq_true rfl, Nat.le_of_ble_eq_true rfl⟩) hS (fun z_11 σ_s_10 H locs rz_11 hw_9 hH hS => ?_)
  obtain ⟨e9, hw_9⟩ := hw_9
  replace e9 := e9.symm
  subst e9
  have hw_9 : ((0 ≤ z_5 ∧ z_5 < (gI σ (ad E a 1) 4)) ∧ 1 ≤ z_11 ∧ z_5 + z_11 ≤ (gI σ (ad E a 1) 4)) ∨ (z_11 = 0 ∧ ¬ (0 ≤ z_5 ∧ z_5 < (gI σ (ad E a 1) 4))) := hw_9
  exact th_iret hx hb hr hlocks hH hS (z := z_11) rz_11 ⟨rfl, trivial⟩ dX3_thingsAfter_12

set_option maxHeartbeats 1000000 in
set_option maxRecDepth 100000 in
theorem h_tellRow (l : Launch) (G : va_G) (y : Nat → ClassId) (b0 : Nat) (σ : th_M) (E : th_E) (hO : ok y E σ) (a : Nat) (h_a : kd E a = 7) (i : Int) (ri : rng i) (b : Nat) (h_b : kd E b = 8) : Met l yX3_tellRow wsX3_tellRow ({ frames := 81, cells := 0, slots := 0, locals := 2428 }) (th_P G y b0 σ [.ref a, .int (I i), .ref b]) (th_Qv G b0 (fun σ1 => ok y E σ1 ∧ fr [8] E σ σ1 ∧ (True))) 0 0 (th_A b0) := by
  refine Met.ofW (cc := cX3_tellRow) (maxL := 4) (ret := none) (by decide) rfl ?_
  intro p e s m args below meth c s₁ B hml hv
  obtain ⟨rfl, hH, hK⟩ := hv
  have hx := B.exec
  have hb := B.bytes
  have hr := B.returns
  have hts := atoms_spec (ws := wsX3_tellRow) B.pre
  have hown : s.vm.findClass RX3 = some m.cls := findClass_of_methodNamed B.named
  have hlocks := B.notSynchronized
  have h00 : b0 ≤ s.heap.size := hH.1
  have hS : va_S (th_A b0) s.heap s.heap [] := va_S.rf
  have hF : fr [8] E σ σ := fr.rf
  have inX3 : ∀ w ∈ wsX30, w ∈ wsX3_tellRow := by decide +kernel
  have fl0 := hts (.fieldLink RX3 20 "NestQuery$Patch" "to" "LNestQuery$Tree;") (by decide +kernel)
  have fl1 := hts (.fieldLink RX3 14 "NestQuery$Patch" "from" "LNestQuery$Tree;") (by decide +kernel)
  have hl := lv_entry ([.ref a, .int (I i), .ref b]) (n := 4) (Nat.le_of_ble_eq_true rfl)
  rw [lg_entry_eq]
  generalize (lg_sl ([.ref a, .int (I i), .ref b]) ++ List.replicate (4 - (lg_sl ([.ref a, .int (I i), .ref b])).length) Slot.unset).toArray = ls at hl ⊢
  have hl : lv_has ls 4 [(0, .ref a), (1, .int (I i)), (2, .ref b)] := hl
  refine lv_aload_n hx hb dX3_tellRow_0 rfl (lv_at hl 0 rfl) ?_
  refine lv_iload_n hx hb dX3_tellRow_1 rfl (lv_at hl 1 rfl) ?_
  obtain ⟨_, hc_1⟩ := hO.cell h_a (by decide) (ci := 3) rfl
  refine th_calli (va_runV (As := [.int (I i)]) (rest := []) ⟨hx, hb, hml, hown, hts⟩ (h_kindOf l G y b0 σ E hO a h_a i (show rng i from ri)) (cwV 1 hts gX3_tellRow_X3_kindOf rfl rfl rfl (by decide +kernel) ⟨Nat.le_of_ble_eq_true rfl, Nat.le_of_ble_eq_true rfl⟩) (th_PV hK hH rfl hc_1) rfl rfl hl.1 rfl (lv_room (Nat.le_of_ble_eq_true rfl)) dX3_tellRow_2 ⟨Nat.le_of_ble_eq_true rfl, Nat.le_of_ble_eq_true rfl⟩) hS (fun z_4 σ_s_3 H locs rz_4 hw_2 hH hS => ?_)
  obtain ⟨e9, hw_2⟩ := hw_2
  replace e9 := e9.symm
  subst e9
  refine lv_istore_n (lv' := [(3, .int (I z_4)), (0, .ref a), (1, .int (I i)), (2, .ref b)]) hx hb dX3_tellRow_5 rfl hl (by decide) rfl (fun ls hl => ?_)
  refine lv_aload_n hx hb dX3_tellRow_6 rfl (lv_at hl 3 rfl) ?_
  obtain ⟨_, hc_5⟩ := hO.cell h_b (by decide) (ci := 7) rfl
  refine th_callv (va_runV (As := []) (rest := []) ⟨hx, hb, hml, hown, hts⟩ (o_clear l G y b0 σ E hO b h_b) (cwV 0 hts gX3_tellRow_X7_clear rfl rfl rfl (by decide +kernel) ⟨Nat.le_of_ble_eq_true rfl, Nat.le_of_ble_eq_true rfl⟩) (th_PV hK hH rfl hc_5) rfl rfl hl.1 rfl (lv_room (Nat.le_of_ble_eq_true rfl)) dX3_tellRow_7 ⟨Nat.le_of_ble_eq_true rfl, Nat.le_of_ble_eq_true rfl⟩) hS (fun σ_s_7 H locs hw_6 hH hS => ?_)
  obtain ⟨hO9, hF9, hw_6⟩ := hw_6
  replace hO := hO9
  replace hF := hF.tu hF9 (by decide)
  refine lv_aload_n hx hb dX3_tellRow_10 rfl (lv_at hl 3 rfl) ?_
  refine lv_iload_n hx hb dX3_tellRow_11 rfl (lv_at hl 0 rfl) ?_
  refine lv_iconst (v := I 1) hx hb dX3_tellRow_12 (by decide) ?_
  refine th_join (α := Int) (J := 33) (stk := fun x9 => [.int (I x9), .ref b]) (fun x9 σ9 H9 l9 ls9 => σ9 = σ_s_7 ∧ th_H G b0 σ9 H9 ∧ va_S (th_A b0) s.heap H9 l9 ∧ lv_has ls9 4 [(0, .ref a), (1, .int (I i)), (2, .ref b), (3, .int (I z_4))] ∧ rng x9 ∧ (x9 = 43 ∨ x9 = 45 ∨ x9 = 61)) ?_ (fun jK_11 => ?_)
  · intro x9 σ_K_11 H locs ls hI9
    obtain ⟨w0q10, ex9⟩ : ∃ z, z = x9 := ⟨_, rfl⟩
    subst ex9
    obtain ⟨eK_11, hH, hS, hl, rw0q10, K_11_0⟩ := hI9
    replace eK_11 := eK_11.symm
    subst eK_11
    have hl : lv_has ls 4 [(0, .ref a), (1, .int (I i)), (2, .ref b), (3, .int (I z_4))] := hl
    have rw0q10 : rng w0q10 := rw0q10
    have K_11_0 : w0q10 = 43 ∨ w0q10 = 45 ∨ w0q10 = 61 := K_11_0
    obtain ⟨_, hc_12⟩ := hO.cell h_b (by decide) (ci := 7) rfl
    refine th_callv (va_runV (As := [.int (I w0q10)]) (rest := []) ⟨hx, hb, hml, hown, hts⟩ (o_write l G y b0 σ_s_7 E hO b h_b w0q10 (show rng w0q10 from rw0q10)) (cwV 1 hts gX3_tellRow_X7_write rfl rfl rfl (by decide +kernel) ⟨Nat.le_of_ble_eq_true rfl, Nat.le_of_ble_eq_true rfl⟩) (th_PV hK hH rfl hc_12) rfl rfl hl.1 rfl (lv_room (Nat.le_of_ble_eq_true rfl)) dX3_tellRow_33 ⟨Nat.le_of_ble_eq_true rfl, Nat.le_of_ble_eq_true rfl⟩) hS (fun σ_s_14 H locs hw_13 hH hS => ?_)
    obtain ⟨hO9, hF9, hw_13⟩ := hw_13
    replace hO := hO9
    replace hF := hF.tu hF9 (by decide)
    refine lv_iload_n hx hb dX3_tellRow_36 rfl (lv_at hl 3 rfl) ?_
    refine lv_iconst (v := I 1) hx hb dX3_tellRow_37 (by decide) ?_
    refine th_join (α := Unit) (J := 70) (stk := fun x9 => []) (fun x9 σ9 H9 l9 ls9 => ok y E σ9 ∧ fr [8] E σ σ9 ∧ th_H G b0 σ9 H9 ∧ va_S (th_A b0) s.heap H9 l9 ∧ lv_has ls9 4 [(0, .ref a), (1, .int (I i)), (2, .ref b), (3, .int (I z_4))]) ?_ (fun jK_33 => ?_)
    · intro x9 σ_K_33 H locs ls hI9
      obtain ⟨hO, hF, hH, hS, hl⟩ := hI9
      have hl : lv_has ls 4 [(0, .ref a), (1, .int (I i)), (2, .ref b), (3, .int (I z_4))] := hl
      refine lv_iload_n hx hb dX3_tellRow_70 rfl (lv_at hl 3 rfl) ?_
      refine lv_iconst (v := I 2) hx hb dX3_tellRow_71 (by decide) ?_
      refine lv_icmp_eq (tgt := 95) hx hb dX3_tellRow_72 (by decide) (fun c_34 => ?_) (fun c_34 => ?_)
      · replace c_34 := (I_eq (a := z_4) (b := 2) rz_4 (show rng 2 from ⟨by decide, by decide⟩)).mp c_34
        exact th_vret hx hb hr hlocks hH hS ⟨hO, hF, trivial⟩ dX3_tellRow_95
      · replace c_34 := mt (I_eq (a := z_4) (b := 2) rz_4 (show rng 2 from ⟨by decide, by decide⟩)).mpr c_34
        refine lv_aload_n hx hb dX3_tellRow_75 rfl (lv_at hl 2 rfl) ?_
        refine lv_bipush (v := I 32) hx hb dX3_tellRow_76 (by decide) ?_
        obtain ⟨_, hc_35⟩ := hO.cell h_b (by decide) (ci := 7) rfl
        refine th_callv (va_runV (As := [.int (I 32)]) (rest := []) ⟨hx, hb, hml, hown, hts⟩ (o_write l G y b0 σ_K_33 E hO b h_b 32 (show rng 32 from (show rng 32 from ⟨by decide, by decide⟩))) (cwV 1 hts gX3_tellRow_X7_write rfl rfl rfl (by decide +kernel) ⟨Nat.le_of_ble_eq_true rfl, Nat.le_of_ble_eq_true rfl⟩) (th_PV hK hH rfl hc_35) rfl rfl hl.1 rfl (lv_room (Nat.le_of_ble_eq_true rfl)) dX3_tellRow_78 ⟨Nat.le_of_ble_eq_true rfl, Nat.le_of_ble_eq_true rfl⟩) hS (fun σ_s_37 H locs hw_36 hH hS => ?_)
        obtain ⟨hO9, hF9, hw_36⟩ := hw_36
        replace hO := hO9
        replace hF := hF.tu hF9 (by decide)
        refine lv_aload_n hx hb dX3_tellRow_81 rfl (lv_at hl 2 rfl) ?_
        refine lv_aload_n hx hb dX3_tellRow_82 rfl (lv_at hl 0 rfl) ?_
        have hp_38 : kd E (ad E a 1) = 1 := ok.pk hO h_a (by decide) k7_1 rfl
        refine ok.getR hO h_a (by decide) k7_1 (by decide) (fun _ _ he hv kk => th_get (ci := 3) (C := RX3) (T := TX3) (N := 5) hx hb hts inX3 hown hK hH he rfl 1 (by decide) fl0 hv dX3_tellRow_83 kk) ?_
        refine lv_aload_n hx hb dX3_tellRow_86 rfl (lv_at hl 0 rfl) ?_
        refine lv_iload_n hx hb dX3_tellRow_87 rfl (lv_at hl 1 rfl) ?_
        obtain ⟨_, hc_39⟩ := hO.cell h_a (by decide) (ci := 3) rfl
        refine th_calli (va_runV (As := [.int (I i)]) (rest := [.ref (ad E a 1), .ref b]) ⟨hx, hb, hml, hown, hts⟩ (h_isOf l G y b0 σ_s_37 E hO a h_a i (show rng i from ri)) (cwV 1 hts gX3_tellRow_X3_isOf rfl rfl rfl (by decide +kernel) ⟨Nat.le_of_ble_eq_true rfl, Nat.le_of_ble_eq_true rfl⟩) (th_PV hK hH rfl hc_39) rfl rfl hl.1 rfl (lv_room (Nat.le_of_ble_eq_true rfl)) dX3_tellRow_88 ⟨Nat.le_of_ble_eq_true rfl, Nat.le_of_ble_eq_true rfl⟩) hS (fun z_42 σ_s_41 H locs rz_42 hw_40 hH hS => ?_)
        obtain ⟨e9, hw_40⟩ := hw_40
        replace e9 := e9.symm
        subst e9
        have hw_40 : -1 ≤ z_42 ∧ z_42 ≤ 59 := hw_40
        refine lv_iconst (v := I 0) hx hb dX3_tellRow_91 (by decide) ?_
        obtain ⟨_, hc_43⟩ := hO.cell h_b (by decide) (ci := 7) rfl
        refine th_callv (va_runV (As := [.ref (ad E a 1), .int (I z_42), .int (I 0)]) (rest := []) ⟨hx, hb, hml, hown, hts⟩ (o_thing 18 l G y b0 σ_s_37 E hO b h_b (ad E a 1) hp_38 z_42 (show rng z_42 from rz_42) 0 (show rng 0 from (show rng 0 from ⟨by decide, by decide⟩)) (by omega) (by omega) (by omega)) (cwV 3 hts gX3_tellRow_X7_writeThing rfl rfl rfl (by decide +kernel) ⟨Nat.le_of_ble_eq_true rfl, Nat.le_of_ble_eq_true rfl⟩) (th_PV hK hH rfl hc_43) rfl rfl hl.1 rfl (lv_room (Nat.le_of_ble_eq_true rfl)) dX3_tellRow_92 ⟨Nat.le_of_ble_eq_true rfl, Nat.le_of_ble_eq_true rfl⟩) hS (fun σ_s_45 H locs hw_44 hH hS => ?_)
        obtain ⟨hO9, hF9, hw_44⟩ := hw_44
        replace hO := hO9
        replace hF := hF.tu hF9 (by decide)
        exact th_vret hx hb hr hlocks hH hS ⟨hO, hF, trivial⟩ dX3_tellRow_95
    · refine lv_icmp_ne (tgt := 57) hx hb dX3_tellRow_38 (by decide) (fun c_46 => ?_) (fun c_46 => ?_)
      · replace c_46 := mt (I_eq (a := z_4) (b := 1) rz_4 (show rng 1 from ⟨by decide, by decide⟩)).mpr c_46
        refine lv_aload_n hx hb dX3_tellRow_57 rfl (lv_at hl 2 rfl) ?_
        refine lv_aload_n hx hb dX3_tellRow_58 rfl (lv_at hl 0 rfl) ?_
        have hp_47 : kd E (ad E a 0) = 1 := ok.pk hO h_a (by decide) k7_0 rfl
        refine ok.getR hO h_a (by decide) k7_0 (by decide) (fun _ _ he hv kk => th_get (ci := 3) (C := RX3) (T := TX3) (N := 5) hx hb hts inX3 hown hK hH he rfl 0 (by decide) fl1 hv dX3_tellRow_59 kk) ?_
        refine lv_aload_n hx hb dX3_tellRow_62 rfl (lv_at hl 0 rfl) ?_
        refine lv_iload_n hx hb dX3_tellRow_63 rfl (lv_at hl 1 rfl) ?_
        obtain ⟨_, hc_48⟩ := hO.cell h_a (by decide) (ci := 3) rfl
        refine th_calli (va_runV (As := [.int (I i)]) (rest := [.ref (ad E a 0), .ref b]) ⟨hx, hb, hml, hown, hts⟩ (h_wasOf l G y b0 σ_s_14 E hO a h_a i (show rng i from ri)) (cwV 1 hts gX3_tellRow_X3_wasOf rfl rfl rfl (by decide +kernel) ⟨Nat.le_of_ble_eq_true rfl, Nat.le_of_ble_eq_true rfl⟩) (th_PV hK hH rfl hc_48) rfl rfl hl.1 rfl (lv_room (Nat.le_of_ble_eq_true rfl)) dX3_tellRow_64 ⟨Nat.le_of_ble_eq_true rfl, Nat.le_of_ble_eq_true rfl⟩) hS (fun z_51 σ_s_50 H locs rz_51 hw_49 hH hS => ?_)
        obtain ⟨e9, hw_49⟩ := hw_49
        replace e9 := e9.symm
        subst e9
        have hw_49 : -1 ≤ z_51 ∧ z_51 ≤ 59 := hw_49
        obtain ⟨_, hc_52⟩ := hO.cell h_b (by decide) (ci := 7) rfl
        refine th_callv (va_runV (As := [.ref (ad E a 0), .int (I z_51)]) (rest := []) ⟨hx, hb, hml, hown, hts⟩ (o_path l G y b0 σ_s_14 E hO b h_b (ad E a 0) hp_47 z_51 (show rng z_51 from rz_51)) (cwV 2 hts gX3_tellRow_X7_writePath rfl rfl rfl (by decide +kernel) ⟨Nat.le_of_ble_eq_true rfl, Nat.le_of_ble_eq_true rfl⟩) (th_PV hK hH rfl hc_52) rfl rfl hl.1 rfl (lv_room (Nat.le_of_ble_eq_true rfl)) dX3_tellRow_67 ⟨Nat.le_of_ble_eq_true rfl, Nat.le_of_ble_eq_true rfl⟩) hS (fun σ_s_54 H locs hw_53 hH hS => ?_)
        obtain ⟨hO9, hF9, hw_53⟩ := hw_53
        replace hO := hO9
        replace hF := hF.tu hF9 (by decide)
        exact jK_33 () σ_s_54 _ _ _ ⟨hO, hF, hH, hS, lv_sub hl [0, 1, 2, 3] rfl⟩
      · replace c_46 := (I_eq (a := z_4) (b := 1) rz_4 (show rng 1 from ⟨by decide, by decide⟩)).mp c_46
        refine lv_aload_n hx hb dX3_tellRow_41 rfl (lv_at hl 2 rfl) ?_
        refine lv_aload_n hx hb dX3_tellRow_42 rfl (lv_at hl 0 rfl) ?_
        have hp_55 : kd E (ad E a 1) = 1 := ok.pk hO h_a (by decide) k7_1 rfl
        refine ok.getR hO h_a (by decide) k7_1 (by decide) (fun _ _ he hv kk => th_get (ci := 3) (C := RX3) (T := TX3) (N := 5) hx hb hts inX3 hown hK hH he rfl 1 (by decide) fl0 hv dX3_tellRow_43 kk) ?_
        refine lv_aload_n hx hb dX3_tellRow_46 rfl (lv_at hl 0 rfl) ?_
        refine lv_iload_n hx hb dX3_tellRow_47 rfl (lv_at hl 1 rfl) ?_
        obtain ⟨_, hc_56⟩ := hO.cell h_a (by decide) (ci := 3) rfl
        refine th_calli (va_runV (As := [.int (I i)]) (rest := [.ref (ad E a 1), .ref b]) ⟨hx, hb, hml, hown, hts⟩ (h_isOf l G y b0 σ_s_14 E hO a h_a i (show rng i from ri)) (cwV 1 hts gX3_tellRow_X3_isOf rfl rfl rfl (by decide +kernel) ⟨Nat.le_of_ble_eq_true rfl, Nat.le_of_ble_eq_true rfl⟩) (th_PV hK hH rfl hc_56) rfl rfl hl.1 rfl (lv_room (Nat.le_of_ble_eq_true rfl)) dX3_tellRow_48 ⟨Nat.le_of_ble_eq_true rfl, Nat.le_of_ble_eq_true rfl⟩) hS (fun z_59 σ_s_58 H locs rz_59 hw_57 hH hS => ?_)
        obtain ⟨e9, hw_57⟩ := hw_57
        replace e9 := e9.symm
        subst e9
        have hw_57 : -1 ≤ z_59 ∧ z_59 ≤ 59 := hw_57
        obtain ⟨_, hc_60⟩ := hO.cell h_b (by decide) (ci := 7) rfl
        refine th_callv (va_runV (As := [.ref (ad E a 1), .int (I z_59)]) (rest := []) ⟨hx, hb, hml, hown, hts⟩ (o_path l G y b0 σ_s_14 E hO b h_b (ad E a 1) hp_55 z_59 (show rng z_59 from rz_59)) (cwV 2 hts gX3_tellRow_X7_writePath rfl rfl rfl (by decide +kernel) ⟨Nat.le_of_ble_eq_true rfl, Nat.le_of_ble_eq_true rfl⟩) (th_PV hK hH rfl hc_60) rfl rfl hl.1 rfl (lv_room (Nat.le_of_ble_eq_true rfl)) dX3_tellRow_51 ⟨Nat.le_of_ble_eq_true rfl, Nat.le_of_ble_eq_true rfl⟩) hS (fun σ_s_62 H locs hw_61 hH hS => ?_)
        obtain ⟨hO9, hF9, hw_61⟩ := hw_61
        replace hO := hO9
        replace hF := hF.tu hF9 (by decide)
        refine lv_goto (tgt := 70) hx hb dX3_tellRow_54 (by decide) ?_
        exact jK_33 () σ_s_62 _ _ _ ⟨hO, hF, hH, hS, lv_sub hl [0, 1, 2, 3] rfl⟩
  · refine lv_icmp_ne (tgt := 21) hx hb dX3_tellRow_13 (by decide) (fun c_63 => ?_) (fun c_63 => ?_)
    · replace c_63 := mt (I_eq (a := z_4) (b := 1) rz_4 (show rng 1 from ⟨by decide, by decide⟩)).mpr c_63
      refine lv_iload_n hx hb dX3_tellRow_21 rfl (lv_at hl 0 rfl) ?_
      refine lv_iconst (v := I 2) hx hb dX3_tellRow_22 (by decide) ?_
      refine lv_icmp_ne (tgt := 31) hx hb dX3_tellRow_23 (by decide) (fun c_64 => ?_) (fun c_64 => ?_)
      · replace c_64 := mt (I_eq (a := z_4) (b := 2) rz_4 (show rng 2 from ⟨by decide, by decide⟩)).mpr c_64
        refine lv_bipush (v := I 61) hx hb dX3_tellRow_31 (by decide) ?_
        exact jK_11 (61) σ_s_7 _ _ _ ⟨rfl, hH, hS, lv_sub hl [1, 2, 3, 0] rfl, (show rng 61 from ⟨by decide, by decide⟩), by first | omega | (dsimp only; omega)⟩
      · replace c_64 := (I_eq (a := z_4) (b := 2) rz_4 (show rng 2 from ⟨by decide, by decide⟩)).mp c_64
        refine lv_bipush (v := I 45) hx hb dX3_tellRow_26 (by decide) ?_
        refine lv_goto (tgt := 33) hx hb dX3_tellRow_28 (by decide) ?_
        exact jK_11 (45) σ_s_7 _ _ _ ⟨rfl, hH, hS, lv_sub hl [1, 2, 3, 0] rfl, (show rng 45 from ⟨by decide, by decide⟩), by first | omega | (dsimp only; omega)⟩
    · replace c_63 := (I_eq (a := z_4) (b := 1) rz_4 (show rng 1 from ⟨by decide, by decide⟩)).mp c_63
      refine lv_bipush (v := I 43) hx hb dX3_tellRow_16 (by decide) ?_
      refine lv_goto (tgt := 33) hx hb dX3_tellRow_18 (by decide) ?_
      exact jK_11 (43) σ_s_7 _ _ _ ⟨rfl, hH, hS, lv_sub hl [1, 2, 3, 0] rfl, (show rng 43 from ⟨by decide, by decide⟩), by first | omega | (dsimp only; omega)⟩

set_option maxHeartbeats 1000000 in
set_option maxRecDepth 100000 in
theorem h_ledTo (l : Launch) (G : va_G) (y : Nat → ClassId) (b0 : Nat) (σ : th_M) (E : th_E) (hO : ok y E σ) (a : Nat) (h_a : kd E a = 2) (b : Nat) (h_b : kd E b = 1) (i : Int) (ri : rng i) (dp : Int) (rdp : rng dp) : Met l yX3_ledTo wsX3_ledTo ({ frames := 1, cells := 0, slots := 0, locals := 29 }) (th_P G y b0 σ [.ref a, .ref b, .int (I i), .int (I dp)]) (th_Qi G b0 (fun r σ1 => σ1 = σ ∧ (-1 ≤ r ∧ r ≤ 128))) 0 0 (th_A b0) := by
  refine Met.ofW (cc := cX3_ledTo) (maxL := 7) (ret := (some .int)) (by decide) rfl ?_
  intro p e s m args below meth c s₁ B hml hv
  obtain ⟨rfl, hH, hK⟩ := hv
  have hx := B.exec
  have hb := B.bytes
  have hr := B.returns
  have hts := atoms_spec (ws := wsX3_ledTo) B.pre
  have hown : s.vm.findClass RX3 = some m.cls := findClass_of_methodNamed B.named
  have hlocks := B.notSynchronized
  have h00 : b0 ≤ s.heap.size := hH.1
  have hS : va_S (th_A b0) s.heap s.heap [] := va_S.rf
  have hl := lv_entry ([.ref a, .ref b, .int (I i), .int (I dp)]) (n := 7) (Nat.le_of_ble_eq_true rfl)
  rw [lg_entry_eq]
  generalize (lg_sl ([.ref a, .ref b, .int (I i), .int (I dp)]) ++ List.replicate (7 - (lg_sl ([.ref a, .ref b, .int (I i), .int (I dp)])).length) Slot.unset).toArray = ls at hl ⊢
  have hl : lv_has ls 7 [(0, .ref a), (1, .ref b), (2, .int (I i)), (3, .int (I dp))] := hl
  refine lv_iconst (v := I 0) hx hb dX3_ledTo_0 (by decide) ?_
  refine lv_istore (lv' := [(4, .int (I 0)), (0, .ref a), (1, .ref b), (2, .int (I i)), (3, .int (I dp))]) hx hb dX3_ledTo_1 hl (by decide) rfl (fun ls hl => ?_)
  refine lv_iconst (v := I 1) hx hb dX3_ledTo_3 (by decide) ?_
  refine lv_istore (lv' := [(5, .int (I 1)), (4, .int (I 0)), (0, .ref a), (1, .ref b), (2, .int (I i)), (3, .int (I dp))]) hx hb dX3_ledTo_4 hl (by decide) rfl (fun ls hl => ?_)
  refine th_loop (α := Int × Int) (pc := 6) (fun x9 => (17 - x9.2).toNat) (fun x9 σ9 H9 l9 ls9 => σ9 = σ ∧ th_H G b0 σ9 H9 ∧ va_S (th_A b0) s.heap H9 l9 ∧ lv_has ls9 7 [(0, .ref a), (1, .ref b), (2, .int (I i)), (3, .int (I dp)), (4, .int (I x9.1)), (5, .int (I x9.2))] ∧ rng x9.1 ∧ rng x9.2 ∧ (-1 ≤ x9.1) ∧ (x9.1 ≤ 128) ∧ (1 ≤ x9.2) ∧ (x9.2 ≤ 17)) ?_ (0, 1) σ _ _ _ ⟨rfl, hH, hS, lv_sub hl [2, 3, 4, 5, 1, 0] rfl, (show rng 0 from ⟨by decide, by decide⟩), (show rng 1 from ⟨by decide, by decide⟩), by first | omega | (dsimp only; omega), by first | omega | (dsimp only; omega), by first | omega | (dsimp only; omega), by first | omega | (dsimp only; omega)⟩
  intro x9 σ_J_40 H locs ls hI9 ihJ_40
  obtain ⟨v4q39, v5q39⟩ := x9
  obtain ⟨eJ_40, hH, hS, hl, rv4q39, rv5q39, J_40_0, J_40_1, J_40_2, J_40_3⟩ := hI9
  replace eJ_40 := eJ_40.symm
  subst eJ_40
  have hl : lv_has ls 7 [(0, .ref a), (1, .ref b), (2, .int (I i)), (3, .int (I dp)), (4, .int (I v4q39)), (5, .int (I v5q39))] := hl
  have rv4q39 : rng v4q39 := rv4q39
  have rv5q39 : rng v5q39 := rv5q39
  have J_40_0 : -1 ≤ v4q39 := J_40_0
  have J_40_1 : v4q39 ≤ 128 := J_40_1
  have J_40_2 : 1 ≤ v5q39 := J_40_2
  have J_40_3 : v5q39 ≤ 17 := J_40_3
  refine lv_iload hx hb dX3_ledTo_6 (lv_at hl 5 rfl) ?_
  refine lv_iload_n hx hb dX3_ledTo_8 rfl (lv_at hl 3 rfl) ?_
  refine lv_icmp_gt (tgt := 77) hx hb dX3_ledTo_9 (by decide) (fun c_41 => ?_) (fun c_41 => ?_)
  · replace c_41 := (I_lt (a := dp) (b := v5q39) rdp rv5q39).mp c_41
    refine lv_iload hx hb dX3_ledTo_77 (lv_at hl 4 rfl) ?_
    exact th_iret hx hb hr hlocks hH hS (z := v4q39) rv4q39 ⟨rfl, by omega⟩ dX3_ledTo_79
  · replace c_41 := mt (I_lt (a := dp) (b := v5q39) rdp rv5q39).mpr c_41
    refine lv_iload hx hb dX3_ledTo_12 (lv_at hl 5 rfl) ?_
    refine lv_bipush (v := I 16) hx hb dX3_ledTo_14 (by decide) ?_
    refine lv_icmp_gt (tgt := 77) hx hb dX3_ledTo_16 (by decide) (fun c_42 => ?_) (fun c_42 => ?_)
    · replace c_42 := (I_lt (a := 16) (b := v5q39) (show rng 16 from ⟨by decide, by decide⟩) rv5q39).mp c_42
      refine lv_iload hx hb dX3_ledTo_77 (lv_at hl 4 rfl) ?_
      exact th_iret hx hb hr hlocks hH hS (z := v4q39) rv4q39 ⟨rfl, by omega⟩ dX3_ledTo_79
    · replace c_42 := mt (I_lt (a := 16) (b := v5q39) (show rng 16 from ⟨by decide, by decide⟩) rv5q39).mpr c_42
      refine lv_aload_n hx hb dX3_ledTo_19 rfl (lv_at hl 1 rfl) ?_
      refine lv_iload_n hx hb dX3_ledTo_20 rfl (lv_at hl 2 rfl) ?_
      refine lv_iload hx hb dX3_ledTo_21 (lv_at hl 5 rfl) ?_
      obtain ⟨z_43, e_44, rz_43, lz_43, uz_43⟩ := hO.gi h_b (by decide) k1_4
      obtain ⟨_, hc_45⟩ := hO.cell h_b (by decide) (ci := 9) rfl
      refine th_calli (va_runV (As := [.int (I i), .int (I v5q39)]) (rest := []) ⟨hx, hb, hml, hown, hts⟩ (t_ancestorAt l G y b0 σ b (tvE E σ b 60) i v5q39 (hO.isT1 h_b) (show rng i from ri) (show rng v5q39 from rv5q39)) (cwV 2 hts gX3_ledTo_X9_ancestorAt rfl rfl rfl (by decide +kernel) ⟨Nat.le_of_ble_eq_true rfl, Nat.le_of_ble_eq_true rfl⟩) (th_PV hK hH rfl hc_45) rfl rfl hl.1 rfl (lv_room (Nat.le_of_ble_eq_true rfl)) dX3_ledTo_23 ⟨Nat.le_of_ble_eq_true rfl, Nat.le_of_ble_eq_true rfl⟩) hS (fun z_48 σ_s_47 H locs rz_48 hw_46 hH hS => ?_)
      obtain ⟨e9, hw_46⟩ := hw_46
      replace e9 := e9.symm
      subst e9
      have hw_46 : z_48 = -1 ∨ (0 ≤ z_48 ∧ z_48 ≤ i ∧ i < (gI σ b 4)) := hw_46
      refine lv_istore (lv' := [(6, .int (I z_48)), (0, .ref a), (1, .ref b), (2, .int (I i)), (3, .int (I dp)), (4, .int (I v4q39)), (5, .int (I v5q39))]) hx hb dX3_ledTo_26 hl (by decide) rfl (fun ls hl => ?_)
      refine lv_aload_n hx hb dX3_ledTo_28 rfl (lv_at hl 2 rfl) ?_
      refine lv_aload_n hx hb dX3_ledTo_29 rfl (lv_at hl 2 rfl) ?_
      refine lv_iload hx hb dX3_ledTo_30 (lv_at hl 0 rfl) ?_
      obtain ⟨_, hc_49⟩ := hO.cell h_b (by decide) (ci := 9) rfl
      refine th_calli (va_runV (As := [.int (I z_48)]) (rest := [.ref b]) ⟨hx, hb, hml, hown, hts⟩ (t_parentOf l G y b0 σ b (tvE E σ b 60) z_48 (hO.isT1 h_b) (show rng z_48 from rz_48)) (cwV 1 hts gX3_ledTo_X9_parentOf rfl rfl rfl (by decide +kernel) ⟨Nat.le_of_ble_eq_true rfl, Nat.le_of_ble_eq_true rfl⟩) (th_PV hK hH rfl hc_49) rfl rfl hl.1 rfl (lv_room (Nat.le_of_ble_eq_true rfl)) dX3_ledTo_32 ⟨Nat.le_of_ble_eq_true rfl, Nat.le_of_ble_eq_true rfl⟩) hS (fun z_52 σ_s_51 H locs rz_52 hw_50 hH hS => ?_)
      obtain ⟨e9, hw_50⟩ := hw_50
      replace e9 := e9.symm
      subst e9
      have hw_50 : z_52 = -1 ∨ (0 ≤ z_52 ∧ z_52 < z_48 ∧ z_48 < (gI σ b 4)) := hw_50
      obtain ⟨_, hc_53⟩ := hO.cell h_b (by decide) (ci := 9) rfl
      refine th_calli (va_runV (As := [.int (I z_52)]) (rest := []) ⟨hx, hb, hml, hown, hts⟩ (t_kindAt l G y b0 σ b (tvE E σ b 60) z_52 (hO.isT1 h_b) (show rng z_52 from rz_52)) (cwV 1 hts gX3_ledTo_X9_kindAt rfl rfl rfl (by decide +kernel) ⟨Nat.le_of_ble_eq_true rfl, Nat.le_of_ble_eq_true rfl⟩) (th_PV hK hH rfl hc_53) rfl rfl hl.1 rfl (lv_room (Nat.le_of_ble_eq_true rfl)) dX3_ledTo_35 ⟨Nat.le_of_ble_eq_true rfl, Nat.le_of_ble_eq_true rfl⟩) hS (fun z_56 σ_s_55 H locs rz_56 hw_54 hH hS => ?_)
      obtain ⟨e9, hw_54⟩ := hw_54
      replace e9 := e9.symm
      subst e9
      have hw_54 : (0 ≤ z_52 ∧ z_52 < (gI σ b 4)) ∨ z_56 = -1 := hw_54
      refine lv_iconst (v := I 3) hx hb dX3_ledTo_38 (by decide) ?_
      refine lv_icmp_ne (tgt := 57) hx hb dX3_ledTo_39 (by decide) (fun c_57 => ?_) (fun c_57 => ?_)
      · replace c_57 := mt (I_eq (a := z_56) (b := 3) rz_56 (show rng 3 from ⟨by decide, by decide⟩)).mpr c_57
        refine lv_aload_n hx hb dX3_ledTo_57 rfl (lv_at hl 1 rfl) ?_
        refine lv_iload hx hb dX3_ledTo_58 (lv_at hl 5 rfl) ?_
        refine lv_aload_n hx hb dX3_ledTo_60 rfl (lv_at hl 2 rfl) ?_
        refine lv_iload hx hb dX3_ledTo_61 (lv_at hl 0 rfl) ?_
        obtain ⟨_, hc_58⟩ := hO.cell h_b (by decide) (ci := 9) rfl
        refine th_calli (va_runV (As := [.int (I z_48)]) (rest := [.int (I v4q39), .ref a]) ⟨hx, hb, hml, hown, hts⟩ (t_placeOf l G y b0 σ b (tvE E σ b 60) z_48 (hO.isT1 h_b) (show rng z_48 from rz_48)) (cwV 1 hts gX3_ledTo_X9_placeOf rfl rfl rfl (by decide +kernel) ⟨Nat.le_of_ble_eq_true rfl, Nat.le_of_ble_eq_true rfl⟩) (th_PV hK hH rfl hc_58) rfl rfl hl.1 rfl (lv_room (Nat.le_of_ble_eq_true rfl)) dX3_ledTo_63 ⟨Nat.le_of_ble_eq_true rfl, Nat.le_of_ble_eq_true rfl⟩) hS (fun z_61 σ_s_60 H locs rz_61 hw_59 hH hS => ?_)
        obtain ⟨e9, hw_59⟩ := hw_59
        replace e9 := e9.symm
        subst e9
        have hw_59 : -1 ≤ z_61 ∧ z_61 ≤ 128 := hw_59
        obtain ⟨z_62, e_63, rz_62, lz_62, uz_62⟩ := hO.gi h_a (by decide) k2_4
        obtain ⟨_, hc_64⟩ := hO.cell h_a (by decide) (ci := 9) rfl
        refine th_calli (va_runV (As := [.int (I v4q39), .int (I z_61)]) (rest := []) ⟨hx, hb, hml, hown, hts⟩ (t_listed l G y b0 σ a (tvE E σ a 128) v4q39 z_61 (hO.isT2 h_a) (show rng v4q39 from rv4q39) (show rng z_61 from rz_61)) (cwV 2 hts gX3_ledTo_X9_listed rfl rfl rfl (by decide +kernel) ⟨Nat.le_of_ble_eq_true rfl, Nat.le_of_ble_eq_true rfl⟩) (th_PV hK hH rfl hc_64) rfl rfl hl.1 rfl (lv_room (Nat.le_of_ble_eq_true rfl)) dX3_ledTo_66 ⟨Nat.le_of_ble_eq_true rfl, Nat.le_of_ble_eq_true rfl⟩) hS (fun z_67 σ_s_66 H locs rz_67 hw_65 hH hS => ?_)
        obtain ⟨e9, hw_65⟩ := hw_65
        replace e9 := e9.symm
        subst e9
        have hw_65 : z_67 = -1 ∨ (0 ≤ v4q39 ∧ v4q39 < z_67 ∧ z_67 < (gI σ a 4)) := hw_65
        refine lv_istore (lv' := [(4, .int (I z_67)), (6, .int (I z_48)), (0, .ref a), (1, .ref b), (2, .int (I i)), (3, .int (I dp)), (5, .int (I v5q39))]) hx hb dX3_ledTo_69 hl (by decide) rfl (fun ls hl => ?_)
        refine lv_iinc (v := I (v5q39 + 1)) (lv' := [(5, .int (I (v5q39 + 1))), (4, .int (I z_67)), (6, .int (I z_48)), (0, .ref a), (1, .ref b), (2, .int (I i)), (3, .int (I dp))]) hx hb dX3_ledTo_71 hl (k := 6) rfl (I_add _ _) (by decide) rfl (fun ls hl => ?_)
        refine lv_goto (tgt := 6) hx hb dX3_ledTo_74 (by decide) ?_
        replace hl : lv_has ls 7 [(5, .int (I (v5q39 + 1))), (4, .int (I z_67)), (0, .ref a), (1, .ref b), (2, .int (I i)), (3, .int (I dp))] := lv_sub hl [0, 1, 3, 4, 5, 6] rfl
        exact ihJ_40 (z_67, v5q39 + 1) σ _ _ _ (by first | omega | (dsimp only; omega)) ⟨rfl, hH, hS, lv_sub hl [2, 3, 4, 5, 1, 0] rfl, rz_67, ⟨by first | omega | (dsimp only; omega), by first | omega | (dsimp only; omega)⟩, by first | omega | (dsimp only; omega), by first | omega | (dsimp only; omega), by first | omega | (dsimp only; omega), by first | omega | (dsimp only; omega)⟩
      · replace c_57 := (I_eq (a := z_56) (b := 3) rz_56 (show rng 3 from ⟨by decide, by decide⟩)).mp c_57
        refine lv_aload_n hx hb dX3_ledTo_42 rfl (lv_at hl 1 rfl) ?_
        refine lv_iload hx hb dX3_ledTo_43 (lv_at hl 5 rfl) ?_
        refine lv_aload_n hx hb dX3_ledTo_45 rfl (lv_at hl 2 rfl) ?_
        refine lv_iload hx hb dX3_ledTo_46 (lv_at hl 0 rfl) ?_
        obtain ⟨_, hc_68⟩ := hO.cell h_b (by decide) (ci := 9) rfl
        refine th_calli (va_runV (As := [.int (I z_48)]) (rest := [.int (I v4q39), .ref a]) ⟨hx, hb, hml, hown, hts⟩ (t_keyAt l G y b0 σ b (tvE E σ b 60) z_48 (hO.isT1 h_b) (show rng z_48 from rz_48)) (cwV 1 hts gX3_ledTo_X9_keyAt rfl rfl rfl (by decide +kernel) ⟨Nat.le_of_ble_eq_true rfl, Nat.le_of_ble_eq_true rfl⟩) (th_PV hK hH rfl hc_68) rfl rfl hl.1 rfl (lv_room (Nat.le_of_ble_eq_true rfl)) dX3_ledTo_48 ⟨Nat.le_of_ble_eq_true rfl, Nat.le_of_ble_eq_true rfl⟩) hS (fun z_71 σ_s_70 H locs rz_71 hw_69 hH hS => ?_)
        obtain ⟨e9, hw_69⟩ := hw_69
        replace e9 := e9.symm
        subst e9
        obtain ⟨z_72, e_73, rz_72, lz_72, uz_72⟩ := hO.gi h_a (by decide) k2_4
        obtain ⟨_, hc_74⟩ := hO.cell h_a (by decide) (ci := 9) rfl
        refine th_calli (va_runV (As := [.int (I v4q39), .int (I z_71)]) (rest := []) ⟨hx, hb, hml, hown, hts⟩ (t_childBy l G y b0 σ a (tvE E σ a 128) v4q39 z_71 (hO.isT2 h_a) (show rng v4q39 from rv4q39) (show rng z_71 from rz_71)) (cwV 2 hts gX3_ledTo_X9_childBy rfl rfl rfl (by decide +kernel) ⟨Nat.le_of_ble_eq_true rfl, Nat.le_of_ble_eq_true rfl⟩) (th_PV hK hH rfl hc_74) rfl rfl hl.1 rfl (lv_room (Nat.le_of_ble_eq_true rfl)) dX3_ledTo_51 ⟨Nat.le_of_ble_eq_true rfl, Nat.le_of_ble_eq_true rfl⟩) hS (fun z_77 σ_s_76 H locs rz_77 hw_75 hH hS => ?_)
        obtain ⟨e9, hw_75⟩ := hw_75
        replace e9 := e9.symm
        subst e9
        have hw_75 : z_77 = -1 ∨ (0 ≤ v4q39 ∧ v4q39 < z_77 ∧ z_77 < (gI σ a 4)) := hw_75
        refine lv_goto (tgt := 69) hx hb dX3_ledTo_54 (by decide) ?_
        refine lv_istore (lv' := [(4, .int (I z_77)), (6, .int (I z_48)), (0, .ref a), (1, .ref b), (2, .int (I i)), (3, .int (I dp)), (5, .int (I v5q39))]) hx hb dX3_ledTo_69 hl (by decide) rfl (fun ls hl => ?_)
        refine lv_iinc (v := I (v5q39 + 1)) (lv' := [(5, .int (I (v5q39 + 1))), (4, .int (I z_77)), (6, .int (I z_48)), (0, .ref a), (1, .ref b), (2, .int (I i)), (3, .int (I dp))]) hx hb dX3_ledTo_71 hl (k := 6) rfl (I_add _ _) (by decide) rfl (fun ls hl => ?_)
        refine lv_goto (tgt := 6) hx hb dX3_ledTo_74 (by decide) ?_
        replace hl : lv_has ls 7 [(5, .int (I (v5q39 + 1))), (4, .int (I z_77)), (0, .ref a), (1, .ref b), (2, .int (I i)), (3, .int (I dp))] := lv_sub hl [0, 1, 3, 4, 5, 6] rfl
        exact ihJ_40 (z_77, v5q39 + 1) σ _ _ _ (by first | omega | (dsimp only; omega)) ⟨rfl, hH, hS, lv_sub hl [2, 3, 4, 5, 1, 0] rfl, rz_77, ⟨by first | omega | (dsimp only; omega), by first | omega | (dsimp only; omega)⟩, by first | omega | (dsimp only; omega), by first | omega | (dsimp only; omega), by first | omega | (dsimp only; omega), by first | omega | (dsimp only; omega)⟩

set_option maxHeartbeats 1000000 in
set_option maxRecDepth 100000 in
theorem h_layGoing (l : Launch) (G : va_G) (y : Nat → ClassId) (b0 : Nat) (σ : th_M) (E : th_E) (hO : ok y E σ) (a : Nat) (h_a : kd E a = 2) (i : Int) (ri : rng i) (l_i : -1 ≤ i) (u_i : i ≤ 128) : Met l yX3_layGoing wsX3_layGoing ({ frames := 3, cells := 0, slots := 0, locals := 114 }) (th_P G y b0 σ [.ref a, .int (I i)]) (th_Qi G b0 (fun r σ1 => ok y E σ1 ∧ fr [2] E σ σ1 ∧ (0 ≤ r ∧ r ≤ 1) ∧ (True))) 0 0 (th_A b0) := by
  refine Met.ofW (cc := cX3_layGoing) (maxL := 3) (ret := (some .boolean)) (by decide) rfl ?_
  intro p e s m args below meth c s₁ B hml hv
  obtain ⟨rfl, hH, hK⟩ := hv
  have hx := B.exec
  have hb := B.bytes
  have hr := B.returns
  have hts := atoms_spec (ws := wsX3_layGoing) B.pre
  have hown : s.vm.findClass RX3 = some m.cls := findClass_of_methodNamed B.named
  have hlocks := B.notSynchronized
  have h00 : b0 ≤ s.heap.size := hH.1
  have hS : va_S (th_A b0) s.heap s.heap [] := va_S.rf
  have hF : fr [2] E σ σ := fr.rf
  have hl := lv_entry ([.ref a, .int (I i)]) (n := 3) (Nat.le_of_ble_eq_true rfl)
  rw [lg_entry_eq]
  generalize (lg_sl ([.ref a, .int (I i)]) ++ List.replicate (3 - (lg_sl ([.ref a, .int (I i)])).length) Slot.unset).toArray = ls at hl ⊢
  have hl : lv_has ls 3 [(0, .ref a), (1, .int (I i))] := hl
  refine lv_aload_n hx hb dX3_layGoing_0 rfl (lv_at hl 0 rfl) ?_
  refine lv_iload_n hx hb dX3_layGoing_1 rfl (lv_at hl 1 rfl) ?_
  obtain ⟨z_1, e_2, rz_1, lz_1, uz_1⟩ := hO.gi h_a (by decide) k2_4
  obtain ⟨_, hc_3⟩ := hO.cell h_a (by decide) (ci := 9) rfl
  refine th_calli (va_runV (As := [.int (I i)]) (rest := []) ⟨hx, hb, hml, hown, hts⟩ (t_parentOf l G y b0 σ a (tvE E σ a 128) i (hO.isT2 h_a) (show rng i from ri)) (cwV 1 hts gX3_layGoing_X9_parentOf rfl rfl rfl (by decide +kernel) ⟨Nat.le_of_ble_eq_true rfl, Nat.le_of_ble_eq_true rfl⟩) (th_PV hK hH rfl hc_3) rfl rfl hl.1 rfl (lv_room (Nat.le_of_ble_eq_true rfl)) dX3_layGoing_2 ⟨Nat.le_of_ble_eq_true rfl, Nat.le_of_ble_eq_true rfl⟩) hS (fun z_6 σ_s_5 H locs rz_6 hw_4 hH hS => ?_)
  obtain ⟨e9, hw_4⟩ := hw_4
  replace e9 := e9.symm
  subst e9
  have hw_4 : z_6 = -1 ∨ (0 ≤ z_6 ∧ z_6 < i ∧ i < (gI σ a 4)) := hw_4
  refine lv_istore_n (lv' := [(2, .int (I z_6)), (0, .ref a), (1, .int (I i))]) hx hb dX3_layGoing_5 rfl hl (by decide) rfl (fun ls hl => ?_)
  refine lv_iload_n hx hb dX3_layGoing_6 rfl (lv_at hl 0 rfl) ?_
  refine lv_iconst (v := I (-1)) hx hb dX3_layGoing_7 (by decide) ?_
  refine lv_icmp_eq (tgt := 33) hx hb dX3_layGoing_8 (by decide) (fun c_7 => ?_) (fun c_7 => ?_)
  · replace c_7 := (I_eq (a := z_6) (b := (-1)) rz_6 (show rng (-1) from ⟨by decide, by decide⟩)).mp c_7
    refine lv_iconst (v := I 0) hx hb dX3_layGoing_33 (by decide) ?_
    exact th_zret hx hb hr hlocks hH hS (z := 0) (by omega) ⟨hO, hF, ⟨by omega, by omega⟩, trivial⟩ dX3_layGoing_34
  · replace c_7 := mt (I_eq (a := z_6) (b := (-1)) rz_6 (show rng (-1) from ⟨by decide, by decide⟩)).mpr c_7
    refine lv_aload_n hx hb dX3_layGoing_11 rfl (lv_at hl 1 rfl) ?_
    refine lv_iload_n hx hb dX3_layGoing_12 rfl (lv_at hl 0 rfl) ?_
    obtain ⟨_, hc_8⟩ := hO.cell h_a (by decide) (ci := 9) rfl
    refine th_calli (va_runV (As := [.int (I z_6)]) (rest := []) ⟨hx, hb, hml, hown, hts⟩ (t_kindAt l G y b0 σ a (tvE E σ a 128) z_6 (hO.isT2 h_a) (show rng z_6 from rz_6)) (cwV 1 hts gX3_layGoing_X9_kindAt rfl rfl rfl (by decide +kernel) ⟨Nat.le_of_ble_eq_true rfl, Nat.le_of_ble_eq_true rfl⟩) (th_PV hK hH rfl hc_8) rfl rfl hl.1 rfl (lv_room (Nat.le_of_ble_eq_true rfl)) dX3_layGoing_13 ⟨Nat.le_of_ble_eq_true rfl, Nat.le_of_ble_eq_true rfl⟩) hS (fun z_11 σ_s_10 H locs rz_11 hw_9 hH hS => ?_)
    obtain ⟨e9, hw_9⟩ := hw_9
    replace e9 := e9.symm
    subst e9
    have hw_9 : (0 ≤ z_6 ∧ z_6 < (gI σ a 4)) ∨ z_11 = -1 := hw_9
    refine lv_iconst (v := I 2) hx hb dX3_layGoing_16 (by decide) ?_
    refine lv_icmp_ne (tgt := 35) hx hb dX3_layGoing_17 (by decide) (fun c_12 => ?_) (fun c_12 => ?_)
    · replace c_12 := mt (I_eq (a := z_11) (b := 2) rz_11 (show rng 2 from ⟨by decide, by decide⟩)).mpr c_12
      refine lv_aload_n hx hb dX3_layGoing_35 rfl (lv_at hl 1 rfl) ?_
      refine lv_iload_n hx hb dX3_layGoing_36 rfl (lv_at hl 2 rfl) ?_
      obtain ⟨_, hc_13⟩ := hO.cell h_a (by decide) (ci := 9) rfl
      refine th_callv (va_runV (As := [.int (I i)]) (rest := []) ⟨hx, hb, hml, hown, hts⟩ (t2_cut l G y b0 σ E hO a h_a i (show rng i from ri) (by omega) (by omega)) (cwV 1 hts gX3_layGoing_X9_cut rfl rfl rfl (by decide +kernel) ⟨Nat.le_of_ble_eq_true rfl, Nat.le_of_ble_eq_true rfl⟩) (th_PV hK hH rfl hc_13) rfl rfl hl.1 rfl (lv_room (Nat.le_of_ble_eq_true rfl)) dX3_layGoing_37 ⟨Nat.le_of_ble_eq_true rfl, Nat.le_of_ble_eq_true rfl⟩) hS (fun σ_s_15 H locs hw_14 hH hS => ?_)
      obtain ⟨hO9, hF9, hw_14⟩ := hw_14
      replace hO := hO9
      replace hF := hF.tu hF9 (by decide)
      refine lv_iconst (v := I 1) hx hb dX3_layGoing_40 (by decide) ?_
      exact th_zret hx hb hr hlocks hH hS (z := 1) (by omega) ⟨hO, hF, ⟨by omega, by omega⟩, trivial⟩ dX3_layGoing_41
    · replace c_12 := (I_eq (a := z_11) (b := 2) rz_11 (show rng 2 from ⟨by decide, by decide⟩)).mp c_12
      refine lv_aload_n hx hb dX3_layGoing_20 rfl (lv_at hl 1 rfl) ?_
      refine lv_iload_n hx hb dX3_layGoing_21 rfl (lv_at hl 0 rfl) ?_
      obtain ⟨_, hc_16⟩ := hO.cell h_a (by decide) (ci := 9) rfl
      refine th_calli (va_runV (As := [.int (I z_6)]) (rest := []) ⟨hx, hb, hml, hown, hts⟩ (t_end l G y b0 σ a (tvE E σ a 128) z_6 (hO.isT2 h_a) (show rng z_6 from rz_6)) (cwV 1 hts gX3_layGoing_X9_end rfl rfl rfl (by decide +kernel) ⟨Nat.le_of_ble_eq_true rfl, Nat.le_of_ble_eq_true rfl⟩) (th_PV hK hH rfl hc_16) rfl rfl hl.1 rfl (lv_room (Nat.le_of_ble_eq_true rfl)) dX3_layGoing_22 ⟨Nat.le_of_ble_eq_true rfl, Nat.le_of_ble_eq_true rfl⟩) hS (fun z_19 σ_s_18 H locs rz_19 hw_17 hH hS => ?_)
      obtain ⟨e9, hw_17⟩ := hw_17
      replace e9 := e9.symm
      subst e9
      have hw_17 : ((0 ≤ z_6 ∧ z_6 < (gI σ a 4)) ∧ z_6 ≤ z_19 ∧ z_19 < (gI σ a 4)) ∨ (z_19 = -1 ∧ ¬ (0 ≤ z_6 ∧ z_6 < (gI σ a 4))) := hw_17
      refine lv_aload_n hx hb dX3_layGoing_25 rfl (lv_at hl 1 rfl) ?_
      refine lv_iload_n hx hb dX3_layGoing_26 rfl (lv_at hl 2 rfl) ?_
      obtain ⟨_, hc_20⟩ := hO.cell h_a (by decide) (ci := 9) rfl
      refine th_calli (va_runV (As := [.int (I i)]) (rest := [.int (I z_19)]) ⟨hx, hb, hml, hown, hts⟩ (t_end l G y b0 σ a (tvE E σ a 128) i (hO.isT2 h_a) (show rng i from ri)) (cwV 1 hts gX3_layGoing_X9_end rfl rfl rfl (by decide +kernel) ⟨Nat.le_of_ble_eq_true rfl, Nat.le_of_ble_eq_true rfl⟩) (th_PV hK hH rfl hc_20) rfl rfl hl.1 rfl (lv_room (Nat.le_of_ble_eq_true rfl)) dX3_layGoing_27 ⟨Nat.le_of_ble_eq_true rfl, Nat.le_of_ble_eq_true rfl⟩) hS (fun z_23 σ_s_22 H locs rz_23 hw_21 hH hS => ?_)
      obtain ⟨e9, hw_21⟩ := hw_21
      replace e9 := e9.symm
      subst e9
      have hw_21 : ((0 ≤ i ∧ i < (gI σ a 4)) ∧ i ≤ z_23 ∧ z_23 < (gI σ a 4)) ∨ (z_23 = -1 ∧ ¬ (0 ≤ i ∧ i < (gI σ a 4))) := hw_21
      refine lv_icmp_eq (tgt := 35) hx hb dX3_layGoing_30 (by decide) (fun c_24 => ?_) (fun c_24 => ?_)
      · replace c_24 := (I_eq (a := z_19) (b := z_23) rz_19 rz_23).mp c_24
        refine lv_aload_n hx hb dX3_layGoing_35 rfl (lv_at hl 1 rfl) ?_
        refine lv_iload_n hx hb dX3_layGoing_36 rfl (lv_at hl 2 rfl) ?_
        obtain ⟨_, hc_25⟩ := hO.cell h_a (by decide) (ci := 9) rfl
        refine th_callv (va_runV (As := [.int (I i)]) (rest := []) ⟨hx, hb, hml, hown, hts⟩ (t2_cut l G y b0 σ E hO a h_a i (show rng i from ri) (by omega) (by omega)) (cwV 1 hts gX3_layGoing_X9_cut rfl rfl rfl (by decide +kernel) ⟨Nat.le_of_ble_eq_true rfl, Nat.le_of_ble_eq_true rfl⟩) (th_PV hK hH rfl hc_25) rfl rfl hl.1 rfl (lv_room (Nat.le_of_ble_eq_true rfl)) dX3_layGoing_37 ⟨Nat.le_of_ble_eq_true rfl, Nat.le_of_ble_eq_true rfl⟩) hS (fun σ_s_27 H locs hw_26 hH hS => ?_)
        obtain ⟨hO9, hF9, hw_26⟩ := hw_26
        replace hO := hO9
        replace hF := hF.tu hF9 (by decide)
        refine lv_iconst (v := I 1) hx hb dX3_layGoing_40 (by decide) ?_
        exact th_zret hx hb hr hlocks hH hS (z := 1) (by omega) ⟨hO, hF, ⟨by omega, by omega⟩, trivial⟩ dX3_layGoing_41
      · replace c_24 := mt (I_eq (a := z_19) (b := z_23) rz_19 rz_23).mpr c_24
        refine lv_iconst (v := I 0) hx hb dX3_layGoing_33 (by decide) ?_
        exact th_zret hx hb hr hlocks hH hS (z := 0) (by omega) ⟨hO, hF, ⟨by omega, by omega⟩, trivial⟩ dX3_layGoing_34

set_option maxHeartbeats 1000000 in
set_option maxRecDepth 100000 in
theorem h_layComing (l : Launch) (G : va_G) (y : Nat → ClassId) (b0 : Nat) (σ : th_M) (E : th_E) (hO : ok y E σ) (a : Nat) (h_a : kd E a = 2) (b : Nat) (h_b : kd E b = 1) (i : Int) (ri : rng i) (l_i : -1 ≤ i) (u_i : i ≤ 59) : Met l yX3_layComing wsX3_layComing ({ frames := 3, cells := 0, slots := 0, locals := 120 }) (th_P G y b0 σ [.ref a, .ref b, .int (I i)]) (th_Qi G b0 (fun r σ1 => ok y E σ1 ∧ fr [2] E σ σ1 ∧ (0 ≤ r ∧ r ≤ 1) ∧ (True))) 0 0 (th_A b0) := by
  refine Met.ofW (cc := cX3_layComing) (maxL := 7) (ret := (some .boolean)) (by decide) rfl ?_
  intro p e s m args below meth c s₁ B hml hv
  obtain ⟨rfl, hH, hK⟩ := hv
  have hx := B.exec
  have hb := B.bytes
  have hr := B.returns
  have hts := atoms_spec (ws := wsX3_layComing) B.pre
  have hown : s.vm.findClass RX3 = some m.cls := findClass_of_methodNamed B.named
  have hlocks := B.notSynchronized
  have h00 : b0 ≤ s.heap.size := hH.1
  have hS : va_S (th_A b0) s.heap s.heap [] := va_S.rf
  have hF : fr [2] E σ σ := fr.rf
  have hl := lv_entry ([.ref a, .ref b, .int (I i)]) (n := 7) (Nat.le_of_ble_eq_true rfl)
  rw [lg_entry_eq]
  generalize (lg_sl ([.ref a, .ref b, .int (I i)]) ++ List.replicate (7 - (lg_sl ([.ref a, .ref b, .int (I i)])).length) Slot.unset).toArray = ls at hl ⊢
  have hl : lv_has ls 7 [(0, .ref a), (1, .ref b), (2, .int (I i))] := hl
  refine lv_aload_n hx hb dX3_layComing_0 rfl (lv_at hl 1 rfl) ?_
  refine lv_iload_n hx hb dX3_layComing_1 rfl (lv_at hl 2 rfl) ?_
  obtain ⟨_, hc_1⟩ := hO.cell h_b (by decide) (ci := 9) rfl
  refine th_calli (va_runV (As := [.int (I i)]) (rest := []) ⟨hx, hb, hml, hown, hts⟩ (t1_depthAt l G y b0 σ E hO b h_b i (show rng i from ri)) (cwV 1 hts gX3_layComing_X9_depthAt rfl rfl rfl (by decide +kernel) ⟨Nat.le_of_ble_eq_true rfl, Nat.le_of_ble_eq_true rfl⟩) (th_PV hK hH rfl hc_1) rfl rfl hl.1 rfl (lv_room (Nat.le_of_ble_eq_true rfl)) dX3_layComing_2 ⟨Nat.le_of_ble_eq_true rfl, Nat.le_of_ble_eq_true rfl⟩) hS (fun z_4 σ_s_3 H locs rz_4 hw_2 hH hS => ?_)
  obtain ⟨e9, hw_2⟩ := hw_2
  replace e9 := e9.symm
  subst e9
  have hw_2 : z_4 ≤ 7 ∧ ((0 ≤ i ∧ i < gI σ b 4) ∨ (z_4 = -1 ∧ ¬ (0 ≤ i ∧ i < gI σ b 4))) := hw_2
  refine lv_istore_n (lv' := [(3, .int (I z_4)), (0, .ref a), (1, .ref b), (2, .int (I i))]) hx hb dX3_layComing_5 rfl hl (by decide) rfl (fun ls hl => ?_)
  refine lv_iload_n hx hb dX3_layComing_6 rfl (lv_at hl 0 rfl) ?_
  refine lv_iconst (v := I 1) hx hb dX3_layComing_7 (by decide) ?_
  refine lv_icmp_ge (tgt := 13) hx hb dX3_layComing_8 (by decide) (fun c_5 => ?_) (fun c_5 => ?_)
  · replace c_5 := (I_le (a := 1) (b := z_4) (show rng 1 from ⟨by decide, by decide⟩) rz_4).mp c_5
    refine lv_aload_n hx hb dX3_layComing_13 rfl (lv_at hl 1 rfl) ?_
    refine lv_aload_n hx hb dX3_layComing_14 rfl (lv_at hl 2 rfl) ?_
    refine lv_iload_n hx hb dX3_layComing_15 rfl (lv_at hl 3 rfl) ?_
    refine lv_iload_n hx hb dX3_layComing_16 rfl (lv_at hl 0 rfl) ?_
    refine lv_iconst (v := I 1) hx hb dX3_layComing_17 (by decide) ?_
    refine lv_isub hx hb dX3_layComing_18 ?_
    refine th_subo (fun z_6 rz_6 hz_6 => ?_)
    refine th_calli (va_runS (As := [.ref a, .ref b, .int (I i), .int (I z_6)]) (rest := []) ⟨hx, hb, hml, hown, hts⟩ (h_ledTo l G y b0 σ E hO a h_a b h_b i (show rng i from ri) z_6 (show rng z_6 from rz_6)) (va_cwS 4 hts gX3_layComing_X3_ledTo rfl rfl rfl (by decide +kernel) ⟨Nat.le_of_ble_eq_true rfl, Nat.le_of_ble_eq_true rfl⟩) (th_PS hK hH) rfl rfl hl.1 rfl (lv_room (Nat.le_of_ble_eq_true rfl)) dX3_layComing_19 ⟨Nat.le_of_ble_eq_true rfl, Nat.le_of_ble_eq_true rfl⟩) hS (fun z_9 σ_s_8 H locs rz_9 hw_7 hH hS => ?_)
    obtain ⟨e9, hw_7⟩ := hw_7
    replace e9 := e9.symm
    subst e9
    have hw_7 : -1 ≤ z_9 ∧ z_9 ≤ 128 := hw_7
    refine lv_istore (lv' := [(4, .int (I z_9)), (3, .int (I z_4)), (0, .ref a), (1, .ref b), (2, .int (I i))]) hx hb dX3_layComing_22 hl (by decide) rfl (fun ls hl => ?_)
    refine lv_aload_n hx hb dX3_layComing_24 rfl (lv_at hl 3 rfl) ?_
    refine lv_aload_n hx hb dX3_layComing_25 rfl (lv_at hl 3 rfl) ?_
    refine lv_iload_n hx hb dX3_layComing_26 rfl (lv_at hl 4 rfl) ?_
    obtain ⟨z_10, e_11, rz_10, lz_10, uz_10⟩ := hO.gi h_b (by decide) k1_4
    obtain ⟨_, hc_12⟩ := hO.cell h_b (by decide) (ci := 9) rfl
    refine th_calli (va_runV (As := [.int (I i)]) (rest := [.ref b]) ⟨hx, hb, hml, hown, hts⟩ (t_parentOf l G y b0 σ b (tvE E σ b 60) i (hO.isT1 h_b) (show rng i from ri)) (cwV 1 hts gX3_layComing_X9_parentOf rfl rfl rfl (by decide +kernel) ⟨Nat.le_of_ble_eq_true rfl, Nat.le_of_ble_eq_true rfl⟩) (th_PV hK hH rfl hc_12) rfl rfl hl.1 rfl (lv_room (Nat.le_of_ble_eq_true rfl)) dX3_layComing_27 ⟨Nat.le_of_ble_eq_true rfl, Nat.le_of_ble_eq_true rfl⟩) hS (fun z_15 σ_s_14 H locs rz_15 hw_13 hH hS => ?_)
    obtain ⟨e9, hw_13⟩ := hw_13
    replace e9 := e9.symm
    subst e9
    have hw_13 : z_15 = -1 ∨ (0 ≤ z_15 ∧ z_15 < i ∧ i < (gI σ b 4)) := hw_13
    obtain ⟨_, hc_16⟩ := hO.cell h_b (by decide) (ci := 9) rfl
    refine th_calli (va_runV (As := [.int (I z_15)]) (rest := []) ⟨hx, hb, hml, hown, hts⟩ (t_kindAt l G y b0 σ b (tvE E σ b 60) z_15 (hO.isT1 h_b) (show rng z_15 from rz_15)) (cwV 1 hts gX3_layComing_X9_kindAt rfl rfl rfl (by decide +kernel) ⟨Nat.le_of_ble_eq_true rfl, Nat.le_of_ble_eq_true rfl⟩) (th_PV hK hH rfl hc_16) rfl rfl hl.1 rfl (lv_room (Nat.le_of_ble_eq_true rfl)) dX3_layComing_30 ⟨Nat.le_of_ble_eq_true rfl, Nat.le_of_ble_eq_true rfl⟩) hS (fun z_19 σ_s_18 H locs rz_19 hw_17 hH hS => ?_)
    obtain ⟨e9, hw_17⟩ := hw_17
    replace e9 := e9.symm
    subst e9
    have hw_17 : (0 ≤ z_15 ∧ z_15 < (gI σ b 4)) ∨ z_19 = -1 := hw_17
    refine lv_istore (lv' := [(5, .int (I z_19)), (4, .int (I z_9)), (3, .int (I z_4)), (0, .ref a), (1, .ref b), (2, .int (I i))]) hx hb dX3_layComing_33 hl (by decide) rfl (fun ls hl => ?_)
    refine lv_iload hx hb dX3_layComing_35 (lv_at hl 1 rfl) ?_
    refine lv_iconst (v := I (-1)) hx hb dX3_layComing_37 (by decide) ?_
    refine lv_icmp_eq (tgt := 52) hx hb dX3_layComing_38 (by decide) (fun c_20 => ?_) (fun c_20 => ?_)
    · replace c_20 := (I_eq (a := z_9) (b := (-1)) rz_9 (show rng (-1) from ⟨by decide, by decide⟩)).mp c_20
      refine lv_iconst (v := I 0) hx hb dX3_layComing_52 (by decide) ?_
      exact th_zret hx hb hr hlocks hH hS (z := 0) (by omega) ⟨hO, hF, ⟨by omega, by omega⟩, trivial⟩ dX3_layComing_53
    · replace c_20 := mt (I_eq (a := z_9) (b := (-1)) rz_9 (show rng (-1) from ⟨by decide, by decide⟩)).mpr c_20
      refine lv_aload_n hx hb dX3_layComing_41 rfl (lv_at hl 3 rfl) ?_
      refine lv_iload hx hb dX3_layComing_42 (lv_at hl 1 rfl) ?_
      obtain ⟨z_21, e_22, rz_21, lz_21, uz_21⟩ := hO.gi h_a (by decide) k2_4
      obtain ⟨_, hc_23⟩ := hO.cell h_a (by decide) (ci := 9) rfl
      refine th_calli (va_runV (As := [.int (I z_9)]) (rest := []) ⟨hx, hb, hml, hown, hts⟩ (t_kindAt l G y b0 σ a (tvE E σ a 128) z_9 (hO.isT2 h_a) (show rng z_9 from rz_9)) (cwV 1 hts gX3_layComing_X9_kindAt rfl rfl rfl (by decide +kernel) ⟨Nat.le_of_ble_eq_true rfl, Nat.le_of_ble_eq_true rfl⟩) (th_PV hK hH rfl hc_23) rfl rfl hl.1 rfl (lv_room (Nat.le_of_ble_eq_true rfl)) dX3_layComing_44 ⟨Nat.le_of_ble_eq_true rfl, Nat.le_of_ble_eq_true rfl⟩) hS (fun z_26 σ_s_25 H locs rz_26 hw_24 hH hS => ?_)
      obtain ⟨e9, hw_24⟩ := hw_24
      replace e9 := e9.symm
      subst e9
      have hw_24 : (0 ≤ z_9 ∧ z_9 < (gI σ a 4)) ∨ z_26 = -1 := hw_24
      refine lv_iload hx hb dX3_layComing_47 (lv_at hl 0 rfl) ?_
      refine lv_icmp_eq (tgt := 54) hx hb dX3_layComing_49 (by decide) (fun c_27 => ?_) (fun c_27 => ?_)
      · replace c_27 := (I_eq (a := z_26) (b := z_19) rz_26 rz_19).mp c_27
        refine lv_iload hx hb dX3_layComing_54 (lv_at hl 0 rfl) ?_
        refine lv_iconst (v := I 3) hx hb dX3_layComing_56 (by decide) ?_
        refine th_join (α := Int) (J := 102) (stk := fun x9 => [.int (I x9)]) (fun x9 σ9 H9 l9 ls9 => σ9 = σ ∧ th_H G b0 σ9 H9 ∧ va_S (th_A b0) s.heap H9 l9 ∧ lv_has ls9 7 [(0, .ref a), (1, .ref b), (2, .int (I i)), (3, .int (I z_4)), (4, .int (I z_9))] ∧ rng x9 ∧ (x9 = 0 ∨ x9 = 1)) ?_ (fun jK_48 => ?_)
        · intro x9 σ_K_48 H locs ls hI9
          obtain ⟨w0q47, ex9⟩ : ∃ z, z = x9 := ⟨_, rfl⟩
          subst ex9
          obtain ⟨eK_48, hH, hS, hl, rw0q47, K_48_0⟩ := hI9
          replace eK_48 := eK_48.symm
          subst eK_48
          have hl : lv_has ls 7 [(0, .ref a), (1, .ref b), (2, .int (I i)), (3, .int (I z_4)), (4, .int (I z_9))] := hl
          have rw0q47 : rng w0q47 := rw0q47
          have K_48_0 : w0q47 = 0 ∨ w0q47 = 1 := K_48_0
          refine lv_istore (lv' := [(6, .int (I w0q47)), (0, .ref a), (1, .ref b), (2, .int (I i)), (3, .int (I z_4)), (4, .int (I z_9))]) hx hb dX3_layComing_102 hl (by decide) rfl (fun ls hl => ?_)
          refine lv_iload hx hb dX3_layComing_104 (lv_at hl 0 rfl) ?_
          refine lv_if_eq (tgt := 136) hx hb dX3_layComing_106 (by decide) (fun c_49 => ?_) (fun c_49 => ?_)
          · replace c_49 := (I_eq (a := w0q47) (b := 0) rw0q47 (show rng 0 from ⟨by decide, by decide⟩)).mp c_49
            refine lv_iconst (v := I 0) hx hb dX3_layComing_136 (by decide) ?_
            exact th_zret hx hb hr hlocks hH hS (z := 0) (by omega) ⟨hO, hF, ⟨by omega, by omega⟩, trivial⟩ dX3_layComing_137
          · replace c_49 := mt (I_eq (a := w0q47) (b := 0) rw0q47 (show rng 0 from ⟨by decide, by decide⟩)).mpr c_49
            refine lv_aload_n hx hb dX3_layComing_109 rfl (lv_at hl 1 rfl) ?_
            refine lv_aload_n hx hb dX3_layComing_110 rfl (lv_at hl 1 rfl) ?_
            refine lv_iload hx hb dX3_layComing_111 (lv_at hl 5 rfl) ?_
            obtain ⟨_, hc_50⟩ := hO.cell h_a (by decide) (ci := 9) rfl
            refine th_calli (va_runV (As := [.int (I z_9)]) (rest := [.ref a]) ⟨hx, hb, hml, hown, hts⟩ (t_end l G y b0 σ a (tvE E σ a 128) z_9 (hO.isT2 h_a) (show rng z_9 from rz_9)) (cwV 1 hts gX3_layComing_X9_end rfl rfl rfl (by decide +kernel) ⟨Nat.le_of_ble_eq_true rfl, Nat.le_of_ble_eq_true rfl⟩) (th_PV hK hH rfl hc_50) rfl rfl hl.1 rfl (lv_room (Nat.le_of_ble_eq_true rfl)) dX3_layComing_113 ⟨Nat.le_of_ble_eq_true rfl, Nat.le_of_ble_eq_true rfl⟩) hS (fun z_53 σ_s_52 H locs rz_53 hw_51 hH hS => ?_)
            obtain ⟨e9, hw_51⟩ := hw_51
            replace e9 := e9.symm
            subst e9
            have hw_51 : ((0 ≤ z_9 ∧ z_9 < (gI σ a 4)) ∧ z_9 ≤ z_53 ∧ z_53 < (gI σ a 4)) ∨ (z_53 = -1 ∧ ¬ (0 ≤ z_9 ∧ z_9 < (gI σ a 4))) := hw_51
            refine lv_iconst (v := I 1) hx hb dX3_layComing_116 (by decide) ?_
            refine lv_iadd hx hb dX3_layComing_117 ?_
            refine nq_top (I_add _ _) ?_
            refine lv_iload_n hx hb dX3_layComing_118 rfl (lv_at hl 4 rfl) ?_
            refine lv_aload_n hx hb dX3_layComing_119 rfl (lv_at hl 2 rfl) ?_
            refine lv_iload_n hx hb dX3_layComing_120 rfl (lv_at hl 3 rfl) ?_
            obtain ⟨_, hc_54⟩ := hO.cell h_b (by decide) (ci := 9) rfl
            refine th_calli (va_runV (As := [.int (I i)]) (rest := [.int (I z_4), .int (I (z_53 + 1)), .ref a]) ⟨hx, hb, hml, hown, hts⟩ (t_keyAt l G y b0 σ b (tvE E σ b 60) i (hO.isT1 h_b) (show rng i from ri)) (cwV 1 hts gX3_layComing_X9_keyAt rfl rfl rfl (by decide +kernel) ⟨Nat.le_of_ble_eq_true rfl, Nat.le_of_ble_eq_true rfl⟩) (th_PV hK hH rfl hc_54) rfl rfl hl.1 rfl (lv_room (Nat.le_of_ble_eq_true rfl)) dX3_layComing_121 ⟨Nat.le_of_ble_eq_true rfl, Nat.le_of_ble_eq_true rfl⟩) hS (fun z_57 σ_s_56 H locs rz_57 hw_55 hH hS => ?_)
            obtain ⟨e9, hw_55⟩ := hw_55
            replace e9 := e9.symm
            subst e9
            refine lv_aload_n hx hb dX3_layComing_124 rfl (lv_at hl 2 rfl) ?_
            refine lv_iload_n hx hb dX3_layComing_125 rfl (lv_at hl 3 rfl) ?_
            obtain ⟨_, hc_58⟩ := hO.cell h_a (by decide) (ci := 9) rfl
            refine th_calli (va_runV (As := [.int (I (z_53 + 1)), .int (I z_4), .int (I z_57), .ref b, .int (I i)]) (rest := []) ⟨hx, hb, hml, hown, hts⟩ (t21_graft l G y b0 σ E hO a h_a (z_53 + 1) (show rng (z_53 + 1) from ⟨by omega, by omega⟩) (by omega) (by omega) z_4 (show rng z_4 from rz_4) z_57 (show rng z_57 from rz_57) b h_b i (show rng i from ri) (by omega) (by omega)) (cwV 5 hts gX3_layComing_X9_graft rfl rfl rfl (by decide +kernel) ⟨Nat.le_of_ble_eq_true rfl, Nat.le_of_ble_eq_true rfl⟩) (th_PV hK hH rfl hc_58) rfl rfl hl.1 rfl (lv_room (Nat.le_of_ble_eq_true rfl)) dX3_layComing_126 ⟨Nat.le_of_ble_eq_true rfl, Nat.le_of_ble_eq_true rfl⟩) hS (fun z_61 σ_s_60 H locs rz_61 hw_59 hH hS => ?_)
            obtain ⟨hO9, hF9, bhw_59, hw_59⟩ := hw_59
            have e_62 : gI σ_s_60 b 4 = z_10 := (fr.ki hO hF9 h_b (by decide) (by decide) _).trans e_11
            replace hO := hO9
            replace hF := hF.tu hF9 (by decide)
            refine lv_if_eq (tgt := 136) hx hb dX3_layComing_129 (by decide) (fun c_63 => ?_) (fun c_63 => ?_)
            · replace c_63 := (I_eq (a := z_61) (b := 0) rz_61 (show rng 0 from ⟨by decide, by decide⟩)).mp c_63
              refine lv_iconst (v := I 0) hx hb dX3_layComing_136 (by decide) ?_
              exact th_zret hx hb hr hlocks hH hS (z := 0) (by omega) ⟨hO, hF, ⟨by omega, by omega⟩, trivial⟩ dX3_layComing_137
            · replace c_63 := mt (I_eq (a := z_61) (b := 0) rz_61 (show rng 0 from ⟨by decide, by decide⟩)).mpr c_63
              refine lv_iconst (v := I 1) hx hb dX3_layComing_132 (by decide) ?_
              refine lv_goto (tgt := 137) hx hb dX3_layComing_133 (by decide) ?_
              exact th_zret hx hb hr hlocks hH hS (z := 1) (by omega) ⟨hO, hF, ⟨by omega, by omega⟩, trivial⟩ dX3_layComing_137
        · refine lv_icmp_ne (tgt := 83) hx hb dX3_layComing_57 (by decide) (fun c_64 => ?_) (fun c_64 => ?_)
          · replace c_64 := mt (I_eq (a := z_19) (b := 3) rz_19 (show rng 3 from ⟨by decide, by decide⟩)).mpr c_64
            refine lv_aload_n hx hb dX3_layComing_83 rfl (lv_at hl 3 rfl) ?_
            refine lv_iload hx hb dX3_layComing_84 (lv_at hl 1 rfl) ?_
            obtain ⟨_, hc_65⟩ := hO.cell h_a (by decide) (ci := 9) rfl
            refine th_calli (va_runV (As := [.int (I z_9)]) (rest := []) ⟨hx, hb, hml, hown, hts⟩ (t_childCount l G y b0 σ a (tvE E σ a 128) z_9 (hO.isT2 h_a) (show rng z_9 from rz_9)) (cwV 1 hts gX3_layComing_X9_childCount rfl rfl rfl (by decide +kernel) ⟨Nat.le_of_ble_eq_true rfl, Nat.le_of_ble_eq_true rfl⟩) (th_PV hK hH rfl hc_65) rfl rfl hl.1 rfl (lv_room (Nat.le_of_ble_eq_true rfl)) dX3_layComing_86 ⟨Nat.le_of_ble_eq_true rfl, Nat.le_of_ble_eq_true rfl⟩) hS (fun z_68 σ_s_67 H locs rz_68 hw_66 hH hS => ?_)
            obtain ⟨e9, hw_66⟩ := hw_66
            replace e9 := e9.symm
            subst e9
            have hw_66 : 0 ≤ z_68 ∧ z_68 ≤ (gI σ a 4) := hw_66
            refine lv_aload_n hx hb dX3_layComing_89 rfl (lv_at hl 4 rfl) ?_
            refine lv_iload_n hx hb dX3_layComing_90 rfl (lv_at hl 5 rfl) ?_
            obtain ⟨_, hc_69⟩ := hO.cell h_b (by decide) (ci := 9) rfl
            refine th_calli (va_runV (As := [.int (I i)]) (rest := [.int (I z_68)]) ⟨hx, hb, hml, hown, hts⟩ (t_placeOf l G y b0 σ b (tvE E σ b 60) i (hO.isT1 h_b) (show rng i from ri)) (cwV 1 hts gX3_layComing_X9_placeOf rfl rfl rfl (by decide +kernel) ⟨Nat.le_of_ble_eq_true rfl, Nat.le_of_ble_eq_true rfl⟩) (th_PV hK hH rfl hc_69) rfl rfl hl.1 rfl (lv_room (Nat.le_of_ble_eq_true rfl)) dX3_layComing_91 ⟨Nat.le_of_ble_eq_true rfl, Nat.le_of_ble_eq_true rfl⟩) hS (fun z_72 σ_s_71 H locs rz_72 hw_70 hH hS => ?_)
            obtain ⟨e9, hw_70⟩ := hw_70
            replace e9 := e9.symm
            subst e9
            have hw_70 : -1 ≤ z_72 ∧ z_72 ≤ 128 := hw_70
            refine lv_icmp_ne (tgt := 101) hx hb dX3_layComing_94 (by decide) (fun c_73 => ?_) (fun c_73 => ?_)
            · replace c_73 := mt (I_eq (a := z_68) (b := z_72) rz_68 rz_72).mpr c_73
              refine lv_iconst (v := I 0) hx hb dX3_layComing_101 (by decide) ?_
              replace hl : lv_has ls 7 [(4, .int (I z_9)), (3, .int (I z_4)), (0, .ref a), (1, .ref b), (2, .int (I i))] := lv_sub hl [1, 2, 3, 4, 5] rfl
              exact jK_48 (0) σ _ _ _ ⟨rfl, hH, hS, lv_sub hl [2, 3, 4, 1, 0] rfl, (show rng 0 from ⟨by decide, by decide⟩), by first | omega | (dsimp only; omega)⟩
            · replace c_73 := (I_eq (a := z_68) (b := z_72) rz_68 rz_72).mp c_73
              refine lv_iconst (v := I 1) hx hb dX3_layComing_97 (by decide) ?_
              refine lv_goto (tgt := 102) hx hb dX3_layComing_98 (by decide) ?_
              replace hl : lv_has ls 7 [(4, .int (I z_9)), (3, .int (I z_4)), (0, .ref a), (1, .ref b), (2, .int (I i))] := lv_sub hl [1, 2, 3, 4, 5] rfl
              exact jK_48 (1) σ _ _ _ ⟨rfl, hH, hS, lv_sub hl [2, 3, 4, 1, 0] rfl, (show rng 1 from ⟨by decide, by decide⟩), by first | omega | (dsimp only; omega)⟩
          · replace c_64 := (I_eq (a := z_19) (b := 3) rz_19 (show rng 3 from ⟨by decide, by decide⟩)).mp c_64
            refine lv_aload_n hx hb dX3_layComing_60 rfl (lv_at hl 3 rfl) ?_
            refine lv_iload hx hb dX3_layComing_61 (lv_at hl 1 rfl) ?_
            refine lv_aload_n hx hb dX3_layComing_63 rfl (lv_at hl 4 rfl) ?_
            refine lv_iload_n hx hb dX3_layComing_64 rfl (lv_at hl 5 rfl) ?_
            obtain ⟨_, hc_74⟩ := hO.cell h_b (by decide) (ci := 9) rfl
            refine th_calli (va_runV (As := [.int (I i)]) (rest := [.int (I z_9), .ref a]) ⟨hx, hb, hml, hown, hts⟩ (t_keyAt l G y b0 σ b (tvE E σ b 60) i (hO.isT1 h_b) (show rng i from ri)) (cwV 1 hts gX3_layComing_X9_keyAt rfl rfl rfl (by decide +kernel) ⟨Nat.le_of_ble_eq_true rfl, Nat.le_of_ble_eq_true rfl⟩) (th_PV hK hH rfl hc_74) rfl rfl hl.1 rfl (lv_room (Nat.le_of_ble_eq_true rfl)) dX3_layComing_65 ⟨Nat.le_of_ble_eq_true rfl, Nat.le_of_ble_eq_true rfl⟩) hS (fun z_77 σ_s_76 H locs rz_77 hw_75 hH hS => ?_)
            obtain ⟨e9, hw_75⟩ := hw_75
            replace e9 := e9.symm
            subst e9
            obtain ⟨_, hc_78⟩ := hO.cell h_a (by decide) (ci := 9) rfl
            refine th_calli (va_runV (As := [.int (I z_9), .int (I z_77)]) (rest := []) ⟨hx, hb, hml, hown, hts⟩ (t_childBy l G y b0 σ a (tvE E σ a 128) z_9 z_77 (hO.isT2 h_a) (show rng z_9 from rz_9) (show rng z_77 from rz_77)) (cwV 2 hts gX3_layComing_X9_childBy rfl rfl rfl (by decide +kernel) ⟨Nat.le_of_ble_eq_true rfl, Nat.le_of_ble_eq_true rfl⟩) (th_PV hK hH rfl hc_78) rfl rfl hl.1 rfl (lv_room (Nat.le_of_ble_eq_true rfl)) dX3_layComing_68 ⟨Nat.le_of_ble_eq_true rfl, Nat.le_of_ble_eq_true rfl⟩) hS (fun z_81 σ_s_80 H locs rz_81 hw_79 hH hS => ?_)
            obtain ⟨e9, hw_79⟩ := hw_79
            replace e9 := e9.symm
            subst e9
            have hw_79 : z_81 = -1 ∨ (0 ≤ z_9 ∧ z_9 < z_81 ∧ z_81 < (gI σ a 4)) := hw_79
            refine lv_iconst (v := I (-1)) hx hb dX3_layComing_71 (by decide) ?_
            refine lv_icmp_ne (tgt := 79) hx hb dX3_layComing_72 (by decide) (fun c_82 => ?_) (fun c_82 => ?_)
            · replace c_82 := mt (I_eq (a := z_81) (b := (-1)) rz_81 (show rng (-1) from ⟨by decide, by decide⟩)).mpr c_82
              refine lv_iconst (v := I 0) hx hb dX3_layComing_79 (by decide) ?_
              refine lv_goto (tgt := 102) hx hb dX3_layComing_80 (by decide) ?_
              replace hl : lv_has ls 7 [(4, .int (I z_9)), (3, .int (I z_4)), (0, .ref a), (1, .ref b), (2, .int (I i))] := lv_sub hl [1, 2, 3, 4, 5] rfl
              exact jK_48 (0) σ _ _ _ ⟨rfl, hH, hS, lv_sub hl [2, 3, 4, 1, 0] rfl, (show rng 0 from ⟨by decide, by decide⟩), by first | omega | (dsimp only; omega)⟩
            · replace c_82 := (I_eq (a := z_81) (b := (-1)) rz_81 (show rng (-1) from ⟨by decide, by decide⟩)).mp c_82
              refine lv_iconst (v := I 1) hx hb dX3_layComing_75 (by decide) ?_
              refine lv_goto (tgt := 102) hx hb dX3_layComing_76 (by decide) ?_
              replace hl : lv_has ls 7 [(4, .int (I z_9)), (3, .int (I z_4)), (0, .ref a), (1, .ref b), (2, .int (I i))] := lv_sub hl [1, 2, 3, 4, 5] rfl
              exact jK_48 (1) σ _ _ _ ⟨rfl, hH, hS, lv_sub hl [2, 3, 4, 1, 0] rfl, (show rng 1 from ⟨by decide, by decide⟩), by first | omega | (dsimp only; omega)⟩
      · replace c_27 := mt (I_eq (a := z_26) (b := z_19) rz_26 rz_19).mpr c_27
        refine lv_iconst (v := I 0) hx hb dX3_layComing_52 (by decide) ?_
        exact th_zret hx hb hr hlocks hH hS (z := 0) (by omega) ⟨hO, hF, ⟨by omega, by omega⟩, trivial⟩ dX3_layComing_53
  · replace c_5 := mt (I_le (a := 1) (b := z_4) (show rng 1 from ⟨by decide, by decide⟩) rz_4).mpr c_5
    refine lv_iconst (v := I 0) hx hb dX3_layComing_11 (by decide) ?_
    exact th_zret hx hb hr hlocks hH hS (z := 0) (by omega) ⟨hO, hF, ⟨by omega, by omega⟩, trivial⟩ dX3_layComing_12

set_option maxHeartbeats 1000000 in
set_option maxRecDepth 100000 in
theorem h_layRow (l : Launch) (G : va_G) (y : Nat → ClassId) (b0 : Nat) (σ : th_M) (E : th_E) (hO : ok y E σ) (a : Nat) (h_a : kd E a = 2) (b : Nat) (h_b : kd E b = 1) (w1 : Int) (rw1 : rng w1) (l_w1 : -1 ≤ w1) (u_w1 : w1 ≤ 59) (c9 : Nat) (h_c9 : kd E c9 = 1) (w2 : Int) (rw2 : rng w2) (l_w2 : -1 ≤ w2) (u_w2 : w2 ≤ 59) : Met l yX3_layRow wsX3_layRow ({ frames := 61, cells := 0, slots := 0, locals := 1314 }) (th_P G y b0 σ [.ref a, .ref b, .int (I w1), .ref c9, .int (I w2)]) (th_Qi G b0 (fun r σ1 => ok y E σ1 ∧ fr [2] E σ σ1 ∧ (0 ≤ r ∧ r ≤ 1) ∧ (True))) 0 0 (th_A b0) := by
  refine Met.ofW (cc := cX3_layRow) (maxL := 6) (ret := (some .boolean)) (by decide) rfl ?_
  intro p e s m args below meth c s₁ B hml hv
  obtain ⟨rfl, hH, hK⟩ := hv
  have hx := B.exec
  have hb := B.bytes
  have hr := B.returns
  have hts := atoms_spec (ws := wsX3_layRow) B.pre
  have hown : s.vm.findClass RX3 = some m.cls := findClass_of_methodNamed B.named
  have hlocks := B.notSynchronized
  have h00 : b0 ≤ s.heap.size := hH.1
  have hS : va_S (th_A b0) s.heap s.heap [] := va_S.rf
  have hF : fr [2] E σ σ := fr.rf
  have hl := lv_entry ([.ref a, .ref b, .int (I w1), .ref c9, .int (I w2)]) (n := 6) (Nat.le_of_ble_eq_true rfl)
  rw [lg_entry_eq]
  generalize (lg_sl ([.ref a, .ref b, .int (I w1), .ref c9, .int (I w2)]) ++ List.replicate (6 - (lg_sl ([.ref a, .ref b, .int (I w1), .ref c9, .int (I w2)])).length) Slot.unset).toArray = ls at hl ⊢
  have hl : lv_has ls 6 [(0, .ref a), (1, .ref b), (2, .int (I w1)), (3, .ref c9), (4, .int (I w2))] := hl
  refine lv_iload_n hx hb dX3_layRow_0 rfl (lv_at hl 2 rfl) ?_
  refine lv_iconst (v := I (-1)) hx hb dX3_layRow_1 (by decide) ?_
  refine lv_icmp_ne (tgt := 13) hx hb dX3_layRow_2 (by decide) (fun c_1 => ?_) (fun c_1 => ?_)
  · replace c_1 := mt (I_eq (a := w1) (b := (-1)) rw1 (show rng (-1) from ⟨by decide, by decide⟩)).mpr c_1
    refine lv_aload_n hx hb dX3_layRow_13 rfl (lv_at hl 0 rfl) ?_
    refine lv_aload_n hx hb dX3_layRow_14 rfl (lv_at hl 1 rfl) ?_
    refine lv_iload_n hx hb dX3_layRow_15 rfl (lv_at hl 2 rfl) ?_
    refine lv_aload_n hx hb dX3_layRow_16 rfl (lv_at hl 1 rfl) ?_
    refine lv_iload_n hx hb dX3_layRow_17 rfl (lv_at hl 2 rfl) ?_
    obtain ⟨_, hc_2⟩ := hO.cell h_b (by decide) (ci := 9) rfl
    refine th_calli (va_runV (As := [.int (I w1)]) (rest := [.int (I w1), .ref b, .ref a]) ⟨hx, hb, hml, hown, hts⟩ (t1_depthAt l G y b0 σ E hO b h_b w1 (show rng w1 from rw1)) (cwV 1 hts gX3_layRow_X9_depthAt rfl rfl rfl (by decide +kernel) ⟨Nat.le_of_ble_eq_true rfl, Nat.le_of_ble_eq_true rfl⟩) (th_PV hK hH rfl hc_2) rfl rfl hl.1 rfl (lv_room (Nat.le_of_ble_eq_true rfl)) dX3_layRow_18 ⟨Nat.le_of_ble_eq_true rfl, Nat.le_of_ble_eq_true rfl⟩) hS (fun z_5 σ_s_4 H locs rz_5 hw_3 hH hS => ?_)
    obtain ⟨e9, hw_3⟩ := hw_3
    replace e9 := e9.symm
    subst e9
    have hw_3 : z_5 ≤ 7 ∧ ((0 ≤ w1 ∧ w1 < gI σ b 4) ∨ (z_5 = -1 ∧ ¬ (0 ≤ w1 ∧ w1 < gI σ b 4))) := hw_3
    refine th_calli (va_runS (As := [.ref a, .ref b, .int (I w1), .int (I z_5)]) (rest := []) ⟨hx, hb, hml, hown, hts⟩ (h_ledTo l G y b0 σ E hO a h_a b h_b w1 (show rng w1 from rw1) z_5 (show rng z_5 from rz_5)) (va_cwS 4 hts gX3_layRow_X3_ledTo rfl rfl rfl (by decide +kernel) ⟨Nat.le_of_ble_eq_true rfl, Nat.le_of_ble_eq_true rfl⟩) (th_PS hK hH) rfl rfl hl.1 rfl (lv_room (Nat.le_of_ble_eq_true rfl)) dX3_layRow_21 ⟨Nat.le_of_ble_eq_true rfl, Nat.le_of_ble_eq_true rfl⟩) hS (fun z_8 σ_s_7 H locs rz_8 hw_6 hH hS => ?_)
    obtain ⟨e9, hw_6⟩ := hw_6
    replace e9 := e9.symm
    subst e9
    have hw_6 : -1 ≤ z_8 ∧ z_8 ≤ 128 := hw_6
    refine lv_istore (lv' := [(5, .int (I z_8)), (0, .ref a), (1, .ref b), (2, .int (I w1)), (3, .ref c9), (4, .int (I w2))]) hx hb dX3_layRow_24 hl (by decide) rfl (fun ls hl => ?_)
    refine lv_iload hx hb dX3_layRow_26 (lv_at hl 0 rfl) ?_
    refine lv_iconst (v := I (-1)) hx hb dX3_layRow_28 (by decide) ?_
    refine lv_icmp_eq (tgt := 44) hx hb dX3_layRow_29 (by decide) (fun c_9 => ?_) (fun c_9 => ?_)
    · replace c_9 := (I_eq (a := z_8) (b := (-1)) rz_8 (show rng (-1) from ⟨by decide, by decide⟩)).mp c_9
      refine lv_iconst (v := I 0) hx hb dX3_layRow_44 (by decide) ?_
      exact th_zret hx hb hr hlocks hH hS (z := 0) (by omega) ⟨hO, hF, ⟨by omega, by omega⟩, trivial⟩ dX3_layRow_45
    · replace c_9 := mt (I_eq (a := z_8) (b := (-1)) rz_8 (show rng (-1) from ⟨by decide, by decide⟩)).mpr c_9
      refine lv_aload_n hx hb dX3_layRow_32 rfl (lv_at hl 2 rfl) ?_
      refine lv_iload_n hx hb dX3_layRow_33 rfl (lv_at hl 3 rfl) ?_
      refine lv_aload_n hx hb dX3_layRow_34 rfl (lv_at hl 1 rfl) ?_
      refine lv_iload hx hb dX3_layRow_35 (lv_at hl 0 rfl) ?_
      refine lv_iconst (v := I 0) hx hb dX3_layRow_37 (by decide) ?_
      obtain ⟨_, hc_10⟩ := hO.cell h_b (by decide) (ci := 9) rfl
      refine th_calli (va_runV (As := [.int (I w1), .ref a, .int (I z_8), .int (I 0)]) (rest := []) ⟨hx, hb, hml, hown, hts⟩ (t12_like 18 l G y b0 σ E hO b h_b w1 (show rng w1 from rw1) a h_a z_8 (show rng z_8 from rz_8) 0 (show rng 0 from (show rng 0 from ⟨by decide, by decide⟩)) (by omega) (by omega) (by omega)) (cwV 4 hts gX3_layRow_X9_like rfl rfl rfl (by decide +kernel) ⟨Nat.le_of_ble_eq_true rfl, Nat.le_of_ble_eq_true rfl⟩) (th_PV hK hH rfl hc_10) rfl rfl hl.1 rfl (lv_room (Nat.le_of_ble_eq_true rfl)) dX3_layRow_38 ⟨Nat.le_of_ble_eq_true rfl, Nat.le_of_ble_eq_true rfl⟩) hS (fun z_13 σ_s_12 H locs rz_13 hw_11 hH hS => ?_)
      obtain ⟨e9, bhw_11, hw_11⟩ := hw_11
      replace e9 := e9.symm
      subst e9
      refine lv_if_ne (tgt := 46) hx hb dX3_layRow_41 (by decide) (fun c_14 => ?_) (fun c_14 => ?_)
      · replace c_14 := mt (I_eq (a := z_13) (b := 0) rz_13 (show rng 0 from ⟨by decide, by decide⟩)).mpr c_14
        refine lv_iload hx hb dX3_layRow_46 (lv_at hl 5 rfl) ?_
        refine lv_iconst (v := I (-1)) hx hb dX3_layRow_48 (by decide) ?_
        refine lv_icmp_eq (tgt := 62) hx hb dX3_layRow_49 (by decide) (fun c_15 => ?_) (fun c_15 => ?_)
        · replace c_15 := (I_eq (a := w2) (b := (-1)) rw2 (show rng (-1) from ⟨by decide, by decide⟩)).mp c_15
          refine lv_aload_n hx hb dX3_layRow_62 rfl (lv_at hl 1 rfl) ?_
          refine lv_iload hx hb dX3_layRow_63 (lv_at hl 0 rfl) ?_
          refine th_calli (va_runS (As := [.ref a, .int (I z_8)]) (rest := []) ⟨hx, hb, hml, hown, hts⟩ (h_layGoing l G y b0 σ E hO a h_a z_8 (show rng z_8 from rz_8) (by omega) (by omega)) (va_cwS 2 hts gX3_layRow_X3_layGoing rfl rfl rfl (by decide +kernel) ⟨Nat.le_of_ble_eq_true rfl, Nat.le_of_ble_eq_true rfl⟩) (th_PS hK hH) rfl rfl hl.1 rfl (lv_room (Nat.le_of_ble_eq_true rfl)) dX3_layRow_65 ⟨Nat.le_of_ble_eq_true rfl, Nat.le_of_ble_eq_true rfl⟩) hS (fun z_18 σ_s_17 H locs rz_18 hw_16 hH hS => ?_)
          obtain ⟨hO9, hF9, bhw_16, hw_16⟩ := hw_16
          replace hO := hO9
          replace hF := hF.tu hF9 (by decide)
          exact th_zret hx hb hr hlocks hH hS (z := z_18) (by omega) ⟨hO, hF, ⟨by omega, by omega⟩, trivial⟩ dX3_layRow_68
        · replace c_15 := mt (I_eq (a := w2) (b := (-1)) rw2 (show rng (-1) from ⟨by decide, by decide⟩)).mpr c_15
          refine lv_aload_n hx hb dX3_layRow_52 rfl (lv_at hl 1 rfl) ?_
          refine lv_iload hx hb dX3_layRow_53 (lv_at hl 0 rfl) ?_
          refine lv_aload_n hx hb dX3_layRow_55 rfl (lv_at hl 4 rfl) ?_
          refine lv_iload hx hb dX3_layRow_56 (lv_at hl 5 rfl) ?_
          obtain ⟨_, hc_19⟩ := hO.cell h_a (by decide) (ci := 9) rfl
          refine th_calli (va_runV (As := [.int (I z_8), .ref c9, .int (I w2)]) (rest := []) ⟨hx, hb, hml, hown, hts⟩ (t21_replace l G y b0 σ E hO a h_a z_8 (show rng z_8 from rz_8) (by omega) (by omega) c9 h_c9 w2 (show rng w2 from rw2) (by omega) (by omega)) (cwV 3 hts gX3_layRow_X9_replace rfl rfl rfl (by decide +kernel) ⟨Nat.le_of_ble_eq_true rfl, Nat.le_of_ble_eq_true rfl⟩) (th_PV hK hH rfl hc_19) rfl rfl hl.1 rfl (lv_room (Nat.le_of_ble_eq_true rfl)) dX3_layRow_58 ⟨Nat.le_of_ble_eq_true rfl, Nat.le_of_ble_eq_true rfl⟩) hS (fun z_22 σ_s_21 H locs rz_22 hw_20 hH hS => ?_)
          obtain ⟨hO9, hF9, bhw_20, hw_20⟩ := hw_20
          replace hO := hO9
          replace hF := hF.tu hF9 (by decide)
          exact th_zret hx hb hr hlocks hH hS (z := z_22) (by omega) ⟨hO, hF, ⟨by omega, by omega⟩, trivial⟩ dX3_layRow_61
      · replace c_14 := (I_eq (a := z_13) (b := 0) rz_13 (show rng 0 from ⟨by decide, by decide⟩)).mp c_14
        refine lv_iconst (v := I 0) hx hb dX3_layRow_44 (by decide) ?_
        exact th_zret hx hb hr hlocks hH hS (z := 0) (by omega) ⟨hO, hF, ⟨by omega, by omega⟩, trivial⟩ dX3_layRow_45
  · replace c_1 := (I_eq (a := w1) (b := (-1)) rw1 (show rng (-1) from ⟨by decide, by decide⟩)).mp c_1
    refine lv_aload_n hx hb dX3_layRow_5 rfl (lv_at hl 0 rfl) ?_
    refine lv_aload_n hx hb dX3_layRow_6 rfl (lv_at hl 3 rfl) ?_
    refine lv_iload hx hb dX3_layRow_7 (lv_at hl 4 rfl) ?_
    refine th_calli (va_runS (As := [.ref a, .ref c9, .int (I w2)]) (rest := []) ⟨hx, hb, hml, hown, hts⟩ (h_layComing l G y b0 σ E hO a h_a c9 h_c9 w2 (show rng w2 from rw2) (by omega) (by omega)) (va_cwS 3 hts gX3_layRow_X3_layComing rfl rfl rfl (by decide +kernel) ⟨Nat.le_of_ble_eq_true rfl, Nat.le_of_ble_eq_true rfl⟩) (th_PS hK hH) rfl rfl hl.1 rfl (lv_room (Nat.le_of_ble_eq_true rfl)) dX3_layRow_9 ⟨Nat.le_of_ble_eq_true rfl, Nat.le_of_ble_eq_true rfl⟩) hS (fun z_25 σ_s_24 H locs rz_25 hw_23 hH hS => ?_)
    obtain ⟨hO9, hF9, bhw_23, hw_23⟩ := hw_23
    replace hO := hO9
    replace hF := hF.tu hF9 (by decide)
    exact th_zret hx hb hr hlocks hH hS (z := z_25) (by omega) ⟨hO, hF, ⟨by omega, by omega⟩, trivial⟩ dX3_layRow_12

set_option maxHeartbeats 1000000 in
set_option maxRecDepth 100000 in
theorem h_layOn (l : Launch) (G : va_G) (y : Nat → ClassId) (b0 : Nat) (σ : th_M) (E : th_E) (hO : ok y E σ) (a : Nat) (h_a : kd E a = 7) (b : Nat) (h_b : kd E b = 2) (w : Int) (rw : rng w) (l_w : 0 ≤ w) (u_w : w ≤ 1) : Met l yX3_layOn wsX3_layOn ({ frames := 62, cells := 0, slots := 0, locals := 1343 }) (th_P G y b0 σ [.ref a, .ref b, .int (I w)]) (th_Qi G b0 (fun r σ1 => ok y E σ1 ∧ fr [2] E σ σ1 ∧ (0 ≤ r ∧ r ≤ 1) ∧ (True))) 0 0 (th_A b0) := by
  refine Met.ofW (cc := cX3_layOn) (maxL := 5) (ret := (some .boolean)) (by decide) rfl ?_
  intro p e s m args below meth c s₁ B hml hv
  obtain ⟨rfl, hH, hK⟩ := hv
  have hx := B.exec
  have hb := B.bytes
  have hr := B.returns
  have hts := atoms_spec (ws := wsX3_layOn) B.pre
  have hown : s.vm.findClass RX3 = some m.cls := findClass_of_methodNamed B.named
  have hlocks := B.notSynchronized
  have h00 : b0 ≤ s.heap.size := hH.1
  have hS : va_S (th_A b0) s.heap s.heap [] := va_S.rf
  have hF : fr [2] E σ σ := fr.rf
  have inX3 : ∀ w ∈ wsX30, w ∈ wsX3_layOn := by decide +kernel
  have fl0 := hts (.fieldLink RX3 34 "NestQuery$Patch" "rowCount" "I") (by decide +kernel)
  have fl1 := hts (.fieldLink RX3 14 "NestQuery$Patch" "from" "LNestQuery$Tree;") (by decide +kernel)
  have fl2 := hts (.fieldLink RX3 20 "NestQuery$Patch" "to" "LNestQuery$Tree;") (by decide +kernel)
  have hl := lv_entry ([.ref a, .ref b, .int (I w)]) (n := 5) (Nat.le_of_ble_eq_true rfl)
  rw [lg_entry_eq]
  generalize (lg_sl ([.ref a, .ref b, .int (I w)]) ++ List.replicate (5 - (lg_sl ([.ref a, .ref b, .int (I w)])).length) Slot.unset).toArray = ls at hl ⊢
  have hl : lv_has ls 5 [(0, .ref a), (1, .ref b), (2, .int (I w))] := hl
  refine lv_iconst (v := I 1) hx hb dX3_layOn_0 (by decide) ?_
  refine lv_istore_n (lv' := [(3, .int (I 1)), (0, .ref a), (1, .ref b), (2, .int (I w))]) hx hb dX3_layOn_1 rfl hl (by decide) rfl (fun ls hl => ?_)
  refine lv_iconst (v := I 0) hx hb dX3_layOn_2 (by decide) ?_
  refine lv_istore (lv' := [(4, .int (I 0)), (3, .int (I 1)), (0, .ref a), (1, .ref b), (2, .int (I w))]) hx hb dX3_layOn_3 hl (by decide) rfl (fun ls hl => ?_)
  refine th_loop (α := Int × Int) (pc := 5) (fun x9 => (120 - x9.2).toNat) (fun x9 σ9 H9 l9 ls9 => ok y E σ9 ∧ fr [2] E σ σ9 ∧ th_H G b0 σ9 H9 ∧ va_S (th_A b0) s.heap H9 l9 ∧ lv_has ls9 5 [(0, .ref a), (1, .ref b), (2, .int (I w)), (3, .int (I x9.1)), (4, .int (I x9.2))] ∧ rng x9.1 ∧ rng x9.2 ∧ (0 ≤ x9.1) ∧ (x9.1 ≤ 1) ∧ (0 ≤ x9.2) ∧ (x9.2 ≤ 120)) ?_ (1, 0) σ _ _ _ ⟨hO, hF, hH, hS, lv_sub hl [2, 3, 4, 1, 0] rfl, (show rng 1 from ⟨by decide, by decide⟩), (show rng 0 from ⟨by decide, by decide⟩), by first | omega | (dsimp only; omega), by first | omega | (dsimp only; omega), by first | omega | (dsimp only; omega), by first | omega | (dsimp only; omega)⟩
  intro x9 σ_J_36 H locs ls hI9 ihJ_36
  obtain ⟨v3q35, v4q35⟩ := x9
  obtain ⟨hO, hF, hH, hS, hl, rv3q35, rv4q35, J_36_0, J_36_1, J_36_2, J_36_3⟩ := hI9
  have hl : lv_has ls 5 [(0, .ref a), (1, .ref b), (2, .int (I w)), (3, .int (I v3q35)), (4, .int (I v4q35))] := hl
  have rv3q35 : rng v3q35 := rv3q35
  have rv4q35 : rng v4q35 := rv4q35
  have J_36_0 : 0 ≤ v3q35 := J_36_0
  have J_36_1 : v3q35 ≤ 1 := J_36_1
  have J_36_2 : 0 ≤ v4q35 := J_36_2
  have J_36_3 : v4q35 ≤ 120 := J_36_3
  refine lv_iload hx hb dX3_layOn_5 (lv_at hl 4 rfl) ?_
  refine lv_aload_n hx hb dX3_layOn_7 rfl (lv_at hl 0 rfl) ?_
  refine ok.getI hO h_a (by decide) k7_4 (fun _ _ he hv kk => th_get (ci := 3) (C := RX3) (T := TX3) (N := 5) hx hb hts inX3 hown hK hH he rfl 4 (by decide) fl0 hv dX3_layOn_8 kk) (fun z_37 e_38 rz_37 lz_37 uz_37 => ?_)
  refine lv_icmp_ge (tgt := 94) hx hb dX3_layOn_11 (by decide) (fun c_39 => ?_) (fun c_39 => ?_)
  · replace c_39 := (I_le (a := z_37) (b := v4q35) rz_37 rv4q35).mp c_39
    refine lv_iload_n hx hb dX3_layOn_94 rfl (lv_at hl 3 rfl) ?_
    exact th_zret hx hb hr hlocks hH hS (z := v3q35) (by omega) ⟨hO, hF, ⟨by omega, by omega⟩, trivial⟩ dX3_layOn_95
  · replace c_39 := mt (I_le (a := z_37) (b := v4q35) rz_37 rv4q35).mpr c_39
    refine lv_iload_n hx hb dX3_layOn_14 rfl (lv_at hl 3 rfl) ?_
    refine lv_if_eq (tgt := 94) hx hb dX3_layOn_15 (by decide) (fun c_40 => ?_) (fun c_40 => ?_)
    · replace c_40 := (I_eq (a := v3q35) (b := 0) rv3q35 (show rng 0 from ⟨by decide, by decide⟩)).mp c_40
      refine lv_iload_n hx hb dX3_layOn_94 rfl (lv_at hl 3 rfl) ?_
      exact th_zret hx hb hr hlocks hH hS (z := v3q35) (by omega) ⟨hO, hF, ⟨by omega, by omega⟩, trivial⟩ dX3_layOn_95
    · replace c_40 := mt (I_eq (a := v3q35) (b := 0) rv3q35 (show rng 0 from ⟨by decide, by decide⟩)).mpr c_40
      refine lv_iload_n hx hb dX3_layOn_18 rfl (lv_at hl 2 rfl) ?_
      refine lv_if_eq (tgt := 63) hx hb dX3_layOn_19 (by decide) (fun c_41 => ?_) (fun c_41 => ?_)
      · replace c_41 := (I_eq (a := w) (b := 0) rw (show rng 0 from ⟨by decide, by decide⟩)).mp c_41
        refine lv_aload_n hx hb dX3_layOn_63 rfl (lv_at hl 1 rfl) ?_
        refine lv_aload_n hx hb dX3_layOn_64 rfl (lv_at hl 0 rfl) ?_
        have hp_42 : kd E (ad E a 0) = 1 := ok.pk hO h_a (by decide) k7_0 rfl
        refine ok.getR hO h_a (by decide) k7_0 (by decide) (fun _ _ he hv kk => th_get (ci := 3) (C := RX3) (T := TX3) (N := 5) hx hb hts inX3 hown hK hH he rfl 0 (by decide) fl1 hv dX3_layOn_65 kk) ?_
        refine lv_aload_n hx hb dX3_layOn_68 rfl (lv_at hl 0 rfl) ?_
        refine lv_iload hx hb dX3_layOn_69 (lv_at hl 4 rfl) ?_
        obtain ⟨_, hc_43⟩ := hO.cell h_a (by decide) (ci := 3) rfl
        refine th_calli (va_runV (As := [.int (I v4q35)]) (rest := [.ref (ad E a 0), .ref b]) ⟨hx, hb, hml, hown, hts⟩ (h_wasOf l G y b0 σ_J_36 E hO a h_a v4q35 (show rng v4q35 from rv4q35)) (cwV 1 hts gX3_layOn_X3_wasOf rfl rfl rfl (by decide +kernel) ⟨Nat.le_of_ble_eq_true rfl, Nat.le_of_ble_eq_true rfl⟩) (th_PV hK hH rfl hc_43) rfl rfl hl.1 rfl (lv_room (Nat.le_of_ble_eq_true rfl)) dX3_layOn_71 ⟨Nat.le_of_ble_eq_true rfl, Nat.le_of_ble_eq_true rfl⟩) hS (fun z_46 σ_s_45 H locs rz_46 hw_44 hH hS => ?_)
        obtain ⟨e9, hw_44⟩ := hw_44
        replace e9 := e9.symm
        subst e9
        have hw_44 : -1 ≤ z_46 ∧ z_46 ≤ 59 := hw_44
        refine lv_aload_n hx hb dX3_layOn_74 rfl (lv_at hl 0 rfl) ?_
        have hp_47 : kd E (ad E a 1) = 1 := ok.pk hO h_a (by decide) k7_1 rfl
        refine ok.getR hO h_a (by decide) k7_1 (by decide) (fun _ _ he hv kk => th_get (ci := 3) (C := RX3) (T := TX3) (N := 5) hx hb hts inX3 hown hK hH he rfl 1 (by decide) fl2 hv dX3_layOn_75 kk) ?_
        refine lv_aload_n hx hb dX3_layOn_78 rfl (lv_at hl 0 rfl) ?_
        refine lv_iload hx hb dX3_layOn_79 (lv_at hl 4 rfl) ?_
        obtain ⟨_, hc_48⟩ := hO.cell h_a (by decide) (ci := 3) rfl
        refine th_calli (va_runV (As := [.int (I v4q35)]) (rest := [.ref (ad E a 1), .int (I z_46), .ref (ad E a 0), .ref b]) ⟨hx, hb, hml, hown, hts⟩ (h_isOf l G y b0 σ_J_36 E hO a h_a v4q35 (show rng v4q35 from rv4q35)) (cwV 1 hts gX3_layOn_X3_isOf rfl rfl rfl (by decide +kernel) ⟨Nat.le_of_ble_eq_true rfl, Nat.le_of_ble_eq_true rfl⟩) (th_PV hK hH rfl hc_48) rfl rfl hl.1 rfl (lv_room (Nat.le_of_ble_eq_true rfl)) dX3_layOn_81 ⟨Nat.le_of_ble_eq_true rfl, Nat.le_of_ble_eq_true rfl⟩) hS (fun z_51 σ_s_50 H locs rz_51 hw_49 hH hS => ?_)
        obtain ⟨e9, hw_49⟩ := hw_49
        replace e9 := e9.symm
        subst e9
        have hw_49 : -1 ≤ z_51 ∧ z_51 ≤ 59 := hw_49
        refine th_calli (va_runS (As := [.ref b, .ref (ad E a 0), .int (I z_46), .ref (ad E a 1), .int (I z_51)]) (rest := []) ⟨hx, hb, hml, hown, hts⟩ (h_layRow l G y b0 σ_J_36 E hO b h_b (ad E a 0) hp_42 z_46 (show rng z_46 from rz_46) (by omega) (by omega) (ad E a 1) hp_47 z_51 (show rng z_51 from rz_51) (by omega) (by omega)) (va_cwS 5 hts gX3_layOn_X3_layRow rfl rfl rfl (by decide +kernel) ⟨Nat.le_of_ble_eq_true rfl, Nat.le_of_ble_eq_true rfl⟩) (th_PS hK hH) rfl rfl hl.1 rfl (lv_room (Nat.le_of_ble_eq_true rfl)) dX3_layOn_84 ⟨Nat.le_of_ble_eq_true rfl, Nat.le_of_ble_eq_true rfl⟩) hS (fun z_54 σ_s_53 H locs rz_54 hw_52 hH hS => ?_)
        obtain ⟨hO9, hF9, bhw_52, hw_52⟩ := hw_52
        have e_55 : gI σ_s_53 a 4 = z_37 := (fr.ki hO hF9 h_a (by decide) (by decide) _).trans e_38
        replace hO := hO9
        replace hF := hF.tu hF9 (by decide)
        refine lv_istore_n (lv' := [(3, .int (I z_54)), (0, .ref a), (1, .ref b), (2, .int (I w)), (4, .int (I v4q35))]) hx hb dX3_layOn_87 rfl hl (by decide) rfl (fun ls hl => ?_)
        refine lv_iinc (v := I (v4q35 + 1)) (lv' := [(4, .int (I (v4q35 + 1))), (3, .int (I z_54)), (0, .ref a), (1, .ref b), (2, .int (I w))]) hx hb dX3_layOn_88 hl (k := 4) rfl (I_add _ _) (by decide) rfl (fun ls hl => ?_)
        refine lv_goto (tgt := 5) hx hb dX3_layOn_91 (by decide) ?_
        exact ihJ_36 (z_54, v4q35 + 1) σ_s_53 _ _ _ (by first | omega | (dsimp only; omega)) ⟨hO, hF, hH, hS, lv_sub hl [2, 3, 4, 1, 0] rfl, rz_54, ⟨by first | omega | (dsimp only; omega), by first | omega | (dsimp only; omega)⟩, by first | omega | (dsimp only; omega), by first | omega | (dsimp only; omega), by first | omega | (dsimp only; omega), by first | omega | (dsimp only; omega)⟩
      · replace c_41 := mt (I_eq (a := w) (b := 0) rw (show rng 0 from ⟨by decide, by decide⟩)).mpr c_41
        refine lv_aload_n hx hb dX3_layOn_22 rfl (lv_at hl 1 rfl) ?_
        refine lv_aload_n hx hb dX3_layOn_23 rfl (lv_at hl 0 rfl) ?_
        have hp_56 : kd E (ad E a 1) = 1 := ok.pk hO h_a (by decide) k7_1 rfl
        refine ok.getR hO h_a (by decide) k7_1 (by decide) (fun _ _ he hv kk => th_get (ci := 3) (C := RX3) (T := TX3) (N := 5) hx hb hts inX3 hown hK hH he rfl 1 (by decide) fl2 hv dX3_layOn_24 kk) ?_
        refine lv_aload_n hx hb dX3_layOn_27 rfl (lv_at hl 0 rfl) ?_
        refine lv_aload_n hx hb dX3_layOn_28 rfl (lv_at hl 0 rfl) ?_
        refine ok.getIc hO h_a (by decide) k7_4 e_38 (fun _ _ he hv kk => th_get (ci := 3) (C := RX3) (T := TX3) (N := 5) hx hb hts inX3 hown hK hH he rfl 4 (by decide) fl0 hv dX3_layOn_29 kk) ?_
        refine lv_iconst (v := I 1) hx hb dX3_layOn_32 (by decide) ?_
        refine lv_isub hx hb dX3_layOn_33 ?_
        refine nq_top (I_sub _ _) ?_
        refine lv_iload hx hb dX3_layOn_34 (lv_at hl 4 rfl) ?_
        refine lv_isub hx hb dX3_layOn_36 ?_
        refine nq_top (I_sub _ _) ?_
        obtain ⟨_, hc_57⟩ := hO.cell h_a (by decide) (ci := 3) rfl
        refine th_calli (va_runV (As := [.int (I (z_37 - 1 - v4q35))]) (rest := [.ref (ad E a 1), .ref b]) ⟨hx, hb, hml, hown, hts⟩ (h_isOf l G y b0 σ_J_36 E hO a h_a (z_37 - 1 - v4q35) (show rng (z_37 - 1 - v4q35) from ⟨by omega, by omega⟩)) (cwV 1 hts gX3_layOn_X3_isOf rfl rfl rfl (by decide +kernel) ⟨Nat.le_of_ble_eq_true rfl, Nat.le_of_ble_eq_true rfl⟩) (th_PV hK hH rfl hc_57) rfl rfl hl.1 rfl (lv_room (Nat.le_of_ble_eq_true rfl)) dX3_layOn_37 ⟨Nat.le_of_ble_eq_true rfl, Nat.le_of_ble_eq_true rfl⟩) hS (fun z_60 σ_s_59 H locs rz_60 hw_58 hH hS => ?_)
        obtain ⟨e9, hw_58⟩ := hw_58
        replace e9 := e9.symm
        subst e9
        have hw_58 : -1 ≤ z_60 ∧ z_60 ≤ 59 := hw_58
        refine lv_aload_n hx hb dX3_layOn_40 rfl (lv_at hl 0 rfl) ?_
        have hp_61 : kd E (ad E a 0) = 1 := ok.pk hO h_a (by decide) k7_0 rfl
        refine ok.getR hO h_a (by decide) k7_0 (by decide) (fun _ _ he hv kk => th_get (ci := 3) (C := RX3) (T := TX3) (N := 5) hx hb hts inX3 hown hK hH he rfl 0 (by decide) fl1 hv dX3_layOn_41 kk) ?_
        refine lv_aload_n hx hb dX3_layOn_44 rfl (lv_at hl 0 rfl) ?_
        refine lv_aload_n hx hb dX3_layOn_45 rfl (lv_at hl 0 rfl) ?_
        refine ok.getIc hO h_a (by decide) k7_4 e_38 (fun _ _ he hv kk => th_get (ci := 3) (C := RX3) (T := TX3) (N := 5) hx hb hts inX3 hown hK hH he rfl 4 (by decide) fl0 hv dX3_layOn_46 kk) ?_
        refine lv_iconst (v := I 1) hx hb dX3_layOn_49 (by decide) ?_
        refine lv_isub hx hb dX3_layOn_50 ?_
        refine nq_top (I_sub _ _) ?_
        refine lv_iload hx hb dX3_layOn_51 (lv_at hl 4 rfl) ?_
        refine lv_isub hx hb dX3_layOn_53 ?_
        refine nq_top (I_sub _ _) ?_
        obtain ⟨_, hc_62⟩ := hO.cell h_a (by decide) (ci := 3) rfl
        refine th_calli (va_runV (As := [.int (I (z_37 - 1 - v4q35))]) (rest := [.ref (ad E a 0), .int (I z_60), .ref (ad E a 1), .ref b]) ⟨hx, hb, hml, hown, hts⟩ (h_wasOf l G y b0 σ_J_36 E hO a h_a (z_37 - 1 - v4q35) (show rng (z_37 - 1 - v4q35) from ⟨by omega, by omega⟩)) (cwV 1 hts gX3_layOn_X3_wasOf rfl rfl rfl (by decide +kernel) ⟨Nat.le_of_ble_eq_true rfl, Nat.le_of_ble_eq_true rfl⟩) (th_PV hK hH rfl hc_62) rfl rfl hl.1 rfl (lv_room (Nat.le_of_ble_eq_true rfl)) dX3_layOn_54 ⟨Nat.le_of_ble_eq_true rfl, Nat.le_of_ble_eq_true rfl⟩) hS (fun z_65 σ_s_64 H locs rz_65 hw_63 hH hS => ?_)
        obtain ⟨e9, hw_63⟩ := hw_63
        replace e9 := e9.symm
        subst e9
        have hw_63 : -1 ≤ z_65 ∧ z_65 ≤ 59 := hw_63
        refine th_calli (va_runS (As := [.ref b, .ref (ad E a 1), .int (I z_60), .ref (ad E a 0), .int (I z_65)]) (rest := []) ⟨hx, hb, hml, hown, hts⟩ (h_layRow l G y b0 σ_J_36 E hO b h_b (ad E a 1) hp_56 z_60 (show rng z_60 from rz_60) (by omega) (by omega) (ad E a 0) hp_61 z_65 (show rng z_65 from rz_65) (by omega) (by omega)) (va_cwS 5 hts gX3_layOn_X3_layRow rfl rfl rfl (by decide +kernel) ⟨Nat.le_of_ble_eq_true rfl, Nat.le_of_ble_eq_true rfl⟩) (th_PS hK hH) rfl rfl hl.1 rfl (lv_room (Nat.le_of_ble_eq_true rfl)) dX3_layOn_57 ⟨Nat.le_of_ble_eq_true rfl, Nat.le_of_ble_eq_true rfl⟩) hS (fun z_68 σ_s_67 H locs rz_68 hw_66 hH hS => ?_)
        obtain ⟨hO9, hF9, bhw_66, hw_66⟩ := hw_66
        have e_69 : gI σ_s_67 a 4 = z_37 := (fr.ki hO hF9 h_a (by decide) (by decide) _).trans e_38
        replace hO := hO9
        replace hF := hF.tu hF9 (by decide)
        refine lv_goto (tgt := 87) hx hb dX3_layOn_60 (by decide) ?_
        refine lv_istore_n (lv' := [(3, .int (I z_68)), (0, .ref a), (1, .ref b), (2, .int (I w)), (4, .int (I v4q35))]) hx hb dX3_layOn_87 rfl hl (by decide) rfl (fun ls hl => ?_)
        refine lv_iinc (v := I (v4q35 + 1)) (lv' := [(4, .int (I (v4q35 + 1))), (3, .int (I z_68)), (0, .ref a), (1, .ref b), (2, .int (I w))]) hx hb dX3_layOn_88 hl (k := 4) rfl (I_add _ _) (by decide) rfl (fun ls hl => ?_)
        refine lv_goto (tgt := 5) hx hb dX3_layOn_91 (by decide) ?_
        exact ihJ_36 (z_68, v4q35 + 1) σ_s_67 _ _ _ (by first | omega | (dsimp only; omega)) ⟨hO, hF, hH, hS, lv_sub hl [2, 3, 4, 1, 0] rfl, rz_68, ⟨by first | omega | (dsimp only; omega), by first | omega | (dsimp only; omega)⟩, by first | omega | (dsimp only; omega), by first | omega | (dsimp only; omega), by first | omega | (dsimp only; omega), by first | omega | (dsimp only; omega)⟩

set_option maxHeartbeats 1000000 in
set_option maxRecDepth 100000 in
theorem c_ofKind (l : Launch) (G : va_G) (y : Nat → ClassId) (b0 : Nat) (σ : th_M) (E : th_E) (hO : ok y E σ) (a : Nat) (h_a : kd E a = 6) (w : Int64) (i : Int) (ri : rng i) : Met l yX0_ofKind wsX0_ofKind ({ frames := 2, cells := 0, slots := 0, locals := 50 }) (th_P G y b0 σ [.ref a, .long w, .int (I i)]) (th_Ql G b0 (fun r σ1 => σ1 = σ ∧ (True))) 0 0 (th_A b0) := by
  refine Met.ofW (cc := cX0_ofKind) (maxL := 7) (ret := (some .long)) (by decide) rfl ?_
  intro p e s m args below meth c s₁ B hml hv
  obtain ⟨rfl, hH, hK⟩ := hv
  have hx := B.exec
  have hb := B.bytes
  have hr := B.returns
  have hts := atoms_spec (ws := wsX0_ofKind) B.pre
  have hown : s.vm.findClass RX0 = some m.cls := findClass_of_methodNamed B.named
  have hlocks := B.notSynchronized
  have h00 : b0 ≤ s.heap.size := hH.1
  have hS : va_S (th_A b0) s.heap s.heap [] := va_S.rf
  have inX0 : ∀ w ∈ wsX00, w ∈ wsX0_ofKind := by decide +kernel
  have inX6 : ∀ w ∈ wsX60, w ∈ wsX0_ofKind := by decide +kernel
  have inX9 : ∀ w ∈ wsX90, w ∈ wsX0_ofKind := by decide +kernel
  have fl0 := hts (.fieldLink RX0 27 "NestQuery$Acts" "now" "LNestQuery$State;") (by decide +kernel)
  have fl1 := hts (.initialized RX10) (by decide +kernel)
  have fl2 := hts (.static yX10_isIn) (by decide +kernel)
  have fl3 := hts (.static yX10_bit) (by decide +kernel)
  have hl := lv_entry ([.ref a, .long w, .int (I i)]) (n := 7) (Nat.le_of_ble_eq_true rfl)
  rw [lg_entry_eq]
  generalize (lg_sl ([.ref a, .long w, .int (I i)]) ++ List.replicate (7 - (lg_sl ([.ref a, .long w, .int (I i)])).length) Slot.unset).toArray = ls at hl ⊢
  have hl : lv_has ls 7 [(0, .ref a), (1, .long w), (3, .int (I i))] := hl
  refine lv_lconst (v := 0) hx hb dX0_ofKind_0 (by decide) ?_
  refine lv_lstore (lv' := [(4, .long 0), (0, .ref a), (1, .long w), (3, .int (I i))]) hx hb dX0_ofKind_1 hl (by decide) rfl (fun ls hl => ?_)
  refine lv_iconst (v := I 0) hx hb dX0_ofKind_3 (by decide) ?_
  refine lv_istore (lv' := [(6, .int (I 0)), (4, .long 0), (0, .ref a), (1, .long w), (3, .int (I i))]) hx hb dX0_ofKind_4 hl (by decide) rfl (fun ls hl => ?_)
  refine th_loop (α := Int64 × Int) (pc := 6) (fun x9 => (60 - x9.2).toNat) (fun x9 σ9 H9 l9 ls9 => σ9 = σ ∧ th_H G b0 σ9 H9 ∧ va_S (th_A b0) s.heap H9 l9 ∧ lv_has ls9 7 [(0, .ref a), (1, .long w), (3, .int (I i)), (4, .long x9.1), (6, .int (I x9.2))] ∧ rng x9.2 ∧ (0 ≤ x9.2) ∧ (x9.2 ≤ 60)) ?_ (0, 0) σ _ _ _ ⟨rfl, hH, hS, lv_sub hl [2, 3, 4, 1, 0] rfl, (show rng 0 from ⟨by decide, by decide⟩), by first | omega | (dsimp only; omega), by first | omega | (dsimp only; omega)⟩
  intro x9 σ_J_21 H locs ls hI9 ihJ_21
  obtain ⟨v4q20, v6q20⟩ := x9
  obtain ⟨eJ_21, hH, hS, hl, rv6q20, J_21_0, J_21_1⟩ := hI9
  replace eJ_21 := eJ_21.symm
  subst eJ_21
  have hl : lv_has ls 7 [(0, .ref a), (1, .long w), (3, .int (I i)), (4, .long v4q20), (6, .int (I v6q20))] := hl
  have rv6q20 : rng v6q20 := rv6q20
  have J_21_0 : 0 ≤ v6q20 := J_21_0
  have J_21_1 : v6q20 ≤ 60 := J_21_1
  refine lv_iload hx hb dX0_ofKind_6 (lv_at hl 4 rfl) ?_
  refine lv_aload_n hx hb dX0_ofKind_8 rfl (lv_at hl 0 rfl) ?_
  have hp_22 : kd E (ad E a 0) = 5 := ok.pk hO h_a (by decide) k6_0 rfl
  refine ok.getR hO h_a (by decide) k6_0 (by decide) (fun _ _ he hv kk => th_get (ci := 0) (C := RX0) (T := TX0) (N := 4) hx hb hts inX0 hown hK hH he rfl 0 (by decide) fl0 hv dX0_ofKind_9 kk) ?_
  have hp_23 : kd E (ad E (ad E a 0) 0) = 1 := ok.pk hO hp_22 (by decide) k5_0 rfl
  refine ok.getR hO hp_22 (by decide) k5_0 (by decide) (fun _ _ he hv kk => th_getN (ci := 6) (C := RX6) (T := TX6) (N := 7) hx hb hts inX6 hown hK hH he rfl 0 (by decide) (nl_14 hK) hv dX0_ofKind_12 kk) ?_
  refine ok.getI hO hp_23 (by decide) k1_4 (fun _ _ he hv kk => th_getN (ci := 9) (C := RX9) (T := TX9) (N := 5) hx hb hts inX9 hown hK hH he rfl 4 (by decide) (nl_9 hK) hv dX0_ofKind_15 kk) (fun z_24 e_25 rz_24 lz_24 uz_24 => ?_)
  refine lv_icmp_ge (tgt := 62) hx hb dX0_ofKind_18 (by decide) (fun c_26 => ?_) (fun c_26 => ?_)
  · replace c_26 := (I_le (a := z_24) (b := v6q20) rz_24 rv6q20).mp c_26
    refine lv_lload hx hb dX0_ofKind_62 (lv_at hl 3 rfl) ?_
    exact th_lret hx hb hr hlocks hH hS (z := v4q20) ⟨rfl, trivial⟩ dX0_ofKind_64
  · replace c_26 := mt (I_le (a := z_24) (b := v6q20) rz_24 rv6q20).mpr c_26
    refine lv_lload_n hx hb dX0_ofKind_21 rfl (lv_at hl 1 rfl) ?_
    refine lv_iload hx hb dX0_ofKind_22 (lv_at hl 4 rfl) ?_
    refine th_calli (va_runSN (As := [.long w, .int (I v6q20)]) (rest := []) ⟨hx, hb, hml, hown, hts⟩ (n_isIn l G y b0 σ E hO w v6q20 (show rng v6q20 from rv6q20)) ⟨(va_cnB 2 hts gX0_ofKind_X10_isIn_n51 rfl rfl rfl (ml_7 hK) fl1 (by decide +kernel) ⟨Nat.le_of_ble_eq_true rfl, Nat.le_of_ble_eq_true rfl⟩), fl2, trivial⟩ (th_PS hK hH) rfl rfl hl.1 rfl (lv_room (Nat.le_of_ble_eq_true rfl)) dX0_ofKind_24 ⟨Nat.le_of_ble_eq_true rfl, Nat.le_of_ble_eq_true rfl⟩) hS (fun z_29 σ_s_28 H locs rz_29 hw_27 hH hS => ?_)
    obtain ⟨e9, bhw_27, hw_27⟩ := hw_27
    replace e9 := e9.symm
    subst e9
    refine lv_if_eq (tgt := 56) hx hb dX0_ofKind_27 (by decide) (fun c_30 => ?_) (fun c_30 => ?_)
    · replace c_30 := (I_eq (a := z_29) (b := 0) rz_29 (show rng 0 from ⟨by decide, by decide⟩)).mp c_30
      refine lv_iinc (v := I (v6q20 + 1)) (lv' := [(6, .int (I (v6q20 + 1))), (0, .ref a), (1, .long w), (3, .int (I i)), (4, .long v4q20)]) hx hb dX0_ofKind_56 hl (k := 4) rfl (I_add _ _) (by decide) rfl (fun ls hl => ?_)
      refine lv_goto (tgt := 6) hx hb dX0_ofKind_59 (by decide) ?_
      exact ihJ_21 (v4q20, v6q20 + 1) σ _ _ _ (by first | omega | (dsimp only; omega)) ⟨rfl, hH, hS, lv_sub hl [1, 2, 3, 4, 0] rfl, ⟨by first | omega | (dsimp only; omega), by first | omega | (dsimp only; omega)⟩, by first | omega | (dsimp only; omega), by first | omega | (dsimp only; omega)⟩
    · replace c_30 := mt (I_eq (a := z_29) (b := 0) rz_29 (show rng 0 from ⟨by decide, by decide⟩)).mpr c_30
      refine lv_aload_n hx hb dX0_ofKind_30 rfl (lv_at hl 0 rfl) ?_
      refine ok.getR hO h_a (by decide) k6_0 (by decide) (fun _ _ he hv kk => th_get (ci := 0) (C := RX0) (T := TX0) (N := 4) hx hb hts inX0 hown hK hH he rfl 0 (by decide) fl0 hv dX0_ofKind_31 kk) ?_
      refine ok.getR hO hp_22 (by decide) k5_0 (by decide) (fun _ _ he hv kk => th_getN (ci := 6) (C := RX6) (T := TX6) (N := 7) hx hb hts inX6 hown hK hH he rfl 0 (by decide) (nl_14 hK) hv dX0_ofKind_34 kk) ?_
      refine lv_iload hx hb dX0_ofKind_37 (lv_at hl 4 rfl) ?_
      obtain ⟨_, hc_31⟩ := hO.cell hp_23 (by decide) (ci := 9) rfl
      refine th_calli (va_runV (As := [.int (I v6q20)]) (rest := []) ⟨hx, hb, hml, hown, hts⟩ (t_kindAt l G y b0 σ (ad E (ad E a 0) 0) (tvE E σ (ad E (ad E a 0) 0) 60) v6q20 (hO.isT1 hp_23) (show rng v6q20 from rv6q20)) (cwV 1 hts gX0_ofKind_X9_kindAt rfl rfl rfl (by decide +kernel) ⟨Nat.le_of_ble_eq_true rfl, Nat.le_of_ble_eq_true rfl⟩) (th_PV hK hH rfl hc_31) rfl rfl hl.1 rfl (lv_room (Nat.le_of_ble_eq_true rfl)) dX0_ofKind_39 ⟨Nat.le_of_ble_eq_true rfl, Nat.le_of_ble_eq_true rfl⟩) hS (fun z_34 σ_s_33 H locs rz_34 hw_32 hH hS => ?_)
      obtain ⟨e9, hw_32⟩ := hw_32
      replace e9 := e9.symm
      subst e9
      have hw_32 : (0 ≤ v6q20 ∧ v6q20 < (gI σ (ad E (ad E a 0) 0) 4)) ∨ z_34 = -1 := hw_32
      refine lv_iload_n hx hb dX0_ofKind_42 rfl (lv_at hl 2 rfl) ?_
      refine lv_icmp_ne (tgt := 56) hx hb dX0_ofKind_43 (by decide) (fun c_35 => ?_) (fun c_35 => ?_)
      · replace c_35 := mt (I_eq (a := z_34) (b := i) rz_34 ri).mpr c_35
        refine lv_iinc (v := I (v6q20 + 1)) (lv' := [(6, .int (I (v6q20 + 1))), (0, .ref a), (1, .long w), (3, .int (I i)), (4, .long v4q20)]) hx hb dX0_ofKind_56 hl (k := 4) rfl (I_add _ _) (by decide) rfl (fun ls hl => ?_)
        refine lv_goto (tgt := 6) hx hb dX0_ofKind_59 (by decide) ?_
        exact ihJ_21 (v4q20, v6q20 + 1) σ _ _ _ (by first | omega | (dsimp only; omega)) ⟨rfl, hH, hS, lv_sub hl [1, 2, 3, 4, 0] rfl, ⟨by first | omega | (dsimp only; omega), by first | omega | (dsimp only; omega)⟩, by first | omega | (dsimp only; omega), by first | omega | (dsimp only; omega)⟩
      · replace c_35 := (I_eq (a := z_34) (b := i) rz_34 ri).mp c_35
        refine lv_lload hx hb dX0_ofKind_46 (lv_at hl 3 rfl) ?_
        refine lv_iload hx hb dX0_ofKind_48 (lv_at hl 4 rfl) ?_
        refine th_calll (va_runSN (As := [.int (I v6q20)]) (rest := [.long v4q20]) ⟨hx, hb, hml, hown, hts⟩ (n_bit l G y b0 σ E hO v6q20 (show rng v6q20 from rv6q20)) ⟨(va_cnB 1 hts gX0_ofKind_X10_bit_n59 rfl rfl rfl (ml_8 hK) fl1 (by decide +kernel) ⟨Nat.le_of_ble_eq_true rfl, Nat.le_of_ble_eq_true rfl⟩), fl3, trivial⟩ (th_PS hK hH) rfl rfl hl.1 rfl (lv_room (Nat.le_of_ble_eq_true rfl)) dX0_ofKind_50 ⟨Nat.le_of_ble_eq_true rfl, Nat.le_of_ble_eq_true rfl⟩) hS (fun w_38 σ_s_37 H locs hw_36 hH hS => ?_)
        obtain ⟨e9, hw_36⟩ := hw_36
        replace e9 := e9.symm
        subst e9
        refine lv_lor hx hb dX0_ofKind_53 ?_
        refine lv_topl (fun w_39 _ => ?_)
        refine lv_lstore (lv' := [(4, .long w_39), (0, .ref a), (1, .long w), (3, .int (I i)), (6, .int (I v6q20))]) hx hb dX0_ofKind_54 hl (by decide) rfl (fun ls hl => ?_)
        refine lv_iinc (v := I (v6q20 + 1)) (lv' := [(6, .int (I (v6q20 + 1))), (4, .long w_39), (0, .ref a), (1, .long w), (3, .int (I i))]) hx hb dX0_ofKind_56 hl (k := 4) rfl (I_add _ _) (by decide) rfl (fun ls hl => ?_)
        refine lv_goto (tgt := 6) hx hb dX0_ofKind_59 (by decide) ?_
        exact ihJ_21 (w_39, v6q20 + 1) σ _ _ _ (by first | omega | (dsimp only; omega)) ⟨rfl, hH, hS, lv_sub hl [2, 3, 4, 1, 0] rfl, ⟨by first | omega | (dsimp only; omega), by first | omega | (dsimp only; omega)⟩, by first | omega | (dsimp only; omega), by first | omega | (dsimp only; omega)⟩

set_option maxHeartbeats 1000000 in
set_option maxRecDepth 100000 in
theorem c_tooMany (l : Launch) (G : va_G) (y : Nat → ClassId) (b0 : Nat) (σ : th_M) (E : th_E) (hO : ok y E σ) (w : Int64) (b : Nat) (h_b : kd E b = 1) : Met l yX0_tooManyCopies wsX0_tooManyCopies ({ frames := 1, cells := 0, slots := 0, locals := 25 }) (th_P G y b0 σ [.long w, .ref b]) (th_Qi G b0 (fun r σ1 => σ1 = σ ∧ (0 ≤ r ∧ r ≤ 1) ∧ (True))) 0 0 (th_A b0) := by
  refine Met.ofW (cc := cX0_tooManyCopies) (maxL := 3) (ret := (some .boolean)) (by decide) rfl ?_
  intro p e s m args below meth c s₁ B hml hv
  obtain ⟨rfl, hH, hK⟩ := hv
  have hx := B.exec
  have hb := B.bytes
  have hr := B.returns
  have hts := atoms_spec (ws := wsX0_tooManyCopies) B.pre
  have hown : s.vm.findClass RX0 = some m.cls := findClass_of_methodNamed B.named
  have hlocks := B.notSynchronized
  have h00 : b0 ≤ s.heap.size := hH.1
  have hS : va_S (th_A b0) s.heap s.heap [] := va_S.rf
  have inX9 : ∀ w ∈ wsX90, w ∈ wsX0_tooManyCopies := by decide +kernel
  have hl := lv_entry ([.long w, .ref b]) (n := 3) (Nat.le_of_ble_eq_true rfl)
  rw [lg_entry_eq]
  generalize (lg_sl ([.long w, .ref b]) ++ List.replicate (3 - (lg_sl ([.long w, .ref b])).length) Slot.unset).toArray = ls at hl ⊢
  have hl : lv_has ls 3 [(0, .long w), (2, .ref b)] := hl
  refine lv_lload_n hx hb dX0_tooManyCopies_0 rfl (lv_at hl 0 rfl) ?_
  refine th_calli (va_runS (As := [.long w]) (rest := []) ⟨hx, hb, hml, hown, hts⟩ (j_bitCountL l G y b0 σ E hO w) (va_cwS 1 hts gX0_tooManyCopies_J13_bitCount_95d88 rfl rfl rfl (by decide +kernel) ⟨Nat.le_of_ble_eq_true rfl, Nat.le_of_ble_eq_true rfl⟩) (th_PS hK hH) rfl rfl hl.1 rfl (lv_room (Nat.le_of_ble_eq_true rfl)) dX0_tooManyCopies_1 ⟨Nat.le_of_ble_eq_true rfl, Nat.le_of_ble_eq_true rfl⟩) hS (fun z_3 σ_s_2 H locs rz_3 hw_1 hH hS => ?_)
  obtain ⟨e9, hw_1⟩ := hw_1
  replace e9 := e9.symm
  subst e9
  refine lv_aload_n hx hb dX0_tooManyCopies_4 rfl (lv_at hl 1 rfl) ?_
  refine ok.getI hO h_b (by decide) k1_4 (fun _ _ he hv kk => th_getN (ci := 9) (C := RX9) (T := TX9) (N := 5) hx hb hts inX9 hown hK hH he rfl 4 (by decide) (nl_9 hK) hv dX0_tooManyCopies_5 kk) (fun z_4 e_5 rz_4 lz_4 uz_4 => ?_)
  refine lv_imul hx hb dX0_tooManyCopies_8 ?_
  refine th_topi (fun z_6 rz_6 => ?_)
  refine lv_bipush (v := I 60) hx hb dX0_tooManyCopies_9 (by decide) ?_
  refine lv_icmp_le (tgt := 18) hx hb dX0_tooManyCopies_11 (by decide) (fun c_7 => ?_) (fun c_7 => ?_)
  · replace c_7 := (I_le (a := z_6) (b := 60) rz_6 (show rng 60 from ⟨by decide, by decide⟩)).mp c_7
    refine lv_iconst (v := I 0) hx hb dX0_tooManyCopies_18 (by decide) ?_
    exact th_zret hx hb hr hlocks hH hS (z := 0) (by omega) ⟨rfl, ⟨by omega, by omega⟩, trivial⟩ dX0_tooManyCopies_19
  · replace c_7 := mt (I_le (a := z_6) (b := 60) rz_6 (show rng 60 from ⟨by decide, by decide⟩)).mpr c_7
    refine lv_iconst (v := I 1) hx hb dX0_tooManyCopies_14 (by decide) ?_
    refine lv_goto (tgt := 19) hx hb dX0_tooManyCopies_15 (by decide) ?_
    exact th_zret hx hb hr hlocks hH hS (z := 1) (by omega) ⟨rfl, ⟨by omega, by omega⟩, trivial⟩ dX0_tooManyCopies_19

set_option maxHeartbeats 1000000 in
set_option maxRecDepth 100000 in
theorem c_outermost (l : Launch) (G : va_G) (y : Nat → ClassId) (b0 : Nat) (σ : th_M) (E : th_E) (hO : ok y E σ) (a : Nat) (h_a : kd E a = 6) (w : Int64) : Met l yX0_outermost wsX0_outermost ({ frames := 2, cells := 0, slots := 0, locals := 50 }) (th_P G y b0 σ [.ref a, .long w]) (th_Ql G b0 (fun r σ1 => σ1 = σ ∧ (True))) 0 0 (th_A b0) := by
  refine Met.ofW (cc := cX0_outermost) (maxL := 7) (ret := (some .long)) (by decide) rfl ?_
  intro p e s m args below meth c s₁ B hml hv
  obtain ⟨rfl, hH, hK⟩ := hv
  have hx := B.exec
  have hb := B.bytes
  have hr := B.returns
  have hts := atoms_spec (ws := wsX0_outermost) B.pre
  have hown : s.vm.findClass RX0 = some m.cls := findClass_of_methodNamed B.named
  have hlocks := B.notSynchronized
  have h00 : b0 ≤ s.heap.size := hH.1
  have hS : va_S (th_A b0) s.heap s.heap [] := va_S.rf
  have inX0 : ∀ w ∈ wsX00, w ∈ wsX0_outermost := by decide +kernel
  have inX6 : ∀ w ∈ wsX60, w ∈ wsX0_outermost := by decide +kernel
  have inX9 : ∀ w ∈ wsX90, w ∈ wsX0_outermost := by decide +kernel
  have fl0 := hts (.fieldLink RX0 27 "NestQuery$Acts" "now" "LNestQuery$State;") (by decide +kernel)
  have fl1 := hts (.initialized RX10) (by decide +kernel)
  have fl2 := hts (.static yX10_isIn) (by decide +kernel)
  have fl3 := hts (.static yX10_bit) (by decide +kernel)
  have hl := lv_entry ([.ref a, .long w]) (n := 7) (Nat.le_of_ble_eq_true rfl)
  rw [lg_entry_eq]
  generalize (lg_sl ([.ref a, .long w]) ++ List.replicate (7 - (lg_sl ([.ref a, .long w])).length) Slot.unset).toArray = ls at hl ⊢
  have hl : lv_has ls 7 [(0, .ref a), (1, .long w)] := hl
  refine lv_lconst (v := 0) hx hb dX0_outermost_0 (by decide) ?_
  refine lv_lstore_n (lv' := [(3, .long 0), (0, .ref a), (1, .long w)]) hx hb dX0_outermost_1 rfl hl (by decide) rfl (fun ls hl => ?_)
  refine lv_iconst (v := I (-1)) hx hb dX0_outermost_2 (by decide) ?_
  refine lv_istore (lv' := [(5, .int (I (-1))), (3, .long 0), (0, .ref a), (1, .long w)]) hx hb dX0_outermost_3 hl (by decide) rfl (fun ls hl => ?_)
  refine lv_iconst (v := I 0) hx hb dX0_outermost_5 (by decide) ?_
  refine lv_istore (lv' := [(6, .int (I 0)), (5, .int (I (-1))), (3, .long 0), (0, .ref a), (1, .long w)]) hx hb dX0_outermost_6 hl (by decide) rfl (fun ls hl => ?_)
  refine th_loop (α := Int64 × Int × Int) (pc := 8) (fun x9 => (60 - x9.2.2).toNat) (fun x9 σ9 H9 l9 ls9 => σ9 = σ ∧ th_H G b0 σ9 H9 ∧ va_S (th_A b0) s.heap H9 l9 ∧ lv_has ls9 7 [(0, .ref a), (1, .long w), (3, .long x9.1), (5, .int (I x9.2.1)), (6, .int (I x9.2.2))] ∧ rng x9.2.1 ∧ rng x9.2.2 ∧ (0 ≤ x9.2.2) ∧ (x9.2.2 ≤ 60)) ?_ (0, (-1), 0) σ _ _ _ ⟨rfl, hH, hS, lv_sub hl [3, 4, 2, 1, 0] rfl, (show rng (-1) from ⟨by decide, by decide⟩), (show rng 0 from ⟨by decide, by decide⟩), by first | omega | (dsimp only; omega), by first | omega | (dsimp only; omega)⟩
  intro x9 σ_J_21 H locs ls hI9 ihJ_21
  obtain ⟨v3q20, v5q20, v6q20⟩ := x9
  obtain ⟨eJ_21, hH, hS, hl, rv5q20, rv6q20, J_21_0, J_21_1⟩ := hI9
  replace eJ_21 := eJ_21.symm
  subst eJ_21
  have hl : lv_has ls 7 [(0, .ref a), (1, .long w), (3, .long v3q20), (5, .int (I v5q20)), (6, .int (I v6q20))] := hl
  have rv5q20 : rng v5q20 := rv5q20
  have rv6q20 : rng v6q20 := rv6q20
  have J_21_0 : 0 ≤ v6q20 := J_21_0
  have J_21_1 : v6q20 ≤ 60 := J_21_1
  refine lv_iload hx hb dX0_outermost_8 (lv_at hl 4 rfl) ?_
  refine lv_aload_n hx hb dX0_outermost_10 rfl (lv_at hl 0 rfl) ?_
  have hp_22 : kd E (ad E a 0) = 5 := ok.pk hO h_a (by decide) k6_0 rfl
  refine ok.getR hO h_a (by decide) k6_0 (by decide) (fun _ _ he hv kk => th_get (ci := 0) (C := RX0) (T := TX0) (N := 4) hx hb hts inX0 hown hK hH he rfl 0 (by decide) fl0 hv dX0_outermost_11 kk) ?_
  have hp_23 : kd E (ad E (ad E a 0) 0) = 1 := ok.pk hO hp_22 (by decide) k5_0 rfl
  refine ok.getR hO hp_22 (by decide) k5_0 (by decide) (fun _ _ he hv kk => th_getN (ci := 6) (C := RX6) (T := TX6) (N := 7) hx hb hts inX6 hown hK hH he rfl 0 (by decide) (nl_14 hK) hv dX0_outermost_14 kk) ?_
  refine ok.getI hO hp_23 (by decide) k1_4 (fun _ _ he hv kk => th_getN (ci := 9) (C := RX9) (T := TX9) (N := 5) hx hb hts inX9 hown hK hH he rfl 4 (by decide) (nl_9 hK) hv dX0_outermost_17 kk) (fun z_24 e_25 rz_24 lz_24 uz_24 => ?_)
  refine lv_icmp_ge (tgt := 67) hx hb dX0_outermost_20 (by decide) (fun c_26 => ?_) (fun c_26 => ?_)
  · replace c_26 := (I_le (a := z_24) (b := v6q20) rz_24 rv6q20).mp c_26
    refine lv_lload_n hx hb dX0_outermost_67 rfl (lv_at hl 2 rfl) ?_
    exact th_lret hx hb hr hlocks hH hS (z := v3q20) ⟨rfl, trivial⟩ dX0_outermost_68
  · replace c_26 := mt (I_le (a := z_24) (b := v6q20) rz_24 rv6q20).mpr c_26
    refine lv_iload hx hb dX0_outermost_23 (lv_at hl 4 rfl) ?_
    refine lv_iload hx hb dX0_outermost_25 (lv_at hl 3 rfl) ?_
    refine lv_icmp_le (tgt := 61) hx hb dX0_outermost_27 (by decide) (fun c_27 => ?_) (fun c_27 => ?_)
    · replace c_27 := (I_le (a := v6q20) (b := v5q20) rv6q20 rv5q20).mp c_27
      refine lv_iinc (v := I (v6q20 + 1)) (lv' := [(6, .int (I (v6q20 + 1))), (0, .ref a), (1, .long w), (3, .long v3q20), (5, .int (I v5q20))]) hx hb dX0_outermost_61 hl (k := 4) rfl (I_add _ _) (by decide) rfl (fun ls hl => ?_)
      refine lv_goto (tgt := 8) hx hb dX0_outermost_64 (by decide) ?_
      exact ihJ_21 (v3q20, v5q20, v6q20 + 1) σ _ _ _ (by first | omega | (dsimp only; omega)) ⟨rfl, hH, hS, lv_sub hl [1, 2, 3, 4, 0] rfl, rv5q20, ⟨by first | omega | (dsimp only; omega), by first | omega | (dsimp only; omega)⟩, by first | omega | (dsimp only; omega), by first | omega | (dsimp only; omega)⟩
    · replace c_27 := mt (I_le (a := v6q20) (b := v5q20) rv6q20 rv5q20).mpr c_27
      refine lv_lload_n hx hb dX0_outermost_30 rfl (lv_at hl 1 rfl) ?_
      refine lv_iload hx hb dX0_outermost_31 (lv_at hl 4 rfl) ?_
      refine th_calli (va_runSN (As := [.long w, .int (I v6q20)]) (rest := []) ⟨hx, hb, hml, hown, hts⟩ (n_isIn l G y b0 σ E hO w v6q20 (show rng v6q20 from rv6q20)) ⟨(va_cnB 2 hts gX0_outermost_X10_isIn_n51 rfl rfl rfl (ml_7 hK) fl1 (by decide +kernel) ⟨Nat.le_of_ble_eq_true rfl, Nat.le_of_ble_eq_true rfl⟩), fl2, trivial⟩ (th_PS hK hH) rfl rfl hl.1 rfl (lv_room (Nat.le_of_ble_eq_true rfl)) dX0_outermost_33 ⟨Nat.le_of_ble_eq_true rfl, Nat.le_of_ble_eq_true rfl⟩) hS (fun z_30 σ_s_29 H locs rz_30 hw_28 hH hS => ?_)
      obtain ⟨e9, bhw_28, hw_28⟩ := hw_28
      replace e9 := e9.symm
      subst e9
      refine lv_if_eq (tgt := 61) hx hb dX0_outermost_36 (by decide) (fun c_31 => ?_) (fun c_31 => ?_)
      · replace c_31 := (I_eq (a := z_30) (b := 0) rz_30 (show rng 0 from ⟨by decide, by decide⟩)).mp c_31
        refine lv_iinc (v := I (v6q20 + 1)) (lv' := [(6, .int (I (v6q20 + 1))), (0, .ref a), (1, .long w), (3, .long v3q20), (5, .int (I v5q20))]) hx hb dX0_outermost_61 hl (k := 4) rfl (I_add _ _) (by decide) rfl (fun ls hl => ?_)
        refine lv_goto (tgt := 8) hx hb dX0_outermost_64 (by decide) ?_
        exact ihJ_21 (v3q20, v5q20, v6q20 + 1) σ _ _ _ (by first | omega | (dsimp only; omega)) ⟨rfl, hH, hS, lv_sub hl [1, 2, 3, 4, 0] rfl, rv5q20, ⟨by first | omega | (dsimp only; omega), by first | omega | (dsimp only; omega)⟩, by first | omega | (dsimp only; omega), by first | omega | (dsimp only; omega)⟩
      · replace c_31 := mt (I_eq (a := z_30) (b := 0) rz_30 (show rng 0 from ⟨by decide, by decide⟩)).mpr c_31
        refine lv_lload_n hx hb dX0_outermost_39 rfl (lv_at hl 2 rfl) ?_
        refine lv_iload hx hb dX0_outermost_40 (lv_at hl 4 rfl) ?_
        refine th_calll (va_runSN (As := [.int (I v6q20)]) (rest := [.long v3q20]) ⟨hx, hb, hml, hown, hts⟩ (n_bit l G y b0 σ E hO v6q20 (show rng v6q20 from rv6q20)) ⟨(va_cnB 1 hts gX0_outermost_X10_bit_n59 rfl rfl rfl (ml_8 hK) fl1 (by decide +kernel) ⟨Nat.le_of_ble_eq_true rfl, Nat.le_of_ble_eq_true rfl⟩), fl3, trivial⟩ (th_PS hK hH) rfl rfl hl.1 rfl (lv_room (Nat.le_of_ble_eq_true rfl)) dX0_outermost_42 ⟨Nat.le_of_ble_eq_true rfl, Nat.le_of_ble_eq_true rfl⟩) hS (fun w_34 σ_s_33 H locs hw_32 hH hS => ?_)
        obtain ⟨e9, hw_32⟩ := hw_32
        replace e9 := e9.symm
        subst e9
        refine lv_lor hx hb dX0_outermost_45 ?_
        refine lv_topl (fun w_35 _ => ?_)
        refine lv_lstore_n (lv' := [(3, .long w_35), (0, .ref a), (1, .long w), (5, .int (I v5q20)), (6, .int (I v6q20))]) hx hb dX0_outermost_46 rfl hl (by decide) rfl (fun ls hl => ?_)
        refine lv_aload_n hx hb dX0_outermost_47 rfl (lv_at hl 1 rfl) ?_
        refine ok.getR hO h_a (by decide) k6_0 (by decide) (fun _ _ he hv kk => th_get (ci := 0) (C := RX0) (T := TX0) (N := 4) hx hb hts inX0 hown hK hH he rfl 0 (by decide) fl0 hv dX0_outermost_48 kk) ?_
        refine ok.getR hO hp_22 (by decide) k5_0 (by decide) (fun _ _ he hv kk => th_getN (ci := 6) (C := RX6) (T := TX6) (N := 7) hx hb hts inX6 hown hK hH he rfl 0 (by decide) (nl_14 hK) hv dX0_outermost_51 kk) ?_
        refine lv_iload hx hb dX0_outermost_54 (lv_at hl 4 rfl) ?_
        obtain ⟨_, hc_36⟩ := hO.cell hp_23 (by decide) (ci := 9) rfl
        refine th_calli (va_runV (As := [.int (I v6q20)]) (rest := []) ⟨hx, hb, hml, hown, hts⟩ (t_end l G y b0 σ (ad E (ad E a 0) 0) (tvE E σ (ad E (ad E a 0) 0) 60) v6q20 (hO.isT1 hp_23) (show rng v6q20 from rv6q20)) (cwV 1 hts gX0_outermost_X9_end rfl rfl rfl (by decide +kernel) ⟨Nat.le_of_ble_eq_true rfl, Nat.le_of_ble_eq_true rfl⟩) (th_PV hK hH rfl hc_36) rfl rfl hl.1 rfl (lv_room (Nat.le_of_ble_eq_true rfl)) dX0_outermost_56 ⟨Nat.le_of_ble_eq_true rfl, Nat.le_of_ble_eq_true rfl⟩) hS (fun z_39 σ_s_38 H locs rz_39 hw_37 hH hS => ?_)
        obtain ⟨e9, hw_37⟩ := hw_37
        replace e9 := e9.symm
        subst e9
        have hw_37 : ((0 ≤ v6q20 ∧ v6q20 < (gI σ (ad E (ad E a 0) 0) 4)) ∧ v6q20 ≤ z_39 ∧ z_39 < (gI σ (ad E (ad E a 0) 0) 4)) ∨ (z_39 = -1 ∧ ¬ (0 ≤ v6q20 ∧ v6q20 < (gI σ (ad E (ad E a 0) 0) 4))) := hw_37
        refine lv_istore (lv' := [(5, .int (I z_39)), (3, .long w_35), (0, .ref a), (1, .long w), (6, .int (I v6q20))]) hx hb dX0_outermost_59 hl (by decide) rfl (fun ls hl => ?_)
        refine lv_iinc (v := I (v6q20 + 1)) (lv' := [(6, .int (I (v6q20 + 1))), (5, .int (I z_39)), (3, .long w_35), (0, .ref a), (1, .long w)]) hx hb dX0_outermost_61 hl (k := 4) rfl (I_add _ _) (by decide) rfl (fun ls hl => ?_)
        refine lv_goto (tgt := 8) hx hb dX0_outermost_64 (by decide) ?_
        exact ihJ_21 (w_35, z_39, v6q20 + 1) σ _ _ _ (by first | omega | (dsimp only; omega)) ⟨rfl, hH, hS, lv_sub hl [3, 4, 2, 1, 0] rfl, rz_39, ⟨by first | omega | (dsimp only; omega), by first | omega | (dsimp only; omega)⟩, by first | omega | (dsimp only; omega), by first | omega | (dsimp only; omega)⟩

set_option maxHeartbeats 1000000 in
set_option maxRecDepth 100000 in
theorem c_replacedByKey (l : Launch) (G : va_G) (y : Nat → ClassId) (b0 : Nat) (σ : th_M) (E : th_E) (hO : ok y E σ) (a : Nat) (h_a : kd E a = 6) (w : Int64) (i : Int) (ri : rng i) : Met l yX0_replacedByKey wsX0_replacedByKey ({ frames := 2, cells := 0, slots := 0, locals := 50 }) (th_P G y b0 σ [.ref a, .long w, .int (I i)]) (th_Ql G b0 (fun r σ1 => σ1 = σ ∧ (True))) 0 0 (th_A b0) := by
  refine Met.ofW (cc := cX0_replacedByKey) (maxL := 10) (ret := (some .long)) (by decide) rfl ?_
  intro p e s m args below meth c s₁ B hml hv
  obtain ⟨rfl, hH, hK⟩ := hv
  have hx := B.exec
  have hb := B.bytes
  have hr := B.returns
  have hts := atoms_spec (ws := wsX0_replacedByKey) B.pre
  have hown : s.vm.findClass RX0 = some m.cls := findClass_of_methodNamed B.named
  have hlocks := B.notSynchronized
  have h00 : b0 ≤ s.heap.size := hH.1
  have hS : va_S (th_A b0) s.heap s.heap [] := va_S.rf
  have inX0 : ∀ w ∈ wsX00, w ∈ wsX0_replacedByKey := by decide +kernel
  have inX6 : ∀ w ∈ wsX60, w ∈ wsX0_replacedByKey := by decide +kernel
  have inX9 : ∀ w ∈ wsX90, w ∈ wsX0_replacedByKey := by decide +kernel
  have fl0 := hts (.fieldLink RX0 27 "NestQuery$Acts" "now" "LNestQuery$State;") (by decide +kernel)
  have fl1 := hts (.initialized RX10) (by decide +kernel)
  have fl2 := hts (.static yX10_isIn) (by decide +kernel)
  have fl3 := hts (.methodLink RX0 109 Lib.Math.max.name) (by decide +kernel)
  have fl4 := hts (.static Lib.Math.max.name) (by decide +kernel)
  have fl5 := hts (.initialized "java/lang/Math") (by decide +kernel)
  have fl6 := hts (.code Lib.Math.max.name Lib.Math.max.code 2 (some .int)) (by decide +kernel)
  have fl7 := hts (.static yX10_bit) (by decide +kernel)
  have hl := lv_entry ([.ref a, .long w, .int (I i)]) (n := 10) (Nat.le_of_ble_eq_true rfl)
  rw [lg_entry_eq]
  generalize (lg_sl ([.ref a, .long w, .int (I i)]) ++ List.replicate (10 - (lg_sl ([.ref a, .long w, .int (I i)])).length) Slot.unset).toArray = ls at hl ⊢
  have hl : lv_has ls 10 [(0, .ref a), (1, .long w), (3, .int (I i))] := hl
  refine lv_lconst (v := 0) hx hb dX0_replacedByKey_0 (by decide) ?_
  refine lv_lstore (lv' := [(4, .long 0), (0, .ref a), (1, .long w), (3, .int (I i))]) hx hb dX0_replacedByKey_1 hl (by decide) rfl (fun ls hl => ?_)
  refine lv_iconst (v := I 0) hx hb dX0_replacedByKey_3 (by decide) ?_
  refine lv_istore (lv' := [(6, .int (I 0)), (4, .long 0), (0, .ref a), (1, .long w), (3, .int (I i))]) hx hb dX0_replacedByKey_4 hl (by decide) rfl (fun ls hl => ?_)
  refine th_loop (α := Int64 × Int) (pc := 6) (fun x9 => (60 - x9.2).toNat) (fun x9 σ9 H9 l9 ls9 => σ9 = σ ∧ th_H G b0 σ9 H9 ∧ va_S (th_A b0) s.heap H9 l9 ∧ lv_has ls9 10 [(0, .ref a), (1, .long w), (3, .int (I i)), (4, .long x9.1), (6, .int (I x9.2))] ∧ rng x9.2 ∧ (0 ≤ x9.2) ∧ (x9.2 ≤ 60)) ?_ (0, 0) σ _ _ _ ⟨rfl, hH, hS, lv_sub hl [2, 3, 4, 1, 0] rfl, (show rng 0 from ⟨by decide, by decide⟩), by first | omega | (dsimp only; omega), by first | omega | (dsimp only; omega)⟩
  intro x9 σ_J_41 H locs ls hI9 ihJ_41
  obtain ⟨v4q40, v6q40⟩ := x9
  obtain ⟨eJ_41, hH, hS, hl, rv6q40, J_41_0, J_41_1⟩ := hI9
  replace eJ_41 := eJ_41.symm
  subst eJ_41
  have hl : lv_has ls 10 [(0, .ref a), (1, .long w), (3, .int (I i)), (4, .long v4q40), (6, .int (I v6q40))] := hl
  have rv6q40 : rng v6q40 := rv6q40
  have J_41_0 : 0 ≤ v6q40 := J_41_0
  have J_41_1 : v6q40 ≤ 60 := J_41_1
  refine lv_iload hx hb dX0_replacedByKey_6 (lv_at hl 4 rfl) ?_
  refine lv_aload_n hx hb dX0_replacedByKey_8 rfl (lv_at hl 0 rfl) ?_
  have hp_42 : kd E (ad E a 0) = 5 := ok.pk hO h_a (by decide) k6_0 rfl
  refine ok.getR hO h_a (by decide) k6_0 (by decide) (fun _ _ he hv kk => th_get (ci := 0) (C := RX0) (T := TX0) (N := 4) hx hb hts inX0 hown hK hH he rfl 0 (by decide) fl0 hv dX0_replacedByKey_9 kk) ?_
  have hp_43 : kd E (ad E (ad E a 0) 0) = 1 := ok.pk hO hp_42 (by decide) k5_0 rfl
  refine ok.getR hO hp_42 (by decide) k5_0 (by decide) (fun _ _ he hv kk => th_getN (ci := 6) (C := RX6) (T := TX6) (N := 7) hx hb hts inX6 hown hK hH he rfl 0 (by decide) (nl_14 hK) hv dX0_replacedByKey_12 kk) ?_
  refine ok.getI hO hp_43 (by decide) k1_4 (fun _ _ he hv kk => th_getN (ci := 9) (C := RX9) (T := TX9) (N := 5) hx hb hts inX9 hown hK hH he rfl 4 (by decide) (nl_9 hK) hv dX0_replacedByKey_15 kk) (fun z_44 e_45 rz_44 lz_44 uz_44 => ?_)
  refine lv_icmp_ge (tgt := 100) hx hb dX0_replacedByKey_18 (by decide) (fun c_46 => ?_) (fun c_46 => ?_)
  · replace c_46 := (I_le (a := z_44) (b := v6q40) rz_44 rv6q40).mp c_46
    refine lv_lload hx hb dX0_replacedByKey_100 (lv_at hl 3 rfl) ?_
    exact th_lret hx hb hr hlocks hH hS (z := v4q40) ⟨rfl, trivial⟩ dX0_replacedByKey_102
  · replace c_46 := mt (I_le (a := z_44) (b := v6q40) rz_44 rv6q40).mpr c_46
    refine lv_lload_n hx hb dX0_replacedByKey_21 rfl (lv_at hl 1 rfl) ?_
    refine lv_iload hx hb dX0_replacedByKey_22 (lv_at hl 4 rfl) ?_
    refine th_calli (va_runSN (As := [.long w, .int (I v6q40)]) (rest := []) ⟨hx, hb, hml, hown, hts⟩ (n_isIn l G y b0 σ E hO w v6q40 (show rng v6q40 from rv6q40)) ⟨(va_cnB 2 hts gX0_replacedByKey_X10_isIn_n51 rfl rfl rfl (ml_7 hK) fl1 (by decide +kernel) ⟨Nat.le_of_ble_eq_true rfl, Nat.le_of_ble_eq_true rfl⟩), fl2, trivial⟩ (th_PS hK hH) rfl rfl hl.1 rfl (lv_room (Nat.le_of_ble_eq_true rfl)) dX0_replacedByKey_24 ⟨Nat.le_of_ble_eq_true rfl, Nat.le_of_ble_eq_true rfl⟩) hS (fun z_49 σ_s_48 H locs rz_49 hw_47 hH hS => ?_)
    obtain ⟨e9, bhw_47, hw_47⟩ := hw_47
    replace e9 := e9.symm
    subst e9
    refine th_join (α := Int) (J := 47) (stk := fun x9 => [.int (I x9)]) (fun x9 σ9 H9 l9 ls9 => σ9 = σ ∧ th_H G b0 σ9 H9 ∧ va_S (th_A b0) s.heap H9 l9 ∧ lv_has ls9 10 [(0, .ref a), (1, .long w), (3, .int (I i)), (4, .long v4q40), (6, .int (I v6q40))] ∧ rng x9 ∧ (-1 ≤ x9) ∧ (x9 ≤ 127)) ?_ (fun jK_56 => ?_)
    · intro x9 σ_K_56 H locs ls hI9
      obtain ⟨w0q55, ex9⟩ : ∃ z, z = x9 := ⟨_, rfl⟩
      subst ex9
      obtain ⟨eK_56, hH, hS, hl, rw0q55, K_56_0, K_56_1⟩ := hI9
      replace eK_56 := eK_56.symm
      subst eK_56
      have hl : lv_has ls 10 [(0, .ref a), (1, .long w), (3, .int (I i)), (4, .long v4q40), (6, .int (I v6q40))] := hl
      have rw0q55 : rng w0q55 := rw0q55
      have K_56_0 : -1 ≤ w0q55 := K_56_0
      have K_56_1 : w0q55 ≤ 127 := K_56_1
      refine lv_istore (lv' := [(7, .int (I w0q55)), (0, .ref a), (1, .long w), (3, .int (I i)), (4, .long v4q40), (6, .int (I v6q40))]) hx hb dX0_replacedByKey_47 hl (by decide) rfl (fun ls hl => ?_)
      refine lv_aload_n hx hb dX0_replacedByKey_49 rfl (lv_at hl 1 rfl) ?_
      refine ok.getR hO h_a (by decide) k6_0 (by decide) (fun _ _ he hv kk => th_get (ci := 0) (C := RX0) (T := TX0) (N := 4) hx hb hts inX0 hown hK hH he rfl 0 (by decide) fl0 hv dX0_replacedByKey_50 kk) ?_
      refine ok.getR hO hp_42 (by decide) k5_0 (by decide) (fun _ _ he hv kk => th_getN (ci := 6) (C := RX6) (T := TX6) (N := 7) hx hb hts inX6 hown hK hH he rfl 0 (by decide) (nl_14 hK) hv dX0_replacedByKey_53 kk) ?_
      refine lv_iload hx hb dX0_replacedByKey_56 (lv_at hl 0 rfl) ?_
      obtain ⟨_, hc_57⟩ := hO.cell hp_43 (by decide) (ci := 9) rfl
      refine th_calli (va_runV (As := [.int (I w0q55)]) (rest := []) ⟨hx, hb, hml, hown, hts⟩ (t_end l G y b0 σ (ad E (ad E a 0) 0) (tvE E σ (ad E (ad E a 0) 0) 60) w0q55 (hO.isT1 hp_43) (show rng w0q55 from rw0q55)) (cwV 1 hts gX0_replacedByKey_X9_end rfl rfl rfl (by decide +kernel) ⟨Nat.le_of_ble_eq_true rfl, Nat.le_of_ble_eq_true rfl⟩) (th_PV hK hH rfl hc_57) rfl rfl hl.1 rfl (lv_room (Nat.le_of_ble_eq_true rfl)) dX0_replacedByKey_58 ⟨Nat.le_of_ble_eq_true rfl, Nat.le_of_ble_eq_true rfl⟩) hS (fun z_60 σ_s_59 H locs rz_60 hw_58 hH hS => ?_)
      obtain ⟨e9, hw_58⟩ := hw_58
      replace e9 := e9.symm
      subst e9
      have hw_58 : ((0 ≤ w0q55 ∧ w0q55 < (gI σ (ad E (ad E a 0) 0) 4)) ∧ w0q55 ≤ z_60 ∧ z_60 < (gI σ (ad E (ad E a 0) 0) 4)) ∨ (z_60 = -1 ∧ ¬ (0 ≤ w0q55 ∧ w0q55 < (gI σ (ad E (ad E a 0) 0) 4))) := hw_58
      refine lv_istore (lv' := [(8, .int (I z_60)), (7, .int (I w0q55)), (0, .ref a), (1, .long w), (3, .int (I i)), (4, .long v4q40), (6, .int (I v6q40))]) hx hb dX0_replacedByKey_61 hl (by decide) rfl (fun ls hl => ?_)
      refine lv_iconst (v := I 0) hx hb dX0_replacedByKey_63 (by decide) ?_
      refine lv_iload hx hb dX0_replacedByKey_64 (lv_at hl 1 rfl) ?_
      refine va_mmax hx hb (by rw [hml]; exact hl.1.symm) hown fl3 fl4 fl5 fl6 (Nat.le_of_ble_eq_true rfl) (Nat.le_of_ble_eq_true rfl) (Nat.zero_le _) (Nat.zero_le _) dX0_replacedByKey_66 ?_
      refine th_mmax (show rng 0 from ⟨by decide, by decide⟩) rw0q55 (fun z_61 rz_61 hz_61 => ?_)
      refine lv_istore (lv' := [(9, .int (I z_61)), (8, .int (I z_60)), (7, .int (I w0q55)), (0, .ref a), (1, .long w), (3, .int (I i)), (4, .long v4q40), (6, .int (I v6q40))]) hx hb dX0_replacedByKey_69 hl (by decide) rfl (fun ls hl => ?_)
      replace hl : lv_has ls 10 [(9, .int (I z_61)), (8, .int (I z_60)), (0, .ref a), (1, .long w), (3, .int (I i)), (4, .long v4q40), (6, .int (I v6q40))] := lv_sub hl [0, 1, 3, 4, 5, 6, 7] rfl
      refine th_loop (α := Int64 × Int) (pc := 71) (fun x9 => (128 - x9.2).toNat) (fun x9 σ9 H9 l9 ls9 => σ9 = σ ∧ th_H G b0 σ9 H9 ∧ va_S (th_A b0) s.heap H9 l9 ∧ lv_has ls9 10 [(0, .ref a), (1, .long w), (3, .int (I i)), (4, .long x9.1), (6, .int (I v6q40)), (8, .int (I z_60)), (9, .int (I x9.2))] ∧ rng x9.2 ∧ (0 ≤ x9.2) ∧ (x9.2 ≤ 128)) ?_ (v4q40, z_61) σ _ _ _ ⟨rfl, hH, hS, lv_sub hl [2, 3, 4, 5, 6, 1, 0] rfl, rz_61, by first | omega | (dsimp only; omega), by first | omega | (dsimp only; omega)⟩
      intro x9 σ_J_63 H locs ls hI9 ihJ_63
      obtain ⟨v4q62, v9q62⟩ := x9
      obtain ⟨eJ_63, hH, hS, hl, rv9q62, J_63_0, J_63_1⟩ := hI9
      replace eJ_63 := eJ_63.symm
      subst eJ_63
      have hl : lv_has ls 10 [(0, .ref a), (1, .long w), (3, .int (I i)), (4, .long v4q62), (6, .int (I v6q40)), (8, .int (I z_60)), (9, .int (I v9q62))] := hl
      have rv9q62 : rng v9q62 := rv9q62
      have J_63_0 : 0 ≤ v9q62 := J_63_0
      have J_63_1 : v9q62 ≤ 128 := J_63_1
      refine lv_iload hx hb dX0_replacedByKey_71 (lv_at hl 6 rfl) ?_
      refine lv_iload hx hb dX0_replacedByKey_73 (lv_at hl 5 rfl) ?_
      refine lv_icmp_gt (tgt := 94) hx hb dX0_replacedByKey_75 (by decide) (fun c_64 => ?_) (fun c_64 => ?_)
      · replace c_64 := (I_lt (a := z_60) (b := v9q62) rz_60 rv9q62).mp c_64
        refine lv_iinc (v := I (v6q40 + 1)) (lv' := [(6, .int (I (v6q40 + 1))), (0, .ref a), (1, .long w), (3, .int (I i)), (4, .long v4q62), (8, .int (I z_60)), (9, .int (I v9q62))]) hx hb dX0_replacedByKey_94 hl (k := 4) rfl (I_add _ _) (by decide) rfl (fun ls hl => ?_)
        refine lv_goto (tgt := 6) hx hb dX0_replacedByKey_97 (by decide) ?_
        replace hl : lv_has ls 10 [(6, .int (I (v6q40 + 1))), (0, .ref a), (1, .long w), (3, .int (I i)), (4, .long v4q62)] := lv_sub hl [0, 1, 2, 3, 4] rfl
        exact ihJ_41 (v4q62, v6q40 + 1) σ _ _ _ (by first | omega | (dsimp only; omega)) ⟨rfl, hH, hS, lv_sub hl [1, 2, 3, 4, 0] rfl, ⟨by first | omega | (dsimp only; omega), by first | omega | (dsimp only; omega)⟩, by first | omega | (dsimp only; omega), by first | omega | (dsimp only; omega)⟩
      · replace c_64 := mt (I_lt (a := z_60) (b := v9q62) rz_60 rv9q62).mpr c_64
        refine lv_lload hx hb dX0_replacedByKey_78 (lv_at hl 3 rfl) ?_
        refine lv_iload hx hb dX0_replacedByKey_80 (lv_at hl 6 rfl) ?_
        refine th_calll (va_runSN (As := [.int (I v9q62)]) (rest := [.long v4q62]) ⟨hx, hb, hml, hown, hts⟩ (n_bit l G y b0 σ E hO v9q62 (show rng v9q62 from rv9q62)) ⟨(va_cnB 1 hts gX0_replacedByKey_X10_bit_n59 rfl rfl rfl (ml_8 hK) fl1 (by decide +kernel) ⟨Nat.le_of_ble_eq_true rfl, Nat.le_of_ble_eq_true rfl⟩), fl7, trivial⟩ (th_PS hK hH) rfl rfl hl.1 rfl (lv_room (Nat.le_of_ble_eq_true rfl)) dX0_replacedByKey_82 ⟨Nat.le_of_ble_eq_true rfl, Nat.le_of_ble_eq_true rfl⟩) hS (fun w_67 σ_s_66 H locs hw_65 hH hS => ?_)
        obtain ⟨e9, hw_65⟩ := hw_65
        replace e9 := e9.symm
        subst e9
        refine lv_lor hx hb dX0_replacedByKey_85 ?_
        refine lv_topl (fun w_68 _ => ?_)
        refine lv_lstore (lv' := [(4, .long w_68), (0, .ref a), (1, .long w), (3, .int (I i)), (6, .int (I v6q40)), (8, .int (I z_60)), (9, .int (I v9q62))]) hx hb dX0_replacedByKey_86 hl (by decide) rfl (fun ls hl => ?_)
        refine lv_iinc (v := I (v9q62 + 1)) (lv' := [(9, .int (I (v9q62 + 1))), (4, .long w_68), (0, .ref a), (1, .long w), (3, .int (I i)), (6, .int (I v6q40)), (8, .int (I z_60))]) hx hb dX0_replacedByKey_88 hl (k := 6) rfl (I_add _ _) (by decide) rfl (fun ls hl => ?_)
        refine lv_goto (tgt := 71) hx hb dX0_replacedByKey_91 (by decide) ?_
        exact ihJ_63 (w_68, v9q62 + 1) σ _ _ _ (by first | omega | (dsimp only; omega)) ⟨rfl, hH, hS, lv_sub hl [2, 3, 4, 1, 5, 6, 0] rfl, ⟨by first | omega | (dsimp only; omega), by first | omega | (dsimp only; omega)⟩, by first | omega | (dsimp only; omega), by first | omega | (dsimp only; omega)⟩
    · refine lv_if_eq (tgt := 46) hx hb dX0_replacedByKey_27 (by decide) (fun c_69 => ?_) (fun c_69 => ?_)
      · replace c_69 := (I_eq (a := z_49) (b := 0) rz_49 (show rng 0 from ⟨by decide, by decide⟩)).mp c_69
        refine lv_iconst (v := I (-1)) hx hb dX0_replacedByKey_46 (by decide) ?_
        exact jK_56 ((-1)) σ _ _ _ ⟨rfl, hH, hS, lv_sub hl [0, 1, 2, 3, 4] rfl, (show rng (-1) from ⟨by decide, by decide⟩), by first | omega | (dsimp only; omega), by first | omega | (dsimp only; omega)⟩
      · replace c_69 := mt (I_eq (a := z_49) (b := 0) rz_49 (show rng 0 from ⟨by decide, by decide⟩)).mpr c_69
        refine lv_aload_n hx hb dX0_replacedByKey_30 rfl (lv_at hl 0 rfl) ?_
        refine ok.getR hO h_a (by decide) k6_0 (by decide) (fun _ _ he hv kk => th_get (ci := 0) (C := RX0) (T := TX0) (N := 4) hx hb hts inX0 hown hK hH he rfl 0 (by decide) fl0 hv dX0_replacedByKey_31 kk) ?_
        refine ok.getR hO hp_42 (by decide) k5_0 (by decide) (fun _ _ he hv kk => th_getN (ci := 6) (C := RX6) (T := TX6) (N := 7) hx hb hts inX6 hown hK hH he rfl 0 (by decide) (nl_14 hK) hv dX0_replacedByKey_34 kk) ?_
        refine lv_iload hx hb dX0_replacedByKey_37 (lv_at hl 4 rfl) ?_
        refine lv_iload_n hx hb dX0_replacedByKey_39 rfl (lv_at hl 2 rfl) ?_
        obtain ⟨_, hc_70⟩ := hO.cell hp_43 (by decide) (ci := 9) rfl
        refine th_calli (va_runV (As := [.int (I v6q40), .int (I i)]) (rest := []) ⟨hx, hb, hml, hown, hts⟩ (t_childBy l G y b0 σ (ad E (ad E a 0) 0) (tvE E σ (ad E (ad E a 0) 0) 60) v6q40 i (hO.isT1 hp_43) (show rng v6q40 from rv6q40) (show rng i from ri)) (cwV 2 hts gX0_replacedByKey_X9_childBy rfl rfl rfl (by decide +kernel) ⟨Nat.le_of_ble_eq_true rfl, Nat.le_of_ble_eq_true rfl⟩) (th_PV hK hH rfl hc_70) rfl rfl hl.1 rfl (lv_room (Nat.le_of_ble_eq_true rfl)) dX0_replacedByKey_40 ⟨Nat.le_of_ble_eq_true rfl, Nat.le_of_ble_eq_true rfl⟩) hS (fun z_73 σ_s_72 H locs rz_73 hw_71 hH hS => ?_)
        obtain ⟨e9, hw_71⟩ := hw_71
        replace e9 := e9.symm
        subst e9
        have hw_71 : z_73 = -1 ∨ (0 ≤ v6q40 ∧ v6q40 < z_73 ∧ z_73 < (gI σ (ad E (ad E a 0) 0) 4)) := hw_71
        refine lv_goto (tgt := 47) hx hb dX0_replacedByKey_43 (by decide) ?_
        exact jK_56 (z_73) σ _ _ _ ⟨rfl, hH, hS, lv_sub hl [0, 1, 2, 3, 4] rfl, rz_73, by first | omega | (dsimp only; omega), by first | omega | (dsimp only; omega)⟩

set_option maxHeartbeats 1000000 in
set_option maxRecDepth 100000 in
theorem c_setByKey (l : Launch) (G : va_G) (y : Nat → ClassId) (b0 : Nat) (σ : th_M) (E : th_E) (hO : ok y E σ) (a : Nat) (h_a : kd E a = 6) (i : Int) (ri : rng i) (ky : Int) (rky : rng ky) (b : Nat) (h_b : kd E b = 1) : Met l yX0_setByKey wsX0_setByKey ({ frames := 4, cells := 0, slots := 0, locals := 149 }) (th_P G y b0 σ [.ref a, .int (I i), .int (I ky), .ref b]) (th_Qi G b0 (fun r σ1 => ok y E σ1 ∧ fr [2] E σ σ1 ∧ (0 ≤ r ∧ r ≤ 1) ∧ (True))) 0 0 (th_A b0) := by
  refine Met.ofW (cc := cX0_setByKey) (maxL := 5) (ret := (some .boolean)) (by decide) rfl ?_
  intro p e s m args below meth c s₁ B hml hv
  obtain ⟨rfl, hH, hK⟩ := hv
  have hx := B.exec
  have hb := B.bytes
  have hr := B.returns
  have hts := atoms_spec (ws := wsX0_setByKey) B.pre
  have hown : s.vm.findClass RX0 = some m.cls := findClass_of_methodNamed B.named
  have hlocks := B.notSynchronized
  have h00 : b0 ≤ s.heap.size := hH.1
  have hS : va_S (th_A b0) s.heap s.heap [] := va_S.rf
  have hF : fr [2] E σ σ := fr.rf
  have inX0 : ∀ w ∈ wsX00, w ∈ wsX0_setByKey := by decide +kernel
  have fl0 := hts (.fieldLink RX0 14 "NestQuery$Acts" "work" "LNestQuery$Tree;") (by decide +kernel)
  have hl := lv_entry ([.ref a, .int (I i), .int (I ky), .ref b]) (n := 5) (Nat.le_of_ble_eq_true rfl)
  rw [lg_entry_eq]
  generalize (lg_sl ([.ref a, .int (I i), .int (I ky), .ref b]) ++ List.replicate (5 - (lg_sl ([.ref a, .int (I i), .int (I ky), .ref b])).length) Slot.unset).toArray = ls at hl ⊢
  have hl : lv_has ls 5 [(0, .ref a), (1, .int (I i)), (2, .int (I ky)), (3, .ref b)] := hl
  refine lv_aload_n hx hb dX0_setByKey_0 rfl (lv_at hl 0 rfl) ?_
  have hp_1 : kd E (ad E a 1) = 2 := ok.pk hO h_a (by decide) k6_1 rfl
  refine ok.getR hO h_a (by decide) k6_1 (by decide) (fun _ _ he hv kk => th_get (ci := 0) (C := RX0) (T := TX0) (N := 4) hx hb hts inX0 hown hK hH he rfl 1 (by decide) fl0 hv dX0_setByKey_1 kk) ?_
  refine lv_iload_n hx hb dX0_setByKey_4 rfl (lv_at hl 1 rfl) ?_
  refine lv_iload_n hx hb dX0_setByKey_5 rfl (lv_at hl 2 rfl) ?_
  obtain ⟨z_2, e_3, rz_2, lz_2, uz_2⟩ := hO.gi hp_1 (by decide) k2_4
  obtain ⟨_, hc_4⟩ := hO.cell hp_1 (by decide) (ci := 9) rfl
  refine th_calli (va_runV (As := [.int (I i), .int (I ky)]) (rest := []) ⟨hx, hb, hml, hown, hts⟩ (t_childBy l G y b0 σ (ad E a 1) (tvE E σ (ad E a 1) 128) i ky (hO.isT2 hp_1) (show rng i from ri) (show rng ky from rky)) (cwV 2 hts gX0_setByKey_X9_childBy rfl rfl rfl (by decide +kernel) ⟨Nat.le_of_ble_eq_true rfl, Nat.le_of_ble_eq_true rfl⟩) (th_PV hK hH rfl hc_4) rfl rfl hl.1 rfl (lv_room (Nat.le_of_ble_eq_true rfl)) dX0_setByKey_6 ⟨Nat.le_of_ble_eq_true rfl, Nat.le_of_ble_eq_true rfl⟩) hS (fun z_7 σ_s_6 H locs rz_7 hw_5 hH hS => ?_)
  obtain ⟨e9, hw_5⟩ := hw_5
  replace e9 := e9.symm
  subst e9
  have hw_5 : z_7 = -1 ∨ (0 ≤ i ∧ i < z_7 ∧ z_7 < (gI σ (ad E a 1) 4)) := hw_5
  refine lv_istore (lv' := [(4, .int (I z_7)), (0, .ref a), (1, .int (I i)), (2, .int (I ky)), (3, .ref b)]) hx hb dX0_setByKey_9 hl (by decide) rfl (fun ls hl => ?_)
  refine lv_iload hx hb dX0_setByKey_11 (lv_at hl 0 rfl) ?_
  refine lv_iconst (v := I (-1)) hx hb dX0_setByKey_13 (by decide) ?_
  refine lv_icmp_ne (tgt := 31) hx hb dX0_setByKey_14 (by decide) (fun c_8 => ?_) (fun c_8 => ?_)
  · replace c_8 := mt (I_eq (a := z_7) (b := (-1)) rz_7 (show rng (-1) from ⟨by decide, by decide⟩)).mpr c_8
    refine lv_aload_n hx hb dX0_setByKey_31 rfl (lv_at hl 1 rfl) ?_
    refine ok.getR hO h_a (by decide) k6_1 (by decide) (fun _ _ he hv kk => th_get (ci := 0) (C := RX0) (T := TX0) (N := 4) hx hb hts inX0 hown hK hH he rfl 1 (by decide) fl0 hv dX0_setByKey_32 kk) ?_
    refine lv_iload hx hb dX0_setByKey_35 (lv_at hl 0 rfl) ?_
    refine lv_aload_n hx hb dX0_setByKey_37 rfl (lv_at hl 4 rfl) ?_
    refine lv_iconst (v := I 0) hx hb dX0_setByKey_38 (by decide) ?_
    obtain ⟨_, hc_9⟩ := hO.cell hp_1 (by decide) (ci := 9) rfl
    refine th_calli (va_runV (As := [.int (I z_7), .ref b, .int (I 0)]) (rest := []) ⟨hx, hb, hml, hown, hts⟩ (t21_replace l G y b0 σ E hO (ad E a 1) hp_1 z_7 (show rng z_7 from rz_7) (by omega) (by omega) b h_b 0 (show rng 0 from (show rng 0 from ⟨by decide, by decide⟩)) (by omega) (by omega)) (cwV 3 hts gX0_setByKey_X9_replace rfl rfl rfl (by decide +kernel) ⟨Nat.le_of_ble_eq_true rfl, Nat.le_of_ble_eq_true rfl⟩) (th_PV hK hH rfl hc_9) rfl rfl hl.1 rfl (lv_room (Nat.le_of_ble_eq_true rfl)) dX0_setByKey_39 ⟨Nat.le_of_ble_eq_true rfl, Nat.le_of_ble_eq_true rfl⟩) hS (fun z_12 σ_s_11 H locs rz_12 hw_10 hH hS => ?_)
    obtain ⟨hO9, hF9, bhw_10, hw_10⟩ := hw_10
    replace hO := hO9
    replace hF := hF.tu hF9 (by decide)
    exact th_zret hx hb hr hlocks hH hS (z := z_12) (by omega) ⟨hO, hF, ⟨by omega, by omega⟩, trivial⟩ dX0_setByKey_42
  · replace c_8 := (I_eq (a := z_7) (b := (-1)) rz_7 (show rng (-1) from ⟨by decide, by decide⟩)).mp c_8
    refine lv_aload_n hx hb dX0_setByKey_17 rfl (lv_at hl 1 rfl) ?_
    refine ok.getR hO h_a (by decide) k6_1 (by decide) (fun _ _ he hv kk => th_get (ci := 0) (C := RX0) (T := TX0) (N := 4) hx hb hts inX0 hown hK hH he rfl 1 (by decide) fl0 hv dX0_setByKey_18 kk) ?_
    refine lv_iload_n hx hb dX0_setByKey_21 rfl (lv_at hl 2 rfl) ?_
    refine lv_iload_n hx hb dX0_setByKey_22 rfl (lv_at hl 3 rfl) ?_
    refine lv_aload_n hx hb dX0_setByKey_23 rfl (lv_at hl 4 rfl) ?_
    refine lv_iconst (v := I 0) hx hb dX0_setByKey_24 (by decide) ?_
    obtain ⟨_, hc_13⟩ := hO.cell hp_1 (by decide) (ci := 9) rfl
    refine th_calli (va_runV (As := [.int (I i), .int (I ky), .ref b, .int (I 0)]) (rest := []) ⟨hx, hb, hml, hown, hts⟩ (t21_behind l G y b0 σ E hO (ad E a 1) hp_1 i (show rng i from ri) ky (show rng ky from rky) b h_b 0 (show rng 0 from (show rng 0 from ⟨by decide, by decide⟩)) (by omega) (by omega)) (cwV 4 hts gX0_setByKey_X9_graftBehindAll rfl rfl rfl (by decide +kernel) ⟨Nat.le_of_ble_eq_true rfl, Nat.le_of_ble_eq_true rfl⟩) (th_PV hK hH rfl hc_13) rfl rfl hl.1 rfl (lv_room (Nat.le_of_ble_eq_true rfl)) dX0_setByKey_25 ⟨Nat.le_of_ble_eq_true rfl, Nat.le_of_ble_eq_true rfl⟩) hS (fun z_16 σ_s_15 H locs rz_16 hw_14 hH hS => ?_)
    obtain ⟨hO9, hF9, bhw_14, hw_14⟩ := hw_14
    replace hO := hO9
    replace hF := hF.tu hF9 (by decide)
    refine lv_goto (tgt := 42) hx hb dX0_setByKey_28 (by decide) ?_
    exact th_zret hx hb hr hlocks hH hS (z := z_16) (by omega) ⟨hO, hF, ⟨by omega, by omega⟩, trivial⟩ dX0_setByKey_42

set_option maxHeartbeats 1000000 in
set_option maxRecDepth 100000 in
theorem c_isBehind (l : Launch) (G : va_G) (y : Nat → ClassId) (b0 : Nat) (σ : th_M) (E : th_E) (hO : ok y E σ) (a : Nat) (h_a : kd E a = 6) (i : Int) (ri : rng i) (j : Int) (rj : rng j) : Met l yX0_isBehind wsX0_isBehind ({ frames := 1, cells := 0, slots := 0, locals := 25 }) (th_P G y b0 σ [.ref a, .int (I i), .int (I j)]) (th_Qi G b0 (fun r σ1 => σ1 = σ ∧ (0 ≤ r ∧ r ≤ 1) ∧ (True))) 0 0 (th_A b0) := by
  refine Met.ofW (cc := cX0_isBehind) (maxL := 5) (ret := (some .boolean)) (by decide) rfl ?_
  intro p e s m args below meth c s₁ B hml hv
  obtain ⟨rfl, hH, hK⟩ := hv
  have hx := B.exec
  have hb := B.bytes
  have hr := B.returns
  have hts := atoms_spec (ws := wsX0_isBehind) B.pre
  have hown : s.vm.findClass RX0 = some m.cls := findClass_of_methodNamed B.named
  have hlocks := B.notSynchronized
  have h00 : b0 ≤ s.heap.size := hH.1
  have hS : va_S (th_A b0) s.heap s.heap [] := va_S.rf
  have inX0 : ∀ w ∈ wsX00, w ∈ wsX0_isBehind := by decide +kernel
  have fl0 := hts (.fieldLink RX0 14 "NestQuery$Acts" "work" "LNestQuery$Tree;") (by decide +kernel)
  have hl := lv_entry ([.ref a, .int (I i), .int (I j)]) (n := 5) (Nat.le_of_ble_eq_true rfl)
  rw [lg_entry_eq]
  generalize (lg_sl ([.ref a, .int (I i), .int (I j)]) ++ List.replicate (5 - (lg_sl ([.ref a, .int (I i), .int (I j)])).length) Slot.unset).toArray = ls at hl ⊢
  have hl : lv_has ls 5 [(0, .ref a), (1, .int (I i)), (2, .int (I j))] := hl
  refine lv_aload_n hx hb dX0_isBehind_0 rfl (lv_at hl 0 rfl) ?_
  have hp_1 : kd E (ad E a 1) = 2 := ok.pk hO h_a (by decide) k6_1 rfl
  refine ok.getR hO h_a (by decide) k6_1 (by decide) (fun _ _ he hv kk => th_get (ci := 0) (C := RX0) (T := TX0) (N := 4) hx hb hts inX0 hown hK hH he rfl 1 (by decide) fl0 hv dX0_isBehind_1 kk) ?_
  refine lv_iload_n hx hb dX0_isBehind_4 rfl (lv_at hl 1 rfl) ?_
  obtain ⟨z_2, e_3, rz_2, lz_2, uz_2⟩ := hO.gi hp_1 (by decide) k2_4
  obtain ⟨_, hc_4⟩ := hO.cell hp_1 (by decide) (ci := 9) rfl
  refine th_calli (va_runV (As := [.int (I i)]) (rest := []) ⟨hx, hb, hml, hown, hts⟩ (t_kindAt l G y b0 σ (ad E a 1) (tvE E σ (ad E a 1) 128) i (hO.isT2 hp_1) (show rng i from ri)) (cwV 1 hts gX0_isBehind_X9_kindAt rfl rfl rfl (by decide +kernel) ⟨Nat.le_of_ble_eq_true rfl, Nat.le_of_ble_eq_true rfl⟩) (th_PV hK hH rfl hc_4) rfl rfl hl.1 rfl (lv_room (Nat.le_of_ble_eq_true rfl)) dX0_isBehind_5 ⟨Nat.le_of_ble_eq_true rfl, Nat.le_of_ble_eq_true rfl⟩) hS (fun z_7 σ_s_6 H locs rz_7 hw_5 hH hS => ?_)
  obtain ⟨e9, hw_5⟩ := hw_5
  replace e9 := e9.symm
  subst e9
  have hw_5 : (0 ≤ i ∧ i < (gI σ (ad E a 1) 4)) ∨ z_7 = -1 := hw_5
  refine lv_istore_n (lv' := [(3, .int (I z_7)), (0, .ref a), (1, .int (I i)), (2, .int (I j))]) hx hb dX0_isBehind_8 rfl hl (by decide) rfl (fun ls hl => ?_)
  refine lv_aload_n hx hb dX0_isBehind_9 rfl (lv_at hl 1 rfl) ?_
  refine ok.getR hO h_a (by decide) k6_1 (by decide) (fun _ _ he hv kk => th_get (ci := 0) (C := RX0) (T := TX0) (N := 4) hx hb hts inX0 hown hK hH he rfl 1 (by decide) fl0 hv dX0_isBehind_10 kk) ?_
  refine lv_iload_n hx hb dX0_isBehind_13 rfl (lv_at hl 3 rfl) ?_
  obtain ⟨_, hc_8⟩ := hO.cell hp_1 (by decide) (ci := 9) rfl
  refine th_calli (va_runV (As := [.int (I j)]) (rest := []) ⟨hx, hb, hml, hown, hts⟩ (t_kindAt l G y b0 σ (ad E a 1) (tvE E σ (ad E a 1) 128) j (hO.isT2 hp_1) (show rng j from rj)) (cwV 1 hts gX0_isBehind_X9_kindAt rfl rfl rfl (by decide +kernel) ⟨Nat.le_of_ble_eq_true rfl, Nat.le_of_ble_eq_true rfl⟩) (th_PV hK hH rfl hc_8) rfl rfl hl.1 rfl (lv_room (Nat.le_of_ble_eq_true rfl)) dX0_isBehind_14 ⟨Nat.le_of_ble_eq_true rfl, Nat.le_of_ble_eq_true rfl⟩) hS (fun z_11 σ_s_10 H locs rz_11 hw_9 hH hS => ?_)
  obtain ⟨e9, hw_9⟩ := hw_9
  replace e9 := e9.symm
  subst e9
  have hw_9 : (0 ≤ j ∧ j < (gI σ (ad E a 1) 4)) ∨ z_11 = -1 := hw_9
  refine lv_istore (lv' := [(4, .int (I z_11)), (3, .int (I z_7)), (0, .ref a), (1, .int (I i)), (2, .int (I j))]) hx hb dX0_isBehind_17 hl (by decide) rfl (fun ls hl => ?_)
  refine lv_iload_n hx hb dX0_isBehind_19 rfl (lv_at hl 1 rfl) ?_
  refine lv_iload hx hb dX0_isBehind_20 (lv_at hl 0 rfl) ?_
  refine lv_icmp_ne (tgt := 52) hx hb dX0_isBehind_22 (by decide) (fun c_12 => ?_) (fun c_12 => ?_)
  · replace c_12 := mt (I_eq (a := z_7) (b := z_11) rz_7 rz_11).mpr c_12
    refine lv_iload_n hx hb dX0_isBehind_52 rfl (lv_at hl 1 rfl) ?_
    refine lv_iload hx hb dX0_isBehind_53 (lv_at hl 0 rfl) ?_
    refine lv_icmp_le (tgt := 62) hx hb dX0_isBehind_55 (by decide) (fun c_13 => ?_) (fun c_13 => ?_)
    · replace c_13 := (I_le (a := z_7) (b := z_11) rz_7 rz_11).mp c_13
      refine lv_iconst (v := I 0) hx hb dX0_isBehind_62 (by decide) ?_
      exact th_zret hx hb hr hlocks hH hS (z := 0) (by omega) ⟨rfl, ⟨by omega, by omega⟩, trivial⟩ dX0_isBehind_63
    · replace c_13 := mt (I_le (a := z_7) (b := z_11) rz_7 rz_11).mpr c_13
      refine lv_iconst (v := I 1) hx hb dX0_isBehind_58 (by decide) ?_
      refine lv_goto (tgt := 63) hx hb dX0_isBehind_59 (by decide) ?_
      exact th_zret hx hb hr hlocks hH hS (z := 1) (by omega) ⟨rfl, ⟨by omega, by omega⟩, trivial⟩ dX0_isBehind_63
  · replace c_12 := (I_eq (a := z_7) (b := z_11) rz_7 rz_11).mp c_12
    refine lv_aload_n hx hb dX0_isBehind_25 rfl (lv_at hl 2 rfl) ?_
    refine ok.getR hO h_a (by decide) k6_1 (by decide) (fun _ _ he hv kk => th_get (ci := 0) (C := RX0) (T := TX0) (N := 4) hx hb hts inX0 hown hK hH he rfl 1 (by decide) fl0 hv dX0_isBehind_26 kk) ?_
    refine lv_iload_n hx hb dX0_isBehind_29 rfl (lv_at hl 3 rfl) ?_
    obtain ⟨_, hc_14⟩ := hO.cell hp_1 (by decide) (ci := 9) rfl
    refine th_calli (va_runV (As := [.int (I i)]) (rest := []) ⟨hx, hb, hml, hown, hts⟩ (t_valueAt l G y b0 σ (ad E a 1) (tvE E σ (ad E a 1) 128) i (hO.isT2 hp_1) (show rng i from ri)) (cwV 1 hts gX0_isBehind_X9_valueAt rfl rfl rfl (by decide +kernel) ⟨Nat.le_of_ble_eq_true rfl, Nat.le_of_ble_eq_true rfl⟩) (th_PV hK hH rfl hc_14) rfl rfl hl.1 rfl (lv_room (Nat.le_of_ble_eq_true rfl)) dX0_isBehind_30 ⟨Nat.le_of_ble_eq_true rfl, Nat.le_of_ble_eq_true rfl⟩) hS (fun z_17 σ_s_16 H locs rz_17 hw_15 hH hS => ?_)
    obtain ⟨e9, hw_15⟩ := hw_15
    replace e9 := e9.symm
    subst e9
    refine lv_aload_n hx hb dX0_isBehind_33 rfl (lv_at hl 2 rfl) ?_
    refine ok.getR hO h_a (by decide) k6_1 (by decide) (fun _ _ he hv kk => th_get (ci := 0) (C := RX0) (T := TX0) (N := 4) hx hb hts inX0 hown hK hH he rfl 1 (by decide) fl0 hv dX0_isBehind_34 kk) ?_
    refine lv_iload_n hx hb dX0_isBehind_37 rfl (lv_at hl 4 rfl) ?_
    obtain ⟨_, hc_18⟩ := hO.cell hp_1 (by decide) (ci := 9) rfl
    refine th_calli (va_runV (As := [.int (I j)]) (rest := [.int (I z_17)]) ⟨hx, hb, hml, hown, hts⟩ (t_valueAt l G y b0 σ (ad E a 1) (tvE E σ (ad E a 1) 128) j (hO.isT2 hp_1) (show rng j from rj)) (cwV 1 hts gX0_isBehind_X9_valueAt rfl rfl rfl (by decide +kernel) ⟨Nat.le_of_ble_eq_true rfl, Nat.le_of_ble_eq_true rfl⟩) (th_PV hK hH rfl hc_18) rfl rfl hl.1 rfl (lv_room (Nat.le_of_ble_eq_true rfl)) dX0_isBehind_38 ⟨Nat.le_of_ble_eq_true rfl, Nat.le_of_ble_eq_true rfl⟩) hS (fun z_21 σ_s_20 H locs rz_21 hw_19 hH hS => ?_)
    obtain ⟨e9, hw_19⟩ := hw_19
    replace e9 := e9.symm
    subst e9
    refine lv_icmp_le (tgt := 48) hx hb dX0_isBehind_41 (by decide) (fun c_22 => ?_) (fun c_22 => ?_)
    · replace c_22 := (I_le (a := z_17) (b := z_21) rz_17 rz_21).mp c_22
      refine lv_iconst (v := I 0) hx hb dX0_isBehind_48 (by decide) ?_
      refine lv_goto (tgt := 63) hx hb dX0_isBehind_49 (by decide) ?_
      exact th_zret hx hb hr hlocks hH hS (z := 0) (by omega) ⟨rfl, ⟨by omega, by omega⟩, trivial⟩ dX0_isBehind_63
    · replace c_22 := mt (I_le (a := z_17) (b := z_21) rz_17 rz_21).mpr c_22
      refine lv_iconst (v := I 1) hx hb dX0_isBehind_44 (by decide) ?_
      refine lv_goto (tgt := 63) hx hb dX0_isBehind_45 (by decide) ?_
      exact th_zret hx hb hr hlocks hH hS (z := 1) (by omega) ⟨rfl, ⟨by omega, by omega⟩, trivial⟩ dX0_isBehind_63

set_option maxHeartbeats 1000000 in
set_option maxRecDepth 100000 in
theorem c_orderOf (l : Launch) (G : va_G) (y : Nat → ClassId) (b0 : Nat) (σ : th_M) (E : th_E) (hO : ok y E σ) (a : Nat) (h_a : kd E a = 6) (i : Int) (ri : rng i) (l_i : -1 ≤ i) (u_i : i ≤ 60) (w : Int) (rw : rng w) (l_w : 0 ≤ w) (u_w : w ≤ 1) : Met l yX0_orderOf wsX0_orderOf ({ frames := 2, cells := 0, slots := 0, locals := 53 }) (th_P G y b0 σ [.ref a, .int (I i), .int (I w)]) (th_Qi G b0 (fun r σ1 => ok y E σ1 ∧ fr [6] E σ σ1 ∧ (0 ≤ r ∧ r ≤ 128))) 0 0 (th_A b0) := by
  refine Met.ofW (cc := cX0_orderOf) (maxL := 7) (ret := (some .int)) (by decide) rfl ?_
  intro p e s m args below meth c s₁ B hml hv
  obtain ⟨rfl, hH, hK⟩ := hv
  have hx := B.exec
  have hb := B.bytes
  have hr := B.returns
  have hts := atoms_spec (ws := wsX0_orderOf) B.pre
  have hown : s.vm.findClass RX0 = some m.cls := findClass_of_methodNamed B.named
  have hlocks := B.notSynchronized
  have h00 : b0 ≤ s.heap.size := hH.1
  have hS : va_S (th_A b0) s.heap s.heap [] := va_S.rf
  have hF : fr [6] E σ σ := fr.rf
  have inX0 : ∀ w ∈ wsX00, w ∈ wsX0_orderOf := by decide +kernel
  have fl0 := hts (.fieldLink RX0 14 "NestQuery$Acts" "work" "LNestQuery$Tree;") (by decide +kernel)
  have fl1 := hts (.methodLink RX0 117 Lib.Math.min.name) (by decide +kernel)
  have fl2 := hts (.static Lib.Math.min.name) (by decide +kernel)
  have fl3 := hts (.initialized "java/lang/Math") (by decide +kernel)
  have fl4 := hts (.code Lib.Math.min.name Lib.Math.min.code 2 (some .int)) (by decide +kernel)
  have fl5 := hts (.fieldLink RX0 23 "NestQuery$Acts" "order" "[I") (by decide +kernel)
  have hl := lv_entry ([.ref a, .int (I i), .int (I w)]) (n := 7) (Nat.le_of_ble_eq_true rfl)
  rw [lg_entry_eq]
  generalize (lg_sl ([.ref a, .int (I i), .int (I w)]) ++ List.replicate (7 - (lg_sl ([.ref a, .int (I i), .int (I w)])).length) Slot.unset).toArray = ls at hl ⊢
  have hl : lv_has ls 7 [(0, .ref a), (1, .int (I i)), (2, .int (I w))] := hl
  refine lv_aload_n hx hb dX0_orderOf_0 rfl (lv_at hl 0 rfl) ?_
  have hp_1 : kd E (ad E a 1) = 2 := ok.pk hO h_a (by decide) k6_1 rfl
  refine ok.getR hO h_a (by decide) k6_1 (by decide) (fun _ _ he hv kk => th_get (ci := 0) (C := RX0) (T := TX0) (N := 4) hx hb hts inX0 hown hK hH he rfl 1 (by decide) fl0 hv dX0_orderOf_1 kk) ?_
  refine lv_iload_n hx hb dX0_orderOf_4 rfl (lv_at hl 1 rfl) ?_
  obtain ⟨z_2, e_3, rz_2, lz_2, uz_2⟩ := hO.gi hp_1 (by decide) k2_4
  obtain ⟨_, hc_4⟩ := hO.cell hp_1 (by decide) (ci := 9) rfl
  refine th_calli (va_runV (As := [.int (I i)]) (rest := []) ⟨hx, hb, hml, hown, hts⟩ (t_childCount l G y b0 σ (ad E a 1) (tvE E σ (ad E a 1) 128) i (hO.isT2 hp_1) (show rng i from ri)) (cwV 1 hts gX0_orderOf_X9_childCount rfl rfl rfl (by decide +kernel) ⟨Nat.le_of_ble_eq_true rfl, Nat.le_of_ble_eq_true rfl⟩) (th_PV hK hH rfl hc_4) rfl rfl hl.1 rfl (lv_room (Nat.le_of_ble_eq_true rfl)) dX0_orderOf_5 ⟨Nat.le_of_ble_eq_true rfl, Nat.le_of_ble_eq_true rfl⟩) hS (fun z_7 σ_s_6 H locs rz_7 hw_5 hH hS => ?_)
  obtain ⟨e9, hw_5⟩ := hw_5
  replace e9 := e9.symm
  subst e9
  have hw_5 : 0 ≤ z_7 ∧ z_7 ≤ (gI σ (ad E a 1) 4) := hw_5
  refine lv_sipush (v := I 128) hx hb dX0_orderOf_8 (by decide) ?_
  refine va_mmin hx hb (by rw [hml]; exact hl.1.symm) hown fl1 fl2 fl3 fl4 (Nat.le_of_ble_eq_true rfl) (Nat.le_of_ble_eq_true rfl) (Nat.zero_le _) (Nat.zero_le _) dX0_orderOf_11 ?_
  refine th_mmin rz_7 (show rng 128 from ⟨by decide, by decide⟩) (fun z_8 rz_8 hz_8 => ?_)
  refine lv_istore_n (lv' := [(3, .int (I z_8)), (0, .ref a), (1, .int (I i)), (2, .int (I w))]) hx hb dX0_orderOf_14 rfl hl (by decide) rfl (fun ls hl => ?_)
  refine lv_iload_n hx hb dX0_orderOf_15 rfl (lv_at hl 2 rfl) ?_
  refine lv_iconst (v := I 1) hx hb dX0_orderOf_16 (by decide) ?_
  refine lv_iadd hx hb dX0_orderOf_17 ?_
  refine nq_top (I_add _ _) ?_
  refine lv_istore (lv' := [(4, .int (I (i + 1))), (3, .int (I z_8)), (0, .ref a), (1, .int (I i)), (2, .int (I w))]) hx hb dX0_orderOf_18 hl (by decide) rfl (fun ls hl => ?_)
  refine lv_iconst (v := I 0) hx hb dX0_orderOf_20 (by decide) ?_
  refine lv_istore (lv' := [(5, .int (I 0)), (4, .int (I (i + 1))), (3, .int (I z_8)), (0, .ref a), (1, .int (I i)), (2, .int (I w))]) hx hb dX0_orderOf_21 hl (by decide) rfl (fun ls hl => ?_)
  replace hl : lv_has ls 7 [(5, .int (I 0)), (4, .int (I (i + 1))), (3, .int (I z_8)), (0, .ref a), (2, .int (I w))] := lv_sub hl [0, 1, 2, 3, 5] rfl
  refine th_loop (α := Int × Int) (pc := 23) (fun x9 => (128 - x9.2).toNat) (fun x9 σ9 H9 l9 ls9 => ok y E σ9 ∧ fr [6] E σ σ9 ∧ th_H G b0 σ9 H9 ∧ va_S (th_A b0) s.heap H9 l9 ∧ lv_has ls9 7 [(0, .ref a), (2, .int (I w)), (3, .int (I z_8)), (4, .int (I x9.1)), (5, .int (I x9.2))] ∧ rng x9.1 ∧ rng x9.2 ∧ (0 ≤ x9.1) ∧ (x9.1 ≤ 200) ∧ (0 ≤ x9.2) ∧ (x9.2 ≤ 128) ∧ (gI σ9 (ad E a 1) 4 = z_2)) ?_ (i + 1, 0) σ _ _ _ ⟨hO, hF, hH, hS, lv_sub hl [3, 4, 2, 1, 0] rfl, ⟨by first | omega | (dsimp only; omega), by first | omega | (dsimp only; omega)⟩, (show rng 0 from ⟨by decide, by decide⟩), by first | omega | (dsimp only; omega), by first | omega | (dsimp only; omega), by first | omega | (dsimp only; omega), by first | omega | (dsimp only; omega), e_3⟩
  intro x9 σ_J_77 H locs ls hI9 ihJ_77
  obtain ⟨v4q76, v5q76⟩ := x9
  obtain ⟨hO, hF, hH, hS, hl, rv4q76, rv5q76, J_77_0, J_77_1, J_77_2, J_77_3, J_77_4⟩ := hI9
  have hl : lv_has ls 7 [(0, .ref a), (2, .int (I w)), (3, .int (I z_8)), (4, .int (I v4q76)), (5, .int (I v5q76))] := hl
  have rv4q76 : rng v4q76 := rv4q76
  have rv5q76 : rng v5q76 := rv5q76
  have J_77_0 : 0 ≤ v4q76 := J_77_0
  have J_77_1 : v4q76 ≤ 200 := J_77_1
  have J_77_2 : 0 ≤ v5q76 := J_77_2
  have J_77_3 : v5q76 ≤ 128 := J_77_3
  have J_77_4 : gI σ_J_77 (ad E a 1) 4 = z_2 := J_77_4
  refine lv_iload hx hb dX0_orderOf_23 (lv_at hl 4 rfl) ?_
  refine lv_iload_n hx hb dX0_orderOf_25 rfl (lv_at hl 2 rfl) ?_
  refine lv_icmp_ge (tgt := 110) hx hb dX0_orderOf_26 (by decide) (fun c_78 => ?_) (fun c_78 => ?_)
  · replace c_78 := (I_le (a := z_8) (b := v5q76) rz_8 rv5q76).mp c_78
    refine lv_iload_n hx hb dX0_orderOf_110 rfl (lv_at hl 2 rfl) ?_
    exact th_iret hx hb hr hlocks hH hS (z := z_8) rz_8 ⟨hO, hF, by omega⟩ dX0_orderOf_111
  · replace c_78 := mt (I_le (a := z_8) (b := v5q76) rz_8 rv5q76).mpr c_78
    refine lv_iload hx hb dX0_orderOf_29 (lv_at hl 4 rfl) ?_
    refine lv_istore (lv' := [(6, .int (I v5q76)), (0, .ref a), (2, .int (I w)), (3, .int (I z_8)), (4, .int (I v4q76)), (5, .int (I v5q76))]) hx hb dX0_orderOf_31 hl (by decide) rfl (fun ls hl => ?_)
    refine th_loop (α := Int) (pc := 33) (fun x9 => (x9).toNat) (fun x9 σ9 H9 l9 ls9 => ok y E σ9 ∧ fr [6] E σ σ9 ∧ th_H G b0 σ9 H9 ∧ va_S (th_A b0) s.heap H9 l9 ∧ lv_has ls9 7 [(0, .ref a), (2, .int (I w)), (3, .int (I z_8)), (4, .int (I v4q76)), (5, .int (I v5q76)), (6, .int (I x9))] ∧ rng x9 ∧ (0 ≤ x9) ∧ (x9 ≤ v5q76) ∧ (gI σ9 (ad E a 1) 4 = z_2)) ?_ (v5q76) σ_J_77 _ _ _ ⟨hO, hF, hH, hS, lv_sub hl [1, 2, 3, 4, 5, 0] rfl, rv5q76, by first | omega | (dsimp only; omega), by first | omega | (dsimp only; omega), J_77_4⟩
    intro x9 σ_J_80 H locs ls hI9 ihJ_80
    obtain ⟨v6q79, ex9⟩ : ∃ z, z = x9 := ⟨_, rfl⟩
    subst ex9
    obtain ⟨hO, hF, hH, hS, hl, rv6q79, J_80_0, J_80_1, J_80_2⟩ := hI9
    have hl : lv_has ls 7 [(0, .ref a), (2, .int (I w)), (3, .int (I z_8)), (4, .int (I v4q76)), (5, .int (I v5q76)), (6, .int (I v6q79))] := hl
    have rv6q79 : rng v6q79 := rv6q79
    have J_80_0 : 0 ≤ v6q79 := J_80_0
    have J_80_1 : v6q79 ≤ v5q76 := J_80_1
    have J_80_2 : gI σ_J_80 (ad E a 1) 4 = z_2 := J_80_2
    refine lv_iload_n hx hb dX0_orderOf_33 rfl (lv_at hl 1 rfl) ?_
    refine th_join (α := Unit) (J := 82) (stk := fun x9 => []) (fun x9 σ9 H9 l9 ls9 => σ9 = σ_J_80 ∧ th_H G b0 σ9 H9 ∧ va_S (th_A b0) s.heap H9 l9 ∧ lv_has ls9 7 [(0, .ref a), (2, .int (I w)), (3, .int (I z_8)), (4, .int (I v4q76)), (5, .int (I v5q76)), (6, .int (I v6q79))]) ?_ (fun jK_95 => ?_)
    · intro x9 σ_K_95 H locs ls hI9
      obtain ⟨eK_95, hH, hS, hl⟩ := hI9
      replace eK_95 := eK_95.symm
      subst eK_95
      have hl : lv_has ls 7 [(0, .ref a), (2, .int (I w)), (3, .int (I z_8)), (4, .int (I v4q76)), (5, .int (I v5q76)), (6, .int (I v6q79))] := hl
      refine lv_aload_n hx hb dX0_orderOf_82 rfl (lv_at hl 0 rfl) ?_
      refine ok.getR hO h_a (by decide) k6_3 (by decide) (fun _ _ he hv kk => th_get (ci := 0) (C := RX0) (T := TX0) (N := 4) hx hb hts inX0 hown hK hH he rfl 3 (by decide) fl5 hv dX0_orderOf_83 kk) ?_
      refine lv_iload hx hb dX0_orderOf_86 (lv_at hl 5 rfl) ?_
      refine lv_iload hx hb dX0_orderOf_88 (lv_at hl 3 rfl) ?_
      refine ok_iast hx hb hK hH hS h00 hO h_a (by decide) k6_3 isA9 rv6q79 (by omega) (by omega) rv4q76 (el9 (by omega) (by omega)) dX0_orderOf_90 (fun σ_s_96 H locs hO hF9 hi9 ha9 hH hS => ?_)
      replace hF := hF.tu hF9 (by decide)
      have e_97 : gI σ_s_96 (ad E a 1) 4 = z_2 := (hi9 _ _).trans J_80_2
      refine lv_aload_n hx hb dX0_orderOf_91 rfl (lv_at hl 0 rfl) ?_
      refine ok.getR hO h_a (by decide) k6_1 (by decide) (fun _ _ he hv kk => th_get (ci := 0) (C := RX0) (T := TX0) (N := 4) hx hb hts inX0 hown hK hH he rfl 1 (by decide) fl0 hv dX0_orderOf_92 kk) ?_
      refine lv_iload hx hb dX0_orderOf_95 (lv_at hl 3 rfl) ?_
      obtain ⟨_, hc_98⟩ := hO.cell hp_1 (by decide) (ci := 9) rfl
      refine th_calli (va_runV (As := [.int (I v4q76)]) (rest := []) ⟨hx, hb, hml, hown, hts⟩ (t_end l G y b0 σ_s_96 (ad E a 1) (tvE E σ_s_96 (ad E a 1) 128) v4q76 (hO.isT2 hp_1) (show rng v4q76 from rv4q76)) (cwV 1 hts gX0_orderOf_X9_end rfl rfl rfl (by decide +kernel) ⟨Nat.le_of_ble_eq_true rfl, Nat.le_of_ble_eq_true rfl⟩) (th_PV hK hH rfl hc_98) rfl rfl hl.1 rfl (lv_room (Nat.le_of_ble_eq_true rfl)) dX0_orderOf_97 ⟨Nat.le_of_ble_eq_true rfl, Nat.le_of_ble_eq_true rfl⟩) hS (fun z_101 σ_s_100 H locs rz_101 hw_99 hH hS => ?_)
      obtain ⟨e9, hw_99⟩ := hw_99
      replace e9 := e9.symm
      subst e9
      have hw_99 : ((0 ≤ v4q76 ∧ v4q76 < (gI σ_s_96 (ad E a 1) 4)) ∧ v4q76 ≤ z_101 ∧ z_101 < (gI σ_s_96 (ad E a 1) 4)) ∨ (z_101 = -1 ∧ ¬ (0 ≤ v4q76 ∧ v4q76 < (gI σ_s_96 (ad E a 1) 4))) := hw_99
      refine lv_iconst (v := I 1) hx hb dX0_orderOf_100 (by decide) ?_
      refine lv_iadd hx hb dX0_orderOf_101 ?_
      refine nq_top (I_add _ _) ?_
      refine lv_istore (lv' := [(4, .int (I (z_101 + 1))), (0, .ref a), (2, .int (I w)), (3, .int (I z_8)), (5, .int (I v5q76)), (6, .int (I v6q79))]) hx hb dX0_orderOf_102 hl (by decide) rfl (fun ls hl => ?_)
      refine lv_iinc (v := I (v5q76 + 1)) (lv' := [(5, .int (I (v5q76 + 1))), (4, .int (I (z_101 + 1))), (0, .ref a), (2, .int (I w)), (3, .int (I z_8)), (6, .int (I v6q79))]) hx hb dX0_orderOf_104 hl (k := 4) rfl (I_add _ _) (by decide) rfl (fun ls hl => ?_)
      refine lv_goto (tgt := 23) hx hb dX0_orderOf_107 (by decide) ?_
      replace hl : lv_has ls 7 [(5, .int (I (v5q76 + 1))), (4, .int (I (z_101 + 1))), (0, .ref a), (2, .int (I w)), (3, .int (I z_8))] := lv_sub hl [0, 1, 2, 3, 4] rfl
      exact ihJ_77 (z_101 + 1, v5q76 + 1) σ_s_96 _ _ _ (by first | omega | (dsimp only; omega)) ⟨hO, hF, hH, hS, lv_sub hl [2, 3, 4, 1, 0] rfl, ⟨by first | omega | (dsimp only; omega), by first | omega | (dsimp only; omega)⟩, ⟨by first | omega | (dsimp only; omega), by first | omega | (dsimp only; omega)⟩, by first | omega | (dsimp only; omega), by first | omega | (dsimp only; omega), by first | omega | (dsimp only; omega), by first | omega | (dsimp only; omega), e_97⟩
    · refine lv_if_eq (tgt := 82) hx hb dX0_orderOf_34 (by decide) (fun c_102 => ?_) (fun c_102 => ?_)
      · replace c_102 := (I_eq (a := w) (b := 0) rw (show rng 0 from ⟨by decide, by decide⟩)).mp c_102
        exact jK_95 () σ_J_80 _ _ _ ⟨rfl, hH, hS, lv_sub hl [0, 1, 2, 3, 4, 5] rfl⟩
      · replace c_102 := mt (I_eq (a := w) (b := 0) rw (show rng 0 from ⟨by decide, by decide⟩)).mpr c_102
        refine lv_iload hx hb dX0_orderOf_37 (lv_at hl 5 rfl) ?_
        refine lv_if_le (tgt := 82) hx hb dX0_orderOf_39 (by decide) (fun c_103 => ?_) (fun c_103 => ?_)
        · replace c_103 := (I_le (a := v6q79) (b := 0) rv6q79 (show rng 0 from ⟨by decide, by decide⟩)).mp c_103
          exact jK_95 () σ_J_80 _ _ _ ⟨rfl, hH, hS, lv_sub hl [0, 1, 2, 3, 4, 5] rfl⟩
        · replace c_103 := mt (I_le (a := v6q79) (b := 0) rv6q79 (show rng 0 from ⟨by decide, by decide⟩)).mpr c_103
          refine lv_aload_n hx hb dX0_orderOf_42 rfl (lv_at hl 0 rfl) ?_
          refine lv_aload_n hx hb dX0_orderOf_43 rfl (lv_at hl 0 rfl) ?_
          refine ok.getR hO h_a (by decide) k6_3 (by decide) (fun _ _ he hv kk => th_get (ci := 0) (C := RX0) (T := TX0) (N := 4) hx hb hts inX0 hown hK hH he rfl 3 (by decide) fl5 hv dX0_orderOf_44 kk) ?_
          refine lv_iload hx hb dX0_orderOf_47 (lv_at hl 5 rfl) ?_
          refine lv_iconst (v := I 1) hx hb dX0_orderOf_49 (by decide) ?_
          refine lv_isub hx hb dX0_orderOf_50 ?_
          refine th_subo (fun z_104 rz_104 hz_104 => ?_)
          refine ok_iald hx hb hK hH hO h_a (by decide) k6_3 isA9 rz_104 (by omega) (by omega) dX0_orderOf_51 (fun z_105 ez_105 rz_105 elx9 => ?_)
          have uz_105 := elx9.2.1 rfl
          refine lv_iload hx hb dX0_orderOf_52 (lv_at hl 3 rfl) ?_
          obtain ⟨_, hc_106⟩ := hO.cell h_a (by decide) (ci := 0) rfl
          refine th_calli (va_runV (As := [.int (I z_105), .int (I v4q76)]) (rest := []) ⟨hx, hb, hml, hown, hts⟩ (c_isBehind l G y b0 σ_J_80 E hO a h_a z_105 (show rng z_105 from rz_105) v4q76 (show rng v4q76 from rv4q76)) (cwV 2 hts gX0_orderOf_X0_isBehind rfl rfl rfl (by decide +kernel) ⟨Nat.le_of_ble_eq_true rfl, Nat.le_of_ble_eq_true rfl⟩) (th_PV hK hH rfl hc_106) rfl rfl hl.1 rfl (lv_room (Nat.le_of_ble_eq_true rfl)) dX0_orderOf_54 ⟨Nat.le_of_ble_eq_true rfl, Nat.le_of_ble_eq_true rfl⟩) hS (fun z_109 σ_s_108 H locs rz_109 hw_107 hH hS => ?_)
          obtain ⟨e9, bhw_107, hw_107⟩ := hw_107
          replace e9 := e9.symm
          subst e9
          refine lv_if_eq (tgt := 82) hx hb dX0_orderOf_57 (by decide) (fun c_110 => ?_) (fun c_110 => ?_)
          · replace c_110 := (I_eq (a := z_109) (b := 0) rz_109 (show rng 0 from ⟨by decide, by decide⟩)).mp c_110
            exact jK_95 () σ_J_80 _ _ _ ⟨rfl, hH, hS, lv_sub hl [0, 1, 2, 3, 4, 5] rfl⟩
          · replace c_110 := mt (I_eq (a := z_109) (b := 0) rz_109 (show rng 0 from ⟨by decide, by decide⟩)).mpr c_110
            refine lv_aload_n hx hb dX0_orderOf_60 rfl (lv_at hl 0 rfl) ?_
            refine ok.getR hO h_a (by decide) k6_3 (by decide) (fun _ _ he hv kk => th_get (ci := 0) (C := RX0) (T := TX0) (N := 4) hx hb hts inX0 hown hK hH he rfl 3 (by decide) fl5 hv dX0_orderOf_61 kk) ?_
            refine lv_iload hx hb dX0_orderOf_64 (lv_at hl 5 rfl) ?_
            refine lv_aload_n hx hb dX0_orderOf_66 rfl (lv_at hl 0 rfl) ?_
            refine ok.getR hO h_a (by decide) k6_3 (by decide) (fun _ _ he hv kk => th_get (ci := 0) (C := RX0) (T := TX0) (N := 4) hx hb hts inX0 hown hK hH he rfl 3 (by decide) fl5 hv dX0_orderOf_67 kk) ?_
            refine lv_iload hx hb dX0_orderOf_70 (lv_at hl 5 rfl) ?_
            refine lv_iconst (v := I 1) hx hb dX0_orderOf_72 (by decide) ?_
            refine lv_isub hx hb dX0_orderOf_73 ?_
            refine th_subo (fun z_111 rz_111 hz_111 => ?_)
            refine ok_iald hx hb hK hH hO h_a (by decide) k6_3 isA9 rz_111 (by omega) (by omega) dX0_orderOf_74 (fun z_112 ez_112 rz_112 elx9 => ?_)
            have uz_112 := elx9.2.1 rfl
            refine ok_iast hx hb hK hH hS h00 hO h_a (by decide) k6_3 isA9 rv6q79 (by omega) (by omega) rz_112 (el9 (by omega) (by omega)) dX0_orderOf_75 (fun σ_s_113 H locs hO hF9 hi9 ha9 hH hS => ?_)
            replace hF := hF.tu hF9 (by decide)
            have e_114 : gI σ_s_113 (ad E a 1) 4 = z_2 := (hi9 _ _).trans J_80_2
            refine lv_iinc (v := I (v6q79 + (-1))) (lv' := [(6, .int (I (v6q79 + (-1)))), (0, .ref a), (2, .int (I w)), (3, .int (I z_8)), (4, .int (I v4q76)), (5, .int (I v5q76))]) hx hb dX0_orderOf_76 hl (k := 5) rfl (I_add _ _) (by decide) rfl (fun ls hl => ?_)
            refine lv_goto (tgt := 33) hx hb dX0_orderOf_79 (by decide) ?_
            exact ihJ_80 (v6q79 + (-1)) σ_s_113 _ _ _ (by first | omega | (dsimp only; omega)) ⟨hO, hF, hH, hS, lv_sub hl [1, 2, 3, 4, 5, 0] rfl, ⟨by first | omega | (dsimp only; omega), by first | omega | (dsimp only; omega)⟩, by first | omega | (dsimp only; omega), by first | omega | (dsimp only; omega), e_114⟩

set_option maxHeartbeats 1000000 in
set_option maxRecDepth 100000 in
theorem c_rearrange (l : Launch) (G : va_G) (y : Nat → ClassId) (b0 : Nat) (σ : th_M) (E : th_E) (hO : ok y E σ) (a : Nat) (h_a : kd E a = 6) (i : Int) (ri : rng i) (l_i : -1 ≤ i) (u_i : i ≤ 60) (w : Int) (rw : rng w) (l_w : 0 ≤ w) (u_w : w ≤ 1) : Met l yX0_rearrange wsX0_rearrange ({ frames := 3, cells := 0, slots := 0, locals := 120 }) (th_P G y b0 σ [.ref a, .int (I i), .int (I w)]) (th_Qv G b0 (fun σ1 => ok y E σ1 ∧ fr [6, 2] E σ σ1 ∧ (True))) 0 0 (th_A b0) := by
  refine Met.ofW (cc := cX0_rearrange) (maxL := 6) (ret := none) (by decide) rfl ?_
  intro p e s m args below meth c s₁ B hml hv
  obtain ⟨rfl, hH, hK⟩ := hv
  have hx := B.exec
  have hb := B.bytes
  have hr := B.returns
  have hts := atoms_spec (ws := wsX0_rearrange) B.pre
  have hown : s.vm.findClass RX0 = some m.cls := findClass_of_methodNamed B.named
  have hlocks := B.notSynchronized
  have h00 : b0 ≤ s.heap.size := hH.1
  have hS : va_S (th_A b0) s.heap s.heap [] := va_S.rf
  have hF : fr [6, 2] E σ σ := fr.rf
  have inX0 : ∀ w ∈ wsX00, w ∈ wsX0_rearrange := by decide +kernel
  have inX9 : ∀ w ∈ wsX90, w ∈ wsX0_rearrange := by decide +kernel
  have fl0 := hts (.fieldLink RX0 20 "NestQuery$Acts" "moved" "LNestQuery$Tree;") (by decide +kernel)
  have fl1 := hts (.fieldLink RX0 14 "NestQuery$Acts" "work" "LNestQuery$Tree;") (by decide +kernel)
  have fl2 := hts (.fieldLink RX0 23 "NestQuery$Acts" "order" "[I") (by decide +kernel)
  have hl := lv_entry ([.ref a, .int (I i), .int (I w)]) (n := 6) (Nat.le_of_ble_eq_true rfl)
  rw [lg_entry_eq]
  generalize (lg_sl ([.ref a, .int (I i), .int (I w)]) ++ List.replicate (6 - (lg_sl ([.ref a, .int (I i), .int (I w)])).length) Slot.unset).toArray = ls at hl ⊢
  have hl : lv_has ls 6 [(0, .ref a), (1, .int (I i)), (2, .int (I w))] := hl
  refine lv_aload_n hx hb dX0_rearrange_0 rfl (lv_at hl 0 rfl) ?_
  refine lv_iload_n hx hb dX0_rearrange_1 rfl (lv_at hl 1 rfl) ?_
  refine lv_iload_n hx hb dX0_rearrange_2 rfl (lv_at hl 2 rfl) ?_
  obtain ⟨_, hc_1⟩ := hO.cell h_a (by decide) (ci := 0) rfl
  refine th_calli (va_runV (As := [.int (I i), .int (I w)]) (rest := []) ⟨hx, hb, hml, hown, hts⟩ (c_orderOf l G y b0 σ E hO a h_a i (show rng i from ri) (by omega) (by omega) w (show rng w from rw) (by omega) (by omega)) (cwV 2 hts gX0_rearrange_X0_orderOf rfl rfl rfl (by decide +kernel) ⟨Nat.le_of_ble_eq_true rfl, Nat.le_of_ble_eq_true rfl⟩) (th_PV hK hH rfl hc_1) rfl rfl hl.1 rfl (lv_room (Nat.le_of_ble_eq_true rfl)) dX0_rearrange_3 ⟨Nat.le_of_ble_eq_true rfl, Nat.le_of_ble_eq_true rfl⟩) hS (fun z_4 σ_s_3 H locs rz_4 hw_2 hH hS => ?_)
  obtain ⟨hO9, hF9, hw_2⟩ := hw_2
  replace hO := hO9
  replace hF := hF.tu hF9 (by decide)
  have hw_2 : 0 ≤ z_4 ∧ z_4 ≤ 128 := hw_2
  refine lv_istore_n (lv' := [(3, .int (I z_4)), (0, .ref a), (1, .int (I i)), (2, .int (I w))]) hx hb dX0_rearrange_6 rfl hl (by decide) rfl (fun ls hl => ?_)
  refine lv_aload_n hx hb dX0_rearrange_7 rfl (lv_at hl 1 rfl) ?_
  have hp_5 : kd E (ad E a 2) = 2 := ok.pk hO h_a (by decide) k6_2 rfl
  refine ok.getR hO h_a (by decide) k6_2 (by decide) (fun _ _ he hv kk => th_get (ci := 0) (C := RX0) (T := TX0) (N := 4) hx hb hts inX0 hown hK hH he rfl 2 (by decide) fl0 hv dX0_rearrange_8 kk) ?_
  obtain ⟨_, hc_6⟩ := hO.cell hp_5 (by decide) (ci := 9) rfl
  refine th_callv (va_runV (As := []) (rest := []) ⟨hx, hb, hml, hown, hts⟩ (tw2_clear l G y b0 σ_s_3 E hO (ad E a 2) hp_5) (cwV 0 hts gX0_rearrange_X9_clear rfl rfl rfl (by decide +kernel) ⟨Nat.le_of_ble_eq_true rfl, Nat.le_of_ble_eq_true rfl⟩) (th_PV hK hH rfl hc_6) rfl rfl hl.1 rfl (lv_room (Nat.le_of_ble_eq_true rfl)) dX0_rearrange_11 ⟨Nat.le_of_ble_eq_true rfl, Nat.le_of_ble_eq_true rfl⟩) hS (fun σ_s_8 H locs hw_7 hH hS => ?_)
  obtain ⟨hO9, hF9, hw_7⟩ := hw_7
  replace hO := hO9
  replace hF := hF.tu hF9 (by decide)
  have hw_7 : gI σ_s_8 (ad E a 2) 4 = 0 := hw_7
  refine lv_iconst (v := I 0) hx hb dX0_rearrange_14 (by decide) ?_
  refine lv_istore (lv' := [(4, .int (I 0)), (3, .int (I z_4)), (0, .ref a), (1, .int (I i)), (2, .int (I w))]) hx hb dX0_rearrange_15 hl (by decide) rfl (fun ls hl => ?_)
  refine th_loop (α := Int) (pc := 17) (fun x9 => (128 - x9).toNat) (fun x9 σ9 H9 l9 ls9 => ok y E σ9 ∧ fr [6, 2] E σ σ9 ∧ th_H G b0 σ9 H9 ∧ va_S (th_A b0) s.heap H9 l9 ∧ lv_has ls9 6 [(0, .ref a), (1, .int (I i)), (2, .int (I w)), (3, .int (I z_4)), (4, .int (I x9))] ∧ rng x9 ∧ (0 ≤ x9) ∧ (x9 ≤ 128)) ?_ (0) σ_s_8 _ _ _ ⟨hO, hF, hH, hS, lv_sub hl [2, 3, 4, 1, 0] rfl, (show rng 0 from ⟨by decide, by decide⟩), by first | omega | (dsimp only; omega), by first | omega | (dsimp only; omega)⟩
  intro x9 σ_J_50 H locs ls hI9 ihJ_50
  obtain ⟨v4q49, ex9⟩ : ∃ z, z = x9 := ⟨_, rfl⟩
  subst ex9
  obtain ⟨hO, hF, hH, hS, hl, rv4q49, J_50_0, J_50_1⟩ := hI9
  have hl : lv_has ls 6 [(0, .ref a), (1, .int (I i)), (2, .int (I w)), (3, .int (I z_4)), (4, .int (I v4q49))] := hl
  have rv4q49 : rng v4q49 := rv4q49
  have J_50_0 : 0 ≤ v4q49 := J_50_0
  have J_50_1 : v4q49 ≤ 128 := J_50_1
  refine lv_iload hx hb dX0_rearrange_17 (lv_at hl 4 rfl) ?_
  refine lv_iload_n hx hb dX0_rearrange_19 rfl (lv_at hl 3 rfl) ?_
  refine lv_icmp_ge (tgt := 98) hx hb dX0_rearrange_20 (by decide) (fun c_51 => ?_) (fun c_51 => ?_)
  · replace c_51 := (I_le (a := z_4) (b := v4q49) rz_4 rv4q49).mp c_51
    refine lv_aload_n hx hb dX0_rearrange_98 rfl (lv_at hl 0 rfl) ?_
    have hp_52 : kd E (ad E a 1) = 2 := ok.pk hO h_a (by decide) k6_1 rfl
    refine ok.getR hO h_a (by decide) k6_1 (by decide) (fun _ _ he hv kk => th_get (ci := 0) (C := RX0) (T := TX0) (N := 4) hx hb hts inX0 hown hK hH he rfl 1 (by decide) fl1 hv dX0_rearrange_99 kk) ?_
    refine lv_iload_n hx hb dX0_rearrange_102 rfl (lv_at hl 1 rfl) ?_
    refine lv_iconst (v := I 1) hx hb dX0_rearrange_103 (by decide) ?_
    refine lv_iadd hx hb dX0_rearrange_104 ?_
    refine nq_top (I_add _ _) ?_
    refine lv_aload_n hx hb dX0_rearrange_105 rfl (lv_at hl 0 rfl) ?_
    refine ok.getR hO h_a (by decide) k6_2 (by decide) (fun _ _ he hv kk => th_get (ci := 0) (C := RX0) (T := TX0) (N := 4) hx hb hts inX0 hown hK hH he rfl 2 (by decide) fl0 hv dX0_rearrange_106 kk) ?_
    obtain ⟨_, hc_53⟩ := hO.cell hp_52 (by decide) (ci := 9) rfl
    refine th_callv (va_runV (As := [.int (I (i + 1)), .ref (ad E a 2)]) (rest := []) ⟨hx, hb, hml, hown, hts⟩ (t22_overlay l G y b0 σ_J_50 E hO (ad E a 1) hp_52 (i + 1) (show rng (i + 1) from ⟨by omega, by omega⟩) (by omega) (by omega) (ad E a 2) hp_5) (cwV 2 hts gX0_rearrange_X9_overlay rfl rfl rfl (by decide +kernel) ⟨Nat.le_of_ble_eq_true rfl, Nat.le_of_ble_eq_true rfl⟩) (th_PV hK hH rfl hc_53) rfl rfl hl.1 rfl (lv_room (Nat.le_of_ble_eq_true rfl)) dX0_rearrange_109 ⟨Nat.le_of_ble_eq_true rfl, Nat.le_of_ble_eq_true rfl⟩) hS (fun σ_s_55 H locs hw_54 hH hS => ?_)
    obtain ⟨hO9, hF9, hw_54⟩ := hw_54
    replace hO := hO9
    replace hF := hF.tu hF9 (by decide)
    exact th_vret hx hb hr hlocks hH hS ⟨hO, hF, trivial⟩ dX0_rearrange_112
  · replace c_51 := mt (I_le (a := z_4) (b := v4q49) rz_4 rv4q49).mpr c_51
    refine lv_iload hx hb dX0_rearrange_23 (lv_at hl 4 rfl) ?_
    refine lv_sipush (v := I 128) hx hb dX0_rearrange_25 (by decide) ?_
    refine lv_icmp_ge (tgt := 98) hx hb dX0_rearrange_28 (by decide) (fun c_56 => ?_) (fun c_56 => ?_)
    · replace c_56 := (I_le (a := 128) (b := v4q49) (show rng 128 from ⟨by decide, by decide⟩) rv4q49).mp c_56
      refine lv_aload_n hx hb dX0_rearrange_98 rfl (lv_at hl 0 rfl) ?_
      have hp_57 : kd E (ad E a 1) = 2 := ok.pk hO h_a (by decide) k6_1 rfl
      refine ok.getR hO h_a (by decide) k6_1 (by decide) (fun _ _ he hv kk => th_get (ci := 0) (C := RX0) (T := TX0) (N := 4) hx hb hts inX0 hown hK hH he rfl 1 (by decide) fl1 hv dX0_rearrange_99 kk) ?_
      refine lv_iload_n hx hb dX0_rearrange_102 rfl (lv_at hl 1 rfl) ?_
      refine lv_iconst (v := I 1) hx hb dX0_rearrange_103 (by decide) ?_
      refine lv_iadd hx hb dX0_rearrange_104 ?_
      refine nq_top (I_add _ _) ?_
      refine lv_aload_n hx hb dX0_rearrange_105 rfl (lv_at hl 0 rfl) ?_
      refine ok.getR hO h_a (by decide) k6_2 (by decide) (fun _ _ he hv kk => th_get (ci := 0) (C := RX0) (T := TX0) (N := 4) hx hb hts inX0 hown hK hH he rfl 2 (by decide) fl0 hv dX0_rearrange_106 kk) ?_
      obtain ⟨_, hc_58⟩ := hO.cell hp_57 (by decide) (ci := 9) rfl
      refine th_callv (va_runV (As := [.int (I (i + 1)), .ref (ad E a 2)]) (rest := []) ⟨hx, hb, hml, hown, hts⟩ (t22_overlay l G y b0 σ_J_50 E hO (ad E a 1) hp_57 (i + 1) (show rng (i + 1) from ⟨by omega, by omega⟩) (by omega) (by omega) (ad E a 2) hp_5) (cwV 2 hts gX0_rearrange_X9_overlay rfl rfl rfl (by decide +kernel) ⟨Nat.le_of_ble_eq_true rfl, Nat.le_of_ble_eq_true rfl⟩) (th_PV hK hH rfl hc_58) rfl rfl hl.1 rfl (lv_room (Nat.le_of_ble_eq_true rfl)) dX0_rearrange_109 ⟨Nat.le_of_ble_eq_true rfl, Nat.le_of_ble_eq_true rfl⟩) hS (fun σ_s_60 H locs hw_59 hH hS => ?_)
      obtain ⟨hO9, hF9, hw_59⟩ := hw_59
      replace hO := hO9
      replace hF := hF.tu hF9 (by decide)
      exact th_vret hx hb hr hlocks hH hS ⟨hO, hF, trivial⟩ dX0_rearrange_112
    · replace c_56 := mt (I_le (a := 128) (b := v4q49) (show rng 128 from ⟨by decide, by decide⟩) rv4q49).mpr c_56
      refine lv_aload_n hx hb dX0_rearrange_31 rfl (lv_at hl 0 rfl) ?_
      refine ok.getR hO h_a (by decide) k6_3 (by decide) (fun _ _ he hv kk => th_get (ci := 0) (C := RX0) (T := TX0) (N := 4) hx hb hts inX0 hown hK hH he rfl 3 (by decide) fl2 hv dX0_rearrange_32 kk) ?_
      refine lv_iload_n hx hb dX0_rearrange_35 rfl (lv_at hl 2 rfl) ?_
      refine lv_if_eq (tgt := 44) hx hb dX0_rearrange_36 (by decide) (fun c_61 => ?_) (fun c_61 => ?_)
      · replace c_61 := (I_eq (a := w) (b := 0) rw (show rng 0 from ⟨by decide, by decide⟩)).mp c_61
        refine lv_iload_n hx hb dX0_rearrange_44 rfl (lv_at hl 3 rfl) ?_
        refine lv_iconst (v := I 1) hx hb dX0_rearrange_45 (by decide) ?_
        refine lv_isub hx hb dX0_rearrange_46 ?_
        refine nq_top (I_sub _ _) ?_
        refine lv_iload hx hb dX0_rearrange_47 (lv_at hl 4 rfl) ?_
        refine lv_isub hx hb dX0_rearrange_49 ?_
        refine nq_top (I_sub _ _) ?_
        refine ok_iald hx hb hK hH hO h_a (by decide) k6_3 isA9 ⟨by omega, by omega⟩ (by omega) (by omega) dX0_rearrange_50 (fun z_62 ez_62 rz_62 el9 => ?_)
        have uz_62 := el9.2.1 rfl
        refine lv_istore (lv' := [(5, .int (I z_62)), (0, .ref a), (1, .int (I i)), (2, .int (I w)), (3, .int (I z_4)), (4, .int (I v4q49))]) hx hb dX0_rearrange_51 hl (by decide) rfl (fun ls hl => ?_)
        refine lv_aload_n hx hb dX0_rearrange_53 rfl (lv_at hl 1 rfl) ?_
        refine ok.getR hO h_a (by decide) k6_2 (by decide) (fun _ _ he hv kk => th_get (ci := 0) (C := RX0) (T := TX0) (N := 4) hx hb hts inX0 hown hK hH he rfl 2 (by decide) fl0 hv dX0_rearrange_54 kk) ?_
        refine lv_aload_n hx hb dX0_rearrange_57 rfl (lv_at hl 1 rfl) ?_
        refine ok.getR hO h_a (by decide) k6_2 (by decide) (fun _ _ he hv kk => th_get (ci := 0) (C := RX0) (T := TX0) (N := 4) hx hb hts inX0 hown hK hH he rfl 2 (by decide) fl0 hv dX0_rearrange_58 kk) ?_
        refine ok.getI hO hp_5 (by decide) k2_4 (fun _ _ he hv kk => th_getN (ci := 9) (C := RX9) (T := TX9) (N := 5) hx hb hts inX9 hown hK hH he rfl 4 (by decide) (nl_9 hK) hv dX0_rearrange_61 kk) (fun z_63 e_64 rz_63 lz_63 uz_63 => ?_)
        refine lv_aload_n hx hb dX0_rearrange_64 rfl (lv_at hl 1 rfl) ?_
        have hp_65 : kd E (ad E a 1) = 2 := ok.pk hO h_a (by decide) k6_1 rfl
        refine ok.getR hO h_a (by decide) k6_1 (by decide) (fun _ _ he hv kk => th_get (ci := 0) (C := RX0) (T := TX0) (N := 4) hx hb hts inX0 hown hK hH he rfl 1 (by decide) fl1 hv dX0_rearrange_65 kk) ?_
        refine lv_iload hx hb dX0_rearrange_68 (lv_at hl 0 rfl) ?_
        obtain ⟨z_66, e_67, rz_66, lz_66, uz_66⟩ := hO.gi hp_65 (by decide) k2_4
        obtain ⟨_, hc_68⟩ := hO.cell hp_65 (by decide) (ci := 9) rfl
        refine th_calli (va_runV (As := [.int (I z_62)]) (rest := [.int (I z_63), .ref (ad E a 2)]) ⟨hx, hb, hml, hown, hts⟩ (t_depthAt l G y b0 σ_J_50 (ad E a 1) (tvE E σ_J_50 (ad E a 1) 128) z_62 (hO.isT2 hp_65) (show rng z_62 from rz_62)) (cwV 1 hts gX0_rearrange_X9_depthAt rfl rfl rfl (by decide +kernel) ⟨Nat.le_of_ble_eq_true rfl, Nat.le_of_ble_eq_true rfl⟩) (th_PV hK hH rfl hc_68) rfl rfl hl.1 rfl (lv_room (Nat.le_of_ble_eq_true rfl)) dX0_rearrange_70 ⟨Nat.le_of_ble_eq_true rfl, Nat.le_of_ble_eq_true rfl⟩) hS (fun z_71 σ_s_70 H locs rz_71 hw_69 hH hS => ?_)
        obtain ⟨e9, hw_69⟩ := hw_69
        replace e9 := e9.symm
        subst e9
        have hw_69 : ((0 ≤ z_62 ∧ z_62 < (gI σ_J_50 (ad E a 1) 4)) ∧ z_71 = ((aF σ_J_50 (ad E (ad E a 1) 3)) z_62.toNat).toInt) ∨ (z_71 = -1 ∧ ¬ (0 ≤ z_62 ∧ z_62 < (gI σ_J_50 (ad E a 1) 4))) := hw_69
        refine lv_aload_n hx hb dX0_rearrange_73 rfl (lv_at hl 1 rfl) ?_
        refine ok.getR hO h_a (by decide) k6_1 (by decide) (fun _ _ he hv kk => th_get (ci := 0) (C := RX0) (T := TX0) (N := 4) hx hb hts inX0 hown hK hH he rfl 1 (by decide) fl1 hv dX0_rearrange_74 kk) ?_
        refine lv_iload hx hb dX0_rearrange_77 (lv_at hl 0 rfl) ?_
        obtain ⟨_, hc_72⟩ := hO.cell hp_65 (by decide) (ci := 9) rfl
        refine th_calli (va_runV (As := [.int (I z_62)]) (rest := [.int (I z_71), .int (I z_63), .ref (ad E a 2)]) ⟨hx, hb, hml, hown, hts⟩ (t_keyAt l G y b0 σ_J_50 (ad E a 1) (tvE E σ_J_50 (ad E a 1) 128) z_62 (hO.isT2 hp_65) (show rng z_62 from rz_62)) (cwV 1 hts gX0_rearrange_X9_keyAt rfl rfl rfl (by decide +kernel) ⟨Nat.le_of_ble_eq_true rfl, Nat.le_of_ble_eq_true rfl⟩) (th_PV hK hH rfl hc_72) rfl rfl hl.1 rfl (lv_room (Nat.le_of_ble_eq_true rfl)) dX0_rearrange_79 ⟨Nat.le_of_ble_eq_true rfl, Nat.le_of_ble_eq_true rfl⟩) hS (fun z_75 σ_s_74 H locs rz_75 hw_73 hH hS => ?_)
        obtain ⟨e9, hw_73⟩ := hw_73
        replace e9 := e9.symm
        subst e9
        refine lv_aload_n hx hb dX0_rearrange_82 rfl (lv_at hl 1 rfl) ?_
        refine ok.getR hO h_a (by decide) k6_1 (by decide) (fun _ _ he hv kk => th_get (ci := 0) (C := RX0) (T := TX0) (N := 4) hx hb hts inX0 hown hK hH he rfl 1 (by decide) fl1 hv dX0_rearrange_83 kk) ?_
        refine lv_iload hx hb dX0_rearrange_86 (lv_at hl 0 rfl) ?_
        obtain ⟨_, hc_76⟩ := hO.cell hp_5 (by decide) (ci := 9) rfl
        refine th_calli (va_runV (As := [.int (I z_63), .int (I z_71), .int (I z_75), .ref (ad E a 1), .int (I z_62)]) (rest := []) ⟨hx, hb, hml, hown, hts⟩ (t22_graft l G y b0 σ_J_50 E hO (ad E a 2) hp_5 z_63 (show rng z_63 from rz_63) (by omega) (by omega) z_71 (show rng z_71 from rz_71) z_75 (show rng z_75 from rz_75) (ad E a 1) hp_65 z_62 (show rng z_62 from rz_62) (by omega) (by omega)) (cwV 5 hts gX0_rearrange_X9_graft rfl rfl rfl (by decide +kernel) ⟨Nat.le_of_ble_eq_true rfl, Nat.le_of_ble_eq_true rfl⟩) (th_PV hK hH rfl hc_76) rfl rfl hl.1 rfl (lv_room (Nat.le_of_ble_eq_true rfl)) dX0_rearrange_88 ⟨Nat.le_of_ble_eq_true rfl, Nat.le_of_ble_eq_true rfl⟩) hS (fun z_79 σ_s_78 H locs rz_79 hw_77 hH hS => ?_)
        obtain ⟨hO9, hF9, bhw_77, hw_77⟩ := hw_77
        replace hO := hO9
        replace hF := hF.tu hF9 (by decide)
        refine lv_pop hx hb dX0_rearrange_91 rfl ?_
        refine lv_iinc (v := I (v4q49 + 1)) (lv' := [(4, .int (I (v4q49 + 1))), (5, .int (I z_62)), (0, .ref a), (1, .int (I i)), (2, .int (I w)), (3, .int (I z_4))]) hx hb dX0_rearrange_92 hl (k := 5) rfl (I_add _ _) (by decide) rfl (fun ls hl => ?_)
        refine lv_goto (tgt := 17) hx hb dX0_rearrange_95 (by decide) ?_
        replace hl : lv_has ls 6 [(4, .int (I (v4q49 + 1))), (0, .ref a), (1, .int (I i)), (2, .int (I w)), (3, .int (I z_4))] := lv_sub hl [0, 2, 3, 4, 5] rfl
        exact ihJ_50 (v4q49 + 1) σ_s_78 _ _ _ (by first | omega | (dsimp only; omega)) ⟨hO, hF, hH, hS, lv_sub hl [1, 2, 3, 4, 0] rfl, ⟨by first | omega | (dsimp only; omega), by first | omega | (dsimp only; omega)⟩, by first | omega | (dsimp only; omega), by first | omega | (dsimp only; omega)⟩
      · replace c_61 := mt (I_eq (a := w) (b := 0) rw (show rng 0 from ⟨by decide, by decide⟩)).mpr c_61
        refine lv_iload hx hb dX0_rearrange_39 (lv_at hl 4 rfl) ?_
        refine lv_goto (tgt := 50) hx hb dX0_rearrange_41 (by decide) ?_
        refine ok_iald hx hb hK hH hO h_a (by decide) k6_3 isA9 rv4q49 (by omega) (by omega) dX0_rearrange_50 (fun z_80 ez_80 rz_80 el9 => ?_)
        have uz_80 := el9.2.1 rfl
        refine lv_istore (lv' := [(5, .int (I z_80)), (0, .ref a), (1, .int (I i)), (2, .int (I w)), (3, .int (I z_4)), (4, .int (I v4q49))]) hx hb dX0_rearrange_51 hl (by decide) rfl (fun ls hl => ?_)
        refine lv_aload_n hx hb dX0_rearrange_53 rfl (lv_at hl 1 rfl) ?_
        refine ok.getR hO h_a (by decide) k6_2 (by decide) (fun _ _ he hv kk => th_get (ci := 0) (C := RX0) (T := TX0) (N := 4) hx hb hts inX0 hown hK hH he rfl 2 (by decide) fl0 hv dX0_rearrange_54 kk) ?_
        refine lv_aload_n hx hb dX0_rearrange_57 rfl (lv_at hl 1 rfl) ?_
        refine ok.getR hO h_a (by decide) k6_2 (by decide) (fun _ _ he hv kk => th_get (ci := 0) (C := RX0) (T := TX0) (N := 4) hx hb hts inX0 hown hK hH he rfl 2 (by decide) fl0 hv dX0_rearrange_58 kk) ?_
        refine ok.getI hO hp_5 (by decide) k2_4 (fun _ _ he hv kk => th_getN (ci := 9) (C := RX9) (T := TX9) (N := 5) hx hb hts inX9 hown hK hH he rfl 4 (by decide) (nl_9 hK) hv dX0_rearrange_61 kk) (fun z_81 e_82 rz_81 lz_81 uz_81 => ?_)
        refine lv_aload_n hx hb dX0_rearrange_64 rfl (lv_at hl 1 rfl) ?_
        have hp_83 : kd E (ad E a 1) = 2 := ok.pk hO h_a (by decide) k6_1 rfl
        refine ok.getR hO h_a (by decide) k6_1 (by decide) (fun _ _ he hv kk => th_get (ci := 0) (C := RX0) (T := TX0) (N := 4) hx hb hts inX0 hown hK hH he rfl 1 (by decide) fl1 hv dX0_rearrange_65 kk) ?_
        refine lv_iload hx hb dX0_rearrange_68 (lv_at hl 0 rfl) ?_
        obtain ⟨z_84, e_85, rz_84, lz_84, uz_84⟩ := hO.gi hp_83 (by decide) k2_4
        obtain ⟨_, hc_86⟩ := hO.cell hp_83 (by decide) (ci := 9) rfl
        refine th_calli (va_runV (As := [.int (I z_80)]) (rest := [.int (I z_81), .ref (ad E a 2)]) ⟨hx, hb, hml, hown, hts⟩ (t_depthAt l G y b0 σ_J_50 (ad E a 1) (tvE E σ_J_50 (ad E a 1) 128) z_80 (hO.isT2 hp_83) (show rng z_80 from rz_80)) (cwV 1 hts gX0_rearrange_X9_depthAt rfl rfl rfl (by decide +kernel) ⟨Nat.le_of_ble_eq_true rfl, Nat.le_of_ble_eq_true rfl⟩) (th_PV hK hH rfl hc_86) rfl rfl hl.1 rfl (lv_room (Nat.le_of_ble_eq_true rfl)) dX0_rearrange_70 ⟨Nat.le_of_ble_eq_true rfl, Nat.le_of_ble_eq_true rfl⟩) hS (fun z_89 σ_s_88 H locs rz_89 hw_87 hH hS => ?_)
        obtain ⟨e9, hw_87⟩ := hw_87
        replace e9 := e9.symm
        subst e9
        have hw_87 : ((0 ≤ z_80 ∧ z_80 < (gI σ_J_50 (ad E a 1) 4)) ∧ z_89 = ((aF σ_J_50 (ad E (ad E a 1) 3)) z_80.toNat).toInt) ∨ (z_89 = -1 ∧ ¬ (0 ≤ z_80 ∧ z_80 < (gI σ_J_50 (ad E a 1) 4))) := hw_87
        refine lv_aload_n hx hb dX0_rearrange_73 rfl (lv_at hl 1 rfl) ?_
        refine ok.getR hO h_a (by decide) k6_1 (by decide) (fun _ _ he hv kk => th_get (ci := 0) (C := RX0) (T := TX0) (N := 4) hx hb hts inX0 hown hK hH he rfl 1 (by decide) fl1 hv dX0_rearrange_74 kk) ?_
        refine lv_iload hx hb dX0_rearrange_77 (lv_at hl 0 rfl) ?_
        obtain ⟨_, hc_90⟩ := hO.cell hp_83 (by decide) (ci := 9) rfl
        refine th_calli (va_runV (As := [.int (I z_80)]) (rest := [.int (I z_89), .int (I z_81), .ref (ad E a 2)]) ⟨hx, hb, hml, hown, hts⟩ (t_keyAt l G y b0 σ_J_50 (ad E a 1) (tvE E σ_J_50 (ad E a 1) 128) z_80 (hO.isT2 hp_83) (show rng z_80 from rz_80)) (cwV 1 hts gX0_rearrange_X9_keyAt rfl rfl rfl (by decide +kernel) ⟨Nat.le_of_ble_eq_true rfl, Nat.le_of_ble_eq_true rfl⟩) (th_PV hK hH rfl hc_90) rfl rfl hl.1 rfl (lv_room (Nat.le_of_ble_eq_true rfl)) dX0_rearrange_79 ⟨Nat.le_of_ble_eq_true rfl, Nat.le_of_ble_eq_true rfl⟩) hS (fun z_93 σ_s_92 H locs rz_93 hw_91 hH hS => ?_)
        obtain ⟨e9, hw_91⟩ := hw_91
        replace e9 := e9.symm
        subst e9
        refine lv_aload_n hx hb dX0_rearrange_82 rfl (lv_at hl 1 rfl) ?_
        refine ok.getR hO h_a (by decide) k6_1 (by decide) (fun _ _ he hv kk => th_get (ci := 0) (C := RX0) (T := TX0) (N := 4) hx hb hts inX0 hown hK hH he rfl 1 (by decide) fl1 hv dX0_rearrange_83 kk) ?_
        refine lv_iload hx hb dX0_rearrange_86 (lv_at hl 0 rfl) ?_
        obtain ⟨_, hc_94⟩ := hO.cell hp_5 (by decide) (ci := 9) rfl
        refine th_calli (va_runV (As := [.int (I z_81), .int (I z_89), .int (I z_93), .ref (ad E a 1), .int (I z_80)]) (rest := []) ⟨hx, hb, hml, hown, hts⟩ (t22_graft l G y b0 σ_J_50 E hO (ad E a 2) hp_5 z_81 (show rng z_81 from rz_81) (by omega) (by omega) z_89 (show rng z_89 from rz_89) z_93 (show rng z_93 from rz_93) (ad E a 1) hp_83 z_80 (show rng z_80 from rz_80) (by omega) (by omega)) (cwV 5 hts gX0_rearrange_X9_graft rfl rfl rfl (by decide +kernel) ⟨Nat.le_of_ble_eq_true rfl, Nat.le_of_ble_eq_true rfl⟩) (th_PV hK hH rfl hc_94) rfl rfl hl.1 rfl (lv_room (Nat.le_of_ble_eq_true rfl)) dX0_rearrange_88 ⟨Nat.le_of_ble_eq_true rfl, Nat.le_of_ble_eq_true rfl⟩) hS (fun z_97 σ_s_96 H locs rz_97 hw_95 hH hS => ?_)
        obtain ⟨hO9, hF9, bhw_95, hw_95⟩ := hw_95
        replace hO := hO9
        replace hF := hF.tu hF9 (by decide)
        refine lv_pop hx hb dX0_rearrange_91 rfl ?_
        refine lv_iinc (v := I (v4q49 + 1)) (lv' := [(4, .int (I (v4q49 + 1))), (5, .int (I z_80)), (0, .ref a), (1, .int (I i)), (2, .int (I w)), (3, .int (I z_4))]) hx hb dX0_rearrange_92 hl (k := 5) rfl (I_add _ _) (by decide) rfl (fun ls hl => ?_)
        refine lv_goto (tgt := 17) hx hb dX0_rearrange_95 (by decide) ?_
        replace hl : lv_has ls 6 [(4, .int (I (v4q49 + 1))), (0, .ref a), (1, .int (I i)), (2, .int (I w)), (3, .int (I z_4))] := lv_sub hl [0, 2, 3, 4, 5] rfl
        exact ihJ_50 (v4q49 + 1) σ_s_96 _ _ _ (by first | omega | (dsimp only; omega)) ⟨hO, hF, hH, hS, lv_sub hl [1, 2, 3, 4, 0] rfl, ⟨by first | omega | (dsimp only; omega), by first | omega | (dsimp only; omega)⟩, by first | omega | (dsimp only; omega), by first | omega | (dsimp only; omega)⟩

set_option maxHeartbeats 1000000 in
set_option maxRecDepth 100000 in
theorem c_takes (l : Launch) (G : va_G) (y : Nat → ClassId) (b0 : Nat) (σ : th_M) (E : th_E) (hO : ok y E σ) (a : Nat) (h_a : kd E a = 6) (i : Int) (ri : rng i) (ky : Int) (rky : rng ky) : Met l yX0_takesBehindAll wsX0_takesBehindAll ({ frames := 1, cells := 0, slots := 0, locals := 27 }) (th_P G y b0 σ [.ref a, .int (I i), .int (I ky)]) (th_Qi G b0 (fun r σ1 => σ1 = σ ∧ (0 ≤ r ∧ r ≤ 1) ∧ (True))) 0 0 (th_A b0) := by
  refine Met.ofW (cc := cX0_takesBehindAll) (maxL := 3) (ret := (some .boolean)) (by decide) rfl ?_
  intro p e s m args below meth c s₁ B hml hv
  obtain ⟨rfl, hH, hK⟩ := hv
  have hx := B.exec
  have hb := B.bytes
  have hr := B.returns
  have hts := atoms_spec (ws := wsX0_takesBehindAll) B.pre
  have hown : s.vm.findClass RX0 = some m.cls := findClass_of_methodNamed B.named
  have hlocks := B.notSynchronized
  have h00 : b0 ≤ s.heap.size := hH.1
  have hS : va_S (th_A b0) s.heap s.heap [] := va_S.rf
  have inX0 : ∀ w ∈ wsX00, w ∈ wsX0_takesBehindAll := by decide +kernel
  have inX6 : ∀ w ∈ wsX60, w ∈ wsX0_takesBehindAll := by decide +kernel
  have fl0 := hts (.fieldLink RX0 27 "NestQuery$Acts" "now" "LNestQuery$State;") (by decide +kernel)
  have fl1 := hts (.initialized RX10) (by decide +kernel)
  have fl2 := hts (.static yX10_isWord) (by decide +kernel)
  have hl := lv_entry ([.ref a, .int (I i), .int (I ky)]) (n := 3) (Nat.le_of_ble_eq_true rfl)
  rw [lg_entry_eq]
  generalize (lg_sl ([.ref a, .int (I i), .int (I ky)]) ++ List.replicate (3 - (lg_sl ([.ref a, .int (I i), .int (I ky)])).length) Slot.unset).toArray = ls at hl ⊢
  have hl : lv_has ls 3 [(0, .ref a), (1, .int (I i)), (2, .int (I ky))] := hl
  refine lv_aload_n hx hb dX0_takesBehindAll_0 rfl (lv_at hl 0 rfl) ?_
  have hp_1 : kd E (ad E a 0) = 5 := ok.pk hO h_a (by decide) k6_0 rfl
  refine ok.getR hO h_a (by decide) k6_0 (by decide) (fun _ _ he hv kk => th_get (ci := 0) (C := RX0) (T := TX0) (N := 4) hx hb hts inX0 hown hK hH he rfl 0 (by decide) fl0 hv dX0_takesBehindAll_1 kk) ?_
  have hp_2 : kd E (ad E (ad E a 0) 0) = 1 := ok.pk hO hp_1 (by decide) k5_0 rfl
  refine ok.getR hO hp_1 (by decide) k5_0 (by decide) (fun _ _ he hv kk => th_getN (ci := 6) (C := RX6) (T := TX6) (N := 7) hx hb hts inX6 hown hK hH he rfl 0 (by decide) (nl_14 hK) hv dX0_takesBehindAll_4 kk) ?_
  refine lv_iload_n hx hb dX0_takesBehindAll_7 rfl (lv_at hl 1 rfl) ?_
  obtain ⟨z_3, e_4, rz_3, lz_3, uz_3⟩ := hO.gi hp_2 (by decide) k1_4
  obtain ⟨_, hc_5⟩ := hO.cell hp_2 (by decide) (ci := 9) rfl
  refine th_calli (va_runV (As := [.int (I i)]) (rest := []) ⟨hx, hb, hml, hown, hts⟩ (t_kindAt l G y b0 σ (ad E (ad E a 0) 0) (tvE E σ (ad E (ad E a 0) 0) 60) i (hO.isT1 hp_2) (show rng i from ri)) (cwV 1 hts gX0_takesBehindAll_X9_kindAt rfl rfl rfl (by decide +kernel) ⟨Nat.le_of_ble_eq_true rfl, Nat.le_of_ble_eq_true rfl⟩) (th_PV hK hH rfl hc_5) rfl rfl hl.1 rfl (lv_room (Nat.le_of_ble_eq_true rfl)) dX0_takesBehindAll_8 ⟨Nat.le_of_ble_eq_true rfl, Nat.le_of_ble_eq_true rfl⟩) hS (fun z_8 σ_s_7 H locs rz_8 hw_6 hH hS => ?_)
  obtain ⟨e9, hw_6⟩ := hw_6
  replace e9 := e9.symm
  subst e9
  have hw_6 : (0 ≤ i ∧ i < (gI σ (ad E (ad E a 0) 0) 4)) ∨ z_8 = -1 := hw_6
  refine lv_iconst (v := I 2) hx hb dX0_takesBehindAll_11 (by decide) ?_
  refine lv_icmp_ne (tgt := 25) hx hb dX0_takesBehindAll_12 (by decide) (fun c_9 => ?_) (fun c_9 => ?_)
  · replace c_9 := mt (I_eq (a := z_8) (b := 2) rz_8 (show rng 2 from ⟨by decide, by decide⟩)).mpr c_9
    refine lv_aload_n hx hb dX0_takesBehindAll_25 rfl (lv_at hl 0 rfl) ?_
    refine ok.getR hO h_a (by decide) k6_0 (by decide) (fun _ _ he hv kk => th_get (ci := 0) (C := RX0) (T := TX0) (N := 4) hx hb hts inX0 hown hK hH he rfl 0 (by decide) fl0 hv dX0_takesBehindAll_26 kk) ?_
    refine ok.getR hO hp_1 (by decide) k5_0 (by decide) (fun _ _ he hv kk => th_getN (ci := 6) (C := RX6) (T := TX6) (N := 7) hx hb hts inX6 hown hK hH he rfl 0 (by decide) (nl_14 hK) hv dX0_takesBehindAll_29 kk) ?_
    refine lv_iload_n hx hb dX0_takesBehindAll_32 rfl (lv_at hl 1 rfl) ?_
    obtain ⟨_, hc_10⟩ := hO.cell hp_2 (by decide) (ci := 9) rfl
    refine th_calli (va_runV (As := [.int (I i)]) (rest := []) ⟨hx, hb, hml, hown, hts⟩ (t_kindAt l G y b0 σ (ad E (ad E a 0) 0) (tvE E σ (ad E (ad E a 0) 0) 60) i (hO.isT1 hp_2) (show rng i from ri)) (cwV 1 hts gX0_takesBehindAll_X9_kindAt rfl rfl rfl (by decide +kernel) ⟨Nat.le_of_ble_eq_true rfl, Nat.le_of_ble_eq_true rfl⟩) (th_PV hK hH rfl hc_10) rfl rfl hl.1 rfl (lv_room (Nat.le_of_ble_eq_true rfl)) dX0_takesBehindAll_33 ⟨Nat.le_of_ble_eq_true rfl, Nat.le_of_ble_eq_true rfl⟩) hS (fun z_13 σ_s_12 H locs rz_13 hw_11 hH hS => ?_)
    obtain ⟨e9, hw_11⟩ := hw_11
    replace e9 := e9.symm
    subst e9
    have hw_11 : (0 ≤ i ∧ i < (gI σ (ad E (ad E a 0) 0) 4)) ∨ z_13 = -1 := hw_11
    refine lv_iconst (v := I 3) hx hb dX0_takesBehindAll_36 (by decide) ?_
    refine lv_icmp_ne (tgt := 67) hx hb dX0_takesBehindAll_37 (by decide) (fun c_14 => ?_) (fun c_14 => ?_)
    · replace c_14 := mt (I_eq (a := z_13) (b := 3) rz_13 (show rng 3 from ⟨by decide, by decide⟩)).mpr c_14
      refine lv_iconst (v := I 0) hx hb dX0_takesBehindAll_67 (by decide) ?_
      exact th_zret hx hb hr hlocks hH hS (z := 0) (by omega) ⟨rfl, ⟨by omega, by omega⟩, trivial⟩ dX0_takesBehindAll_68
    · replace c_14 := (I_eq (a := z_13) (b := 3) rz_13 (show rng 3 from ⟨by decide, by decide⟩)).mp c_14
      refine lv_iload_n hx hb dX0_takesBehindAll_40 rfl (lv_at hl 2 rfl) ?_
      refine th_calli (va_runSN (As := [.int (I ky)]) (rest := []) ⟨hx, hb, hml, hown, hts⟩ (n_isWord l G y b0 σ E hO ky (show rng ky from rky)) ⟨(va_cnB 1 hts gX0_takesBehindAll_X10_isWord_n169 rfl rfl rfl (ml_9 hK) fl1 (by decide +kernel) ⟨Nat.le_of_ble_eq_true rfl, Nat.le_of_ble_eq_true rfl⟩), fl2, trivial⟩ (th_PS hK hH) rfl rfl hl.1 rfl (lv_room (Nat.le_of_ble_eq_true rfl)) dX0_takesBehindAll_41 ⟨Nat.le_of_ble_eq_true rfl, Nat.le_of_ble_eq_true rfl⟩) hS (fun z_17 σ_s_16 H locs rz_17 hw_15 hH hS => ?_)
      obtain ⟨e9, bhw_15, hw_15⟩ := hw_15
      replace e9 := e9.symm
      subst e9
      refine lv_if_eq (tgt := 67) hx hb dX0_takesBehindAll_44 (by decide) (fun c_18 => ?_) (fun c_18 => ?_)
      · replace c_18 := (I_eq (a := z_17) (b := 0) rz_17 (show rng 0 from ⟨by decide, by decide⟩)).mp c_18
        refine lv_iconst (v := I 0) hx hb dX0_takesBehindAll_67 (by decide) ?_
        exact th_zret hx hb hr hlocks hH hS (z := 0) (by omega) ⟨rfl, ⟨by omega, by omega⟩, trivial⟩ dX0_takesBehindAll_68
      · replace c_18 := mt (I_eq (a := z_17) (b := 0) rz_17 (show rng 0 from ⟨by decide, by decide⟩)).mpr c_18
        refine lv_aload_n hx hb dX0_takesBehindAll_47 rfl (lv_at hl 0 rfl) ?_
        refine ok.getR hO h_a (by decide) k6_0 (by decide) (fun _ _ he hv kk => th_get (ci := 0) (C := RX0) (T := TX0) (N := 4) hx hb hts inX0 hown hK hH he rfl 0 (by decide) fl0 hv dX0_takesBehindAll_48 kk) ?_
        refine ok.getR hO hp_1 (by decide) k5_0 (by decide) (fun _ _ he hv kk => th_getN (ci := 6) (C := RX6) (T := TX6) (N := 7) hx hb hts inX6 hown hK hH he rfl 0 (by decide) (nl_14 hK) hv dX0_takesBehindAll_51 kk) ?_
        refine lv_iload_n hx hb dX0_takesBehindAll_54 rfl (lv_at hl 1 rfl) ?_
        refine lv_iload_n hx hb dX0_takesBehindAll_55 rfl (lv_at hl 2 rfl) ?_
        obtain ⟨_, hc_19⟩ := hO.cell hp_2 (by decide) (ci := 9) rfl
        refine th_calli (va_runV (As := [.int (I i), .int (I ky)]) (rest := []) ⟨hx, hb, hml, hown, hts⟩ (t_childBy l G y b0 σ (ad E (ad E a 0) 0) (tvE E σ (ad E (ad E a 0) 0) 60) i ky (hO.isT1 hp_2) (show rng i from ri) (show rng ky from rky)) (cwV 2 hts gX0_takesBehindAll_X9_childBy rfl rfl rfl (by decide +kernel) ⟨Nat.le_of_ble_eq_true rfl, Nat.le_of_ble_eq_true rfl⟩) (th_PV hK hH rfl hc_19) rfl rfl hl.1 rfl (lv_room (Nat.le_of_ble_eq_true rfl)) dX0_takesBehindAll_56 ⟨Nat.le_of_ble_eq_true rfl, Nat.le_of_ble_eq_true rfl⟩) hS (fun z_22 σ_s_21 H locs rz_22 hw_20 hH hS => ?_)
        obtain ⟨e9, hw_20⟩ := hw_20
        replace e9 := e9.symm
        subst e9
        have hw_20 : z_22 = -1 ∨ (0 ≤ i ∧ i < z_22 ∧ z_22 < (gI σ (ad E (ad E a 0) 0) 4)) := hw_20
        refine lv_iconst (v := I (-1)) hx hb dX0_takesBehindAll_59 (by decide) ?_
        refine lv_icmp_ne (tgt := 67) hx hb dX0_takesBehindAll_60 (by decide) (fun c_23 => ?_) (fun c_23 => ?_)
        · replace c_23 := mt (I_eq (a := z_22) (b := (-1)) rz_22 (show rng (-1) from ⟨by decide, by decide⟩)).mpr c_23
          refine lv_iconst (v := I 0) hx hb dX0_takesBehindAll_67 (by decide) ?_
          exact th_zret hx hb hr hlocks hH hS (z := 0) (by omega) ⟨rfl, ⟨by omega, by omega⟩, trivial⟩ dX0_takesBehindAll_68
        · replace c_23 := (I_eq (a := z_22) (b := (-1)) rz_22 (show rng (-1) from ⟨by decide, by decide⟩)).mp c_23
          refine lv_iconst (v := I 1) hx hb dX0_takesBehindAll_63 (by decide) ?_
          refine lv_goto (tgt := 68) hx hb dX0_takesBehindAll_64 (by decide) ?_
          exact th_zret hx hb hr hlocks hH hS (z := 1) (by omega) ⟨rfl, ⟨by omega, by omega⟩, trivial⟩ dX0_takesBehindAll_68
  · replace c_9 := (I_eq (a := z_8) (b := 2) rz_8 (show rng 2 from ⟨by decide, by decide⟩)).mp c_9
    refine lv_iload_n hx hb dX0_takesBehindAll_15 rfl (lv_at hl 2 rfl) ?_
    refine lv_if_ne (tgt := 23) hx hb dX0_takesBehindAll_16 (by decide) (fun c_24 => ?_) (fun c_24 => ?_)
    · replace c_24 := mt (I_eq (a := ky) (b := 0) rky (show rng 0 from ⟨by decide, by decide⟩)).mpr c_24
      refine lv_iconst (v := I 0) hx hb dX0_takesBehindAll_23 (by decide) ?_
      exact th_zret hx hb hr hlocks hH hS (z := 0) (by omega) ⟨rfl, ⟨by omega, by omega⟩, trivial⟩ dX0_takesBehindAll_24
    · replace c_24 := (I_eq (a := ky) (b := 0) rky (show rng 0 from ⟨by decide, by decide⟩)).mp c_24
      refine lv_iconst (v := I 1) hx hb dX0_takesBehindAll_19 (by decide) ?_
      refine lv_goto (tgt := 24) hx hb dX0_takesBehindAll_20 (by decide) ?_
      exact th_zret hx hb hr hlocks hH hS (z := 1) (by omega) ⟨rfl, ⟨by omega, by omega⟩, trivial⟩ dX0_takesBehindAll_24

set_option maxHeartbeats 1000000 in
set_option maxRecDepth 100000 in
theorem q_layBytes (l : Launch) (G : va_G) (y : Nat → ClassId) (b0 : Nat) (σ : th_M) (E : th_E) (hO : ok y E σ) (a : Nat) (h_a : kd E a = 12) (i : Int) (ri : rng i) (hy0 : gI σ a 1 + 4 ≤ 400) : Met l yX10_layBytes wsX10_layBytes ({ frames := 0, cells := 0, slots := 0, locals := 0 }) (th_P G y b0 σ [.ref a, .int (I i)]) (th_Qv G b0 (fun σ1 => ok y E σ1 ∧ fr [12] E σ σ1 ∧ (gI σ1 a 2 = gI σ a 2 ∧ gI σ1 a 1 = gI σ a 1 + 4))) 0 0 (th_A b0) := by
  refine Met.ofW (cc := cX10_layBytes) (maxL := 3) (ret := none) (by decide) rfl ?_
  intro p e s m args below meth c s₁ B hml hv
  obtain ⟨rfl, hH, hK⟩ := hv
  have hx := B.exec
  have hb := B.bytes
  have hr := B.returns
  have hts := atoms_spec (ws := wsX10_layBytes) B.pre
  have hown : s.vm.findClass RX10 = some m.cls := findClass_of_methodNamed B.named
  have hlocks := B.notSynchronized
  have h00 : b0 ≤ s.heap.size := hH.1
  have hS : va_S (th_A b0) s.heap s.heap [] := va_S.rf
  have hF : fr [12] E σ σ := fr.rf
  have inX10 : ∀ w ∈ wsX100, w ∈ wsX10_layBytes := by decide +kernel
  have fl0 := hts (.fieldLink RX10 114 "NestQuery" "tapeCount" "I") (by decide +kernel)
  have fl1 := hts (.fieldLink RX10 9 "NestQuery" "tape" "[I") (by decide +kernel)
  have hl := lv_entry ([.ref a, .int (I i)]) (n := 3) (Nat.le_of_ble_eq_true rfl)
  rw [lg_entry_eq]
  generalize (lg_sl ([.ref a, .int (I i)]) ++ List.replicate (3 - (lg_sl ([.ref a, .int (I i)])).length) Slot.unset).toArray = ls at hl ⊢
  have hl : lv_has ls 3 [(0, .ref a), (1, .int (I i))] := hl
  obtain ⟨a10, ea10, ra10, la10, ua10⟩ := hO.gi h_a (by decide) k12_1
  obtain ⟨a20, ea20, ra20, la20, ua20⟩ := hO.gi h_a (by decide) k12_2
  refine lv_bipush (v := I 24) hx hb dX10_layBytes_0 (by decide) ?_
  refine lv_istore_n (lv' := [(2, .int (I 24)), (0, .ref a), (1, .int (I i))]) hx hb dX10_layBytes_2 rfl hl (by decide) rfl (fun ls hl => ?_)
  refine th_loop (α := Int) (pc := 3) (fun x9 => (x9 + 8).toNat) (fun x9 σ9 H9 l9 ls9 => ok y E σ9 ∧ fr [12] E σ σ9 ∧ th_H G b0 σ9 H9 ∧ va_S (th_A b0) s.heap H9 l9 ∧ lv_has ls9 3 [(0, .ref a), (1, .int (I i)), (2, .int (I x9))] ∧ rng x9 ∧ (-8 ≤ x9) ∧ (x9 ≤ 24) ∧ (x9 % 8 = 0) ∧ (8 * gI σ9 a 1 = 8 * gI σ a 1 + 24 - x9) ∧ (gI σ9 a 2 = a20)) ?_ (24) σ _ _ _ ⟨hO, hF, hH, hS, lv_sub hl [1, 2, 0] rfl, (show rng 24 from ⟨by decide, by decide⟩), by first | omega | (dsimp only; omega), by first | omega | (dsimp only; omega), by first | omega | (dsimp only; omega), by first | omega | (dsimp only; omega), ea20⟩
  intro x9 σ_J_28 H locs ls hI9 ihJ_28
  obtain ⟨v2q27, ex9⟩ : ∃ z, z = x9 := ⟨_, rfl⟩
  subst ex9
  obtain ⟨hO, hF, hH, hS, hl, rv2q27, J_28_0, J_28_1, J_28_2, J_28_3, J_28_4⟩ := hI9
  have hl : lv_has ls 3 [(0, .ref a), (1, .int (I i)), (2, .int (I v2q27))] := hl
  have rv2q27 : rng v2q27 := rv2q27
  have J_28_0 : -8 ≤ v2q27 := J_28_0
  have J_28_1 : v2q27 ≤ 24 := J_28_1
  have J_28_2 : v2q27 % 8 = 0 := J_28_2
  have J_28_3 : 8 * gI σ_J_28 a 1 = 8 * gI σ a 1 + 24 - v2q27 := J_28_3
  have J_28_4 : gI σ_J_28 a 2 = a20 := J_28_4
  refine lv_iload_n hx hb dX10_layBytes_3 rfl (lv_at hl 2 rfl) ?_
  refine lv_if_lt (tgt := 56) hx hb dX10_layBytes_4 (by decide) (fun c_29 => ?_) (fun c_29 => ?_)
  · replace c_29 := (I_lt (a := v2q27) (b := 0) rv2q27 (show rng 0 from ⟨by decide, by decide⟩)).mp c_29
    exact th_vret hx hb hr hlocks hH hS ⟨hO, hF, by omega⟩ dX10_layBytes_56
  · replace c_29 := mt (I_lt (a := v2q27) (b := 0) rv2q27 (show rng 0 from ⟨by decide, by decide⟩)).mpr c_29
    refine lv_aload_n hx hb dX10_layBytes_7 rfl (lv_at hl 0 rfl) ?_
    refine ok.getI hO h_a (by decide) k12_1 (fun _ _ he hv kk => th_get (ci := 10) (C := RX10) (T := TX10) (N := 18) hx hb hts inX10 hown hK hH he rfl 1 (by decide) fl0 hv dX10_layBytes_8 kk) (fun z_30 e_31 rz_30 lz_30 uz_30 => ?_)
    refine lv_if_lt (tgt := 50) hx hb dX10_layBytes_11 (by decide) (fun c_32 => ?_) (fun c_32 => ?_)
    · replace c_32 := (I_lt (a := z_30) (b := 0) rz_30 (show rng 0 from ⟨by decide, by decide⟩)).mp c_32
      refine lv_iinc (v := I (v2q27 + (-8))) (lv' := [(2, .int (I (v2q27 + (-8)))), (0, .ref a), (1, .int (I i))]) hx hb dX10_layBytes_50 hl (k := 2) rfl (I_add _ _) (by decide) rfl (fun ls hl => ?_)
      refine lv_goto (tgt := 3) hx hb dX10_layBytes_53 (by decide) ?_
      exact ihJ_28 (v2q27 + (-8)) σ_J_28 _ _ _ (by first | omega | (dsimp only; omega)) ⟨hO, hF, hH, hS, lv_sub hl [1, 2, 0] rfl, ⟨by first | omega | (dsimp only; omega), by first | omega | (dsimp only; omega)⟩, by first | omega | (dsimp only; omega), by first | omega | (dsimp only; omega), by first | omega | (dsimp only; omega), by first | omega | (dsimp only; omega), J_28_4⟩
    · replace c_32 := mt (I_lt (a := z_30) (b := 0) rz_30 (show rng 0 from ⟨by decide, by decide⟩)).mpr c_32
      refine lv_aload_n hx hb dX10_layBytes_14 rfl (lv_at hl 0 rfl) ?_
      refine ok.getIc hO h_a (by decide) k12_1 e_31 (fun _ _ he hv kk => th_get (ci := 10) (C := RX10) (T := TX10) (N := 18) hx hb hts inX10 hown hK hH he rfl 1 (by decide) fl0 hv dX10_layBytes_15 kk) ?_
      refine lv_sipush (v := I 400) hx hb dX10_layBytes_18 (by decide) ?_
      refine lv_icmp_ge (tgt := 50) hx hb dX10_layBytes_21 (by decide) (fun c_33 => ?_) (fun c_33 => ?_)
      · replace c_33 := (I_le (a := 400) (b := z_30) (show rng 400 from ⟨by decide, by decide⟩) rz_30).mp c_33
        refine lv_iinc (v := I (v2q27 + (-8))) (lv' := [(2, .int (I (v2q27 + (-8)))), (0, .ref a), (1, .int (I i))]) hx hb dX10_layBytes_50 hl (k := 2) rfl (I_add _ _) (by decide) rfl (fun ls hl => ?_)
        refine lv_goto (tgt := 3) hx hb dX10_layBytes_53 (by decide) ?_
        exact ihJ_28 (v2q27 + (-8)) σ_J_28 _ _ _ (by first | omega | (dsimp only; omega)) ⟨hO, hF, hH, hS, lv_sub hl [1, 2, 0] rfl, ⟨by first | omega | (dsimp only; omega), by first | omega | (dsimp only; omega)⟩, by first | omega | (dsimp only; omega), by first | omega | (dsimp only; omega), by first | omega | (dsimp only; omega), by first | omega | (dsimp only; omega), J_28_4⟩
      · replace c_33 := mt (I_le (a := 400) (b := z_30) (show rng 400 from ⟨by decide, by decide⟩) rz_30).mpr c_33
        refine lv_aload_n hx hb dX10_layBytes_24 rfl (lv_at hl 0 rfl) ?_
        refine ok.getR hO h_a (by decide) k12_0 (by decide) (fun _ _ he hv kk => th_get (ci := 10) (C := RX10) (T := TX10) (N := 18) hx hb hts inX10 hown hK hH he rfl 0 (by decide) fl1 hv dX10_layBytes_25 kk) ?_
        refine lv_aload_n hx hb dX10_layBytes_28 rfl (lv_at hl 0 rfl) ?_
        refine ok.getIc hO h_a (by decide) k12_1 e_31 (fun _ _ he hv kk => th_get (ci := 10) (C := RX10) (T := TX10) (N := 18) hx hb hts inX10 hown hK hH he rfl 1 (by decide) fl0 hv dX10_layBytes_29 kk) ?_
        refine lv_iload_n hx hb dX10_layBytes_32 rfl (lv_at hl 1 rfl) ?_
        refine lv_iload_n hx hb dX10_layBytes_33 rfl (lv_at hl 2 rfl) ?_
        refine lv_iushr hx hb dX10_layBytes_34 rfl ?_
        refine th_topi (fun z_34 rz_34 => ?_)
        refine lv_sipush (v := I 255) hx hb dX10_layBytes_35 (by decide) ?_
        refine lv_iand hx hb dX10_layBytes_38 ?_
        refine th_and255 (fun z_35 rz_35 hz_35 => ?_)
        refine ok_iast hx hb hK hH hS h00 hO h_a (by decide) k12_0 isA1 rz_30 (by omega) (by omega) rz_35 el1 dX10_layBytes_39 (fun σ_s_36 H locs hO hF9 hi9 ha9 hH hS => ?_)
        replace hF := hF.tu hF9 (by decide)
        have e_37 : gI σ_s_36 a 2 = a20 := (hi9 _ _).trans J_28_4
        have e_38 : gI σ_s_36 a 1 = z_30 := (hi9 _ _).trans e_31
        refine lv_aload_n hx hb dX10_layBytes_40 rfl (lv_at hl 0 rfl) ?_
        refine lv_dup hx hb dX10_layBytes_41 rfl ?_
        refine ok.getIc hO h_a (by decide) k12_1 e_38 (fun _ _ he hv kk => th_get (ci := 10) (C := RX10) (T := TX10) (N := 18) hx hb hts inX10 hown hK hH he rfl 1 (by decide) fl0 hv dX10_layBytes_42 kk) ?_
        refine lv_iconst (v := I 1) hx hb dX10_layBytes_45 (by decide) ?_
        refine lv_iadd hx hb dX10_layBytes_46 ?_
        refine nq_top (I_add _ _) ?_
        refine ok.putI hO h_a (by decide) k12_1 ⟨by omega, by omega⟩ (by omega) (by omega) (fun _ he hl9 kk => th_put (ci := 10) (v := .int (I (z_30 + 1))) (ty := .int) (C := RX10) (T := TX10) (N := 18) hx hb hts inX10 tyX10 tyX10_ok nmX10 hown hK hH hS h00 he rfl 1 (by decide) fl0 rfl (by decide +kernel) rfl rfl hl9 dX10_layBytes_47 kk) (fun σ_s_39 H locs hO hF9 hg9 hi9 ha9 hH hS => ?_)
        replace hF := hF.tu hF9 (by decide)
        have e_40 : gI σ_s_39 a 2 = a20 := (hi9 _ _ (Or.inr (by decide))).trans e_37
        have e_41 := hg9
        refine lv_iinc (v := I (v2q27 + (-8))) (lv' := [(2, .int (I (v2q27 + (-8)))), (0, .ref a), (1, .int (I i))]) hx hb dX10_layBytes_50 hl (k := 2) rfl (I_add _ _) (by decide) rfl (fun ls hl => ?_)
        refine lv_goto (tgt := 3) hx hb dX10_layBytes_53 (by decide) ?_
        exact ihJ_28 (v2q27 + (-8)) σ_s_39 _ _ _ (by first | omega | (dsimp only; omega)) ⟨hO, hF, hH, hS, lv_sub hl [1, 2, 0] rfl, ⟨by first | omega | (dsimp only; omega), by first | omega | (dsimp only; omega)⟩, by first | omega | (dsimp only; omega), by first | omega | (dsimp only; omega), by first | omega | (dsimp only; omega), by first | omega | (dsimp only; omega), e_40⟩

set_option maxHeartbeats 1000000 in
set_option maxRecDepth 100000 in
theorem q_feed (l : Launch) (G : va_G) (y : Nat → ClassId) (b0 : Nat) (σ : th_M) (E : th_E) (hO : ok y E σ) (a : Nat) (h_a : kd E a = 12) (w1 : Int) (rw1 : rng w1) (w2 : Int) (rw2 : rng w2) (w3 : Int) (rw3 : rng w3) (w4 : Int) (rw4 : rng w4) (w5 : Int) (rw5 : rng w5) : Met l yX10_feed wsX10_feed ({ frames := 1, cells := 0, slots := 0, locals := 26 }) (th_P G y b0 σ [.ref a, .int (I w1), .int (I w2), .int (I w3), .int (I w4), .int (I w5)]) (th_Qi G b0 (fun r σ1 => ok y E σ1 ∧ fr [12] E σ σ1 ∧ (gI σ1 a 2 = gI σ a 2 ∧ ((gI σ a 1 + 20 ≤ 400 ∧ gI σ1 a 1 = gI σ a 1 + 20 ∧ r = gI σ a 1 + 20) ∨ (¬ gI σ a 1 + 20 ≤ 400 ∧ gI σ1 a 1 = gI σ a 1 ∧ r = -1))))) 0 0 (th_A b0) := by
  refine Met.ofW (cc := cX10_feed) (maxL := 6) (ret := (some .int)) (by decide) rfl ?_
  intro p e s m args below meth c s₁ B hml hv
  obtain ⟨rfl, hH, hK⟩ := hv
  have hx := B.exec
  have hb := B.bytes
  have hr := B.returns
  have hts := atoms_spec (ws := wsX10_feed) B.pre
  have hown : s.vm.findClass RX10 = some m.cls := findClass_of_methodNamed B.named
  have hlocks := B.notSynchronized
  have h00 : b0 ≤ s.heap.size := hH.1
  have hS : va_S (th_A b0) s.heap s.heap [] := va_S.rf
  have hF : fr [12] E σ σ := fr.rf
  have inX10 : ∀ w ∈ wsX100, w ∈ wsX10_feed := by decide +kernel
  have fl0 := hts (.fieldLink RX10 114 "NestQuery" "tapeCount" "I") (by decide +kernel)
  have hl := lv_entry ([.ref a, .int (I w1), .int (I w2), .int (I w3), .int (I w4), .int (I w5)]) (n := 6) (Nat.le_of_ble_eq_true rfl)
  rw [lg_entry_eq]
  generalize (lg_sl ([.ref a, .int (I w1), .int (I w2), .int (I w3), .int (I w4), .int (I w5)]) ++ List.replicate (6 - (lg_sl ([.ref a, .int (I w1), .int (I w2), .int (I w3), .int (I w4), .int (I w5)])).length) Slot.unset).toArray = ls at hl ⊢
  have hl : lv_has ls 6 [(0, .ref a), (1, .int (I w1)), (2, .int (I w2)), (3, .int (I w3)), (4, .int (I w4)), (5, .int (I w5))] := hl
  obtain ⟨a20, ea20, ra20, la20, ua20⟩ := hO.gi h_a (by decide) k12_2
  refine lv_aload_n hx hb dX10_feed_0 rfl (lv_at hl 0 rfl) ?_
  refine ok.getI hO h_a (by decide) k12_1 (fun _ _ he hv kk => th_get (ci := 10) (C := RX10) (T := TX10) (N := 18) hx hb hts inX10 hown hK hH he rfl 1 (by decide) fl0 hv dX10_feed_1 kk) (fun z_1 e_2 rz_1 lz_1 uz_1 => ?_)
  refine lv_bipush (v := I 20) hx hb dX10_feed_4 (by decide) ?_
  refine lv_iadd hx hb dX10_feed_6 ?_
  refine nq_top (I_add _ _) ?_
  refine lv_sipush (v := I 400) hx hb dX10_feed_7 (by decide) ?_
  refine lv_icmp_le (tgt := 15) hx hb dX10_feed_10 (by decide) (fun c_3 => ?_) (fun c_3 => ?_)
  · replace c_3 := (I_le (a := z_1 + 20) (b := 400) ⟨by omega, by omega⟩ (show rng 400 from ⟨by decide, by decide⟩)).mp c_3
    refine lv_aload_n hx hb dX10_feed_15 rfl (lv_at hl 0 rfl) ?_
    refine lv_iload_n hx hb dX10_feed_16 rfl (lv_at hl 1 rfl) ?_
    obtain ⟨_, hc_4⟩ := hO.cell h_a (by decide) (ci := 10) rfl
    refine th_callv (va_runV (As := [.int (I w1)]) (rest := []) ⟨hx, hb, hml, hown, hts⟩ (q_layBytes l G y b0 σ E hO a h_a w1 (show rng w1 from rw1) (by omega)) (cwV 1 hts gX10_feed_X10_layBytes rfl rfl rfl (by decide +kernel) ⟨Nat.le_of_ble_eq_true rfl, Nat.le_of_ble_eq_true rfl⟩) (th_PV hK hH rfl hc_4) rfl rfl hl.1 rfl (lv_room (Nat.le_of_ble_eq_true rfl)) dX10_feed_17 ⟨Nat.le_of_ble_eq_true rfl, Nat.le_of_ble_eq_true rfl⟩) hS (fun σ_s_6 H locs hw_5 hH hS => ?_)
    obtain ⟨hO9, hF9, hw_5⟩ := hw_5
    replace hO := hO9
    replace hF := hF.tu hF9 (by decide)
    have hw_5 : gI σ_s_6 a 2 = gI σ a 2 ∧ gI σ_s_6 a 1 = gI σ a 1 + 4 := hw_5
    refine lv_aload_n hx hb dX10_feed_20 rfl (lv_at hl 0 rfl) ?_
    refine lv_iload_n hx hb dX10_feed_21 rfl (lv_at hl 2 rfl) ?_
    obtain ⟨_, hc_7⟩ := hO.cell h_a (by decide) (ci := 10) rfl
    refine th_callv (va_runV (As := [.int (I w2)]) (rest := []) ⟨hx, hb, hml, hown, hts⟩ (q_layBytes l G y b0 σ_s_6 E hO a h_a w2 (show rng w2 from rw2) (by omega)) (cwV 1 hts gX10_feed_X10_layBytes rfl rfl rfl (by decide +kernel) ⟨Nat.le_of_ble_eq_true rfl, Nat.le_of_ble_eq_true rfl⟩) (th_PV hK hH rfl hc_7) rfl rfl hl.1 rfl (lv_room (Nat.le_of_ble_eq_true rfl)) dX10_feed_22 ⟨Nat.le_of_ble_eq_true rfl, Nat.le_of_ble_eq_true rfl⟩) hS (fun σ_s_9 H locs hw_8 hH hS => ?_)
    obtain ⟨hO9, hF9, hw_8⟩ := hw_8
    replace hO := hO9
    replace hF := hF.tu hF9 (by decide)
    have hw_8 : gI σ_s_9 a 2 = gI σ_s_6 a 2 ∧ gI σ_s_9 a 1 = gI σ_s_6 a 1 + 4 := hw_8
    refine lv_aload_n hx hb dX10_feed_25 rfl (lv_at hl 0 rfl) ?_
    refine lv_iload_n hx hb dX10_feed_26 rfl (lv_at hl 3 rfl) ?_
    obtain ⟨_, hc_10⟩ := hO.cell h_a (by decide) (ci := 10) rfl
    refine th_callv (va_runV (As := [.int (I w3)]) (rest := []) ⟨hx, hb, hml, hown, hts⟩ (q_layBytes l G y b0 σ_s_9 E hO a h_a w3 (show rng w3 from rw3) (by omega)) (cwV 1 hts gX10_feed_X10_layBytes rfl rfl rfl (by decide +kernel) ⟨Nat.le_of_ble_eq_true rfl, Nat.le_of_ble_eq_true rfl⟩) (th_PV hK hH rfl hc_10) rfl rfl hl.1 rfl (lv_room (Nat.le_of_ble_eq_true rfl)) dX10_feed_27 ⟨Nat.le_of_ble_eq_true rfl, Nat.le_of_ble_eq_true rfl⟩) hS (fun σ_s_12 H locs hw_11 hH hS => ?_)
    obtain ⟨hO9, hF9, hw_11⟩ := hw_11
    replace hO := hO9
    replace hF := hF.tu hF9 (by decide)
    have hw_11 : gI σ_s_12 a 2 = gI σ_s_9 a 2 ∧ gI σ_s_12 a 1 = gI σ_s_9 a 1 + 4 := hw_11
    refine lv_aload_n hx hb dX10_feed_30 rfl (lv_at hl 0 rfl) ?_
    refine lv_iload hx hb dX10_feed_31 (lv_at hl 4 rfl) ?_
    obtain ⟨_, hc_13⟩ := hO.cell h_a (by decide) (ci := 10) rfl
    refine th_callv (va_runV (As := [.int (I w4)]) (rest := []) ⟨hx, hb, hml, hown, hts⟩ (q_layBytes l G y b0 σ_s_12 E hO a h_a w4 (show rng w4 from rw4) (by omega)) (cwV 1 hts gX10_feed_X10_layBytes rfl rfl rfl (by decide +kernel) ⟨Nat.le_of_ble_eq_true rfl, Nat.le_of_ble_eq_true rfl⟩) (th_PV hK hH rfl hc_13) rfl rfl hl.1 rfl (lv_room (Nat.le_of_ble_eq_true rfl)) dX10_feed_33 ⟨Nat.le_of_ble_eq_true rfl, Nat.le_of_ble_eq_true rfl⟩) hS (fun σ_s_15 H locs hw_14 hH hS => ?_)
    obtain ⟨hO9, hF9, hw_14⟩ := hw_14
    replace hO := hO9
    replace hF := hF.tu hF9 (by decide)
    have hw_14 : gI σ_s_15 a 2 = gI σ_s_12 a 2 ∧ gI σ_s_15 a 1 = gI σ_s_12 a 1 + 4 := hw_14
    refine lv_aload_n hx hb dX10_feed_36 rfl (lv_at hl 0 rfl) ?_
    refine lv_iload hx hb dX10_feed_37 (lv_at hl 5 rfl) ?_
    obtain ⟨_, hc_16⟩ := hO.cell h_a (by decide) (ci := 10) rfl
    refine th_callv (va_runV (As := [.int (I w5)]) (rest := []) ⟨hx, hb, hml, hown, hts⟩ (q_layBytes l G y b0 σ_s_15 E hO a h_a w5 (show rng w5 from rw5) (by omega)) (cwV 1 hts gX10_feed_X10_layBytes rfl rfl rfl (by decide +kernel) ⟨Nat.le_of_ble_eq_true rfl, Nat.le_of_ble_eq_true rfl⟩) (th_PV hK hH rfl hc_16) rfl rfl hl.1 rfl (lv_room (Nat.le_of_ble_eq_true rfl)) dX10_feed_39 ⟨Nat.le_of_ble_eq_true rfl, Nat.le_of_ble_eq_true rfl⟩) hS (fun σ_s_18 H locs hw_17 hH hS => ?_)
    obtain ⟨hO9, hF9, hw_17⟩ := hw_17
    replace hO := hO9
    replace hF := hF.tu hF9 (by decide)
    have hw_17 : gI σ_s_18 a 2 = gI σ_s_15 a 2 ∧ gI σ_s_18 a 1 = gI σ_s_15 a 1 + 4 := hw_17
    refine lv_aload_n hx hb dX10_feed_42 rfl (lv_at hl 0 rfl) ?_
    refine ok.getI hO h_a (by decide) k12_1 (fun _ _ he hv kk => th_get (ci := 10) (C := RX10) (T := TX10) (N := 18) hx hb hts inX10 hown hK hH he rfl 1 (by decide) fl0 hv dX10_feed_43 kk) (fun z_19 e_20 rz_19 lz_19 uz_19 => ?_)
    exact th_iret hx hb hr hlocks hH hS (z := z_19) rz_19 ⟨hO, hF, by omega⟩ dX10_feed_46
  · replace c_3 := mt (I_le (a := z_1 + 20) (b := 400) ⟨by omega, by omega⟩ (show rng 400 from ⟨by decide, by decide⟩)).mpr c_3
    refine lv_iconst (v := I (-1)) hx hb dX10_feed_13 (by decide) ?_
    exact th_iret hx hb hr hlocks hH hS (z := (-1)) (show rng (-1) from ⟨by decide, by decide⟩) ⟨hO, hF, by omega⟩ dX10_feed_14

set_option maxHeartbeats 1000000 in
set_option maxRecDepth 100000 in
theorem q_tapeHas (l : Launch) (G : va_G) (y : Nat → ClassId) (b0 : Nat) (σ : th_M) (E : th_E) (hO : ok y E σ) (a : Nat) (h_a : kd E a = 12) (n : Int) (rn : rng n) : Met l yX10_tapeHas wsX10_tapeHas ({ frames := 0, cells := 0, slots := 0, locals := 0 }) (th_P G y b0 σ [.ref a, .int (I n)]) (th_Qi G b0 (fun r σ1 => σ1 = σ ∧ (0 ≤ r ∧ r ≤ 1) ∧ ((r = 1 ∧ 0 ≤ n ∧ n ≤ gI σ a 1) ∨ (r = 0 ∧ ¬ (0 ≤ n ∧ n ≤ gI σ a 1))))) 0 0 (th_A b0) := by
  refine Met.ofW (cc := cX10_tapeHas) (maxL := 2) (ret := (some .boolean)) (by decide) rfl ?_
  intro p e s m args below meth c s₁ B hml hv
  obtain ⟨rfl, hH, hK⟩ := hv
  have hx := B.exec
  have hb := B.bytes
  have hr := B.returns
  have hts := atoms_spec (ws := wsX10_tapeHas) B.pre
  have hown : s.vm.findClass RX10 = some m.cls := findClass_of_methodNamed B.named
  have hlocks := B.notSynchronized
  have h00 : b0 ≤ s.heap.size := hH.1
  have hS : va_S (th_A b0) s.heap s.heap [] := va_S.rf
  have inX10 : ∀ w ∈ wsX100, w ∈ wsX10_tapeHas := by decide +kernel
  have fl0 := hts (.fieldLink RX10 114 "NestQuery" "tapeCount" "I") (by decide +kernel)
  have hl := lv_entry ([.ref a, .int (I n)]) (n := 2) (Nat.le_of_ble_eq_true rfl)
  rw [lg_entry_eq]
  generalize (lg_sl ([.ref a, .int (I n)]) ++ List.replicate (2 - (lg_sl ([.ref a, .int (I n)])).length) Slot.unset).toArray = ls at hl ⊢
  have hl : lv_has ls 2 [(0, .ref a), (1, .int (I n))] := hl
  refine lv_iload_n hx hb dX10_tapeHas_0 rfl (lv_at hl 1 rfl) ?_
  refine lv_if_lt (tgt := 16) hx hb dX10_tapeHas_1 (by decide) (fun c_1 => ?_) (fun c_1 => ?_)
  · replace c_1 := (I_lt (a := n) (b := 0) rn (show rng 0 from ⟨by decide, by decide⟩)).mp c_1
    refine lv_iconst (v := I 0) hx hb dX10_tapeHas_16 (by decide) ?_
    exact th_zret hx hb hr hlocks hH hS (z := 0) (by omega) ⟨rfl, ⟨by omega, by omega⟩, by omega⟩ dX10_tapeHas_17
  · replace c_1 := mt (I_lt (a := n) (b := 0) rn (show rng 0 from ⟨by decide, by decide⟩)).mpr c_1
    refine lv_iload_n hx hb dX10_tapeHas_4 rfl (lv_at hl 1 rfl) ?_
    refine lv_aload_n hx hb dX10_tapeHas_5 rfl (lv_at hl 0 rfl) ?_
    refine ok.getI hO h_a (by decide) k12_1 (fun _ _ he hv kk => th_get (ci := 10) (C := RX10) (T := TX10) (N := 18) hx hb hts inX10 hown hK hH he rfl 1 (by decide) fl0 hv dX10_tapeHas_6 kk) (fun z_2 e_3 rz_2 lz_2 uz_2 => ?_)
    refine lv_icmp_gt (tgt := 16) hx hb dX10_tapeHas_9 (by decide) (fun c_4 => ?_) (fun c_4 => ?_)
    · replace c_4 := (I_lt (a := z_2) (b := n) rz_2 rn).mp c_4
      refine lv_iconst (v := I 0) hx hb dX10_tapeHas_16 (by decide) ?_
      exact th_zret hx hb hr hlocks hH hS (z := 0) (by omega) ⟨rfl, ⟨by omega, by omega⟩, by omega⟩ dX10_tapeHas_17
    · replace c_4 := mt (I_lt (a := z_2) (b := n) rz_2 rn).mpr c_4
      refine lv_iconst (v := I 1) hx hb dX10_tapeHas_12 (by decide) ?_
      refine lv_goto (tgt := 17) hx hb dX10_tapeHas_13 (by decide) ?_
      exact th_zret hx hb hr hlocks hH hS (z := 1) (by omega) ⟨rfl, ⟨by omega, by omega⟩, by omega⟩ dX10_tapeHas_17

set_option maxHeartbeats 1000000 in
set_option maxRecDepth 100000 in
theorem q_textWasRead (l : Launch) (G : va_G) (y : Nat → ClassId) (b0 : Nat) (σ : th_M) (E : th_E) (hO : ok y E σ) (a : Nat) (h_a : kd E a = 12) (i : Int) (ri : rng i) : Met l yX10_textWasRead wsX10_textWasRead ({ frames := 1, cells := 0, slots := 0, locals := 25 }) (th_P G y b0 σ [.ref a, .int (I i)]) (th_Qv G b0 (fun σ1 => ok y E σ1 ∧ fr [12, 5] E σ σ1 ∧ (gI σ1 a 1 = 0))) 0 0 (th_A b0) := by
  refine Met.ofW (cc := cX10_textWasRead) (maxL := 2) (ret := none) (by decide) rfl ?_
  intro p e s m args below meth c s₁ B hml hv
  obtain ⟨rfl, hH, hK⟩ := hv
  have hx := B.exec
  have hb := B.bytes
  have hr := B.returns
  have hts := atoms_spec (ws := wsX10_textWasRead) B.pre
  have hown : s.vm.findClass RX10 = some m.cls := findClass_of_methodNamed B.named
  have hlocks := B.notSynchronized
  have h00 : b0 ≤ s.heap.size := hH.1
  have hS : va_S (th_A b0) s.heap s.heap [] := va_S.rf
  have hF : fr [12, 5] E σ σ := fr.rf
  have inX10 : ∀ w ∈ wsX100, w ∈ wsX10_textWasRead := by decide +kernel
  have inX8 : ∀ w ∈ wsX80, w ∈ wsX10_textWasRead := by decide +kernel
  have fl0 := hts (.fieldLink RX10 114 "NestQuery" "tapeCount" "I") (by decide +kernel)
  have fl1 := hts (.fieldLink RX10 31 "NestQuery" "tokens" "LNestQuery$Tokens;") (by decide +kernel)
  have fl2 := hts (.fieldLink RX10 13 "NestQuery" "faultPlace" "I") (by decide +kernel)
  have fl3 := hts (.fieldLink RX10 63 "NestQuery" "now" "LNestQuery$State;") (by decide +kernel)
  have hl := lv_entry ([.ref a, .int (I i)]) (n := 2) (Nat.le_of_ble_eq_true rfl)
  rw [lg_entry_eq]
  generalize (lg_sl ([.ref a, .int (I i)]) ++ List.replicate (2 - (lg_sl ([.ref a, .int (I i)])).length) Slot.unset).toArray = ls at hl ⊢
  have hl : lv_has ls 2 [(0, .ref a), (1, .int (I i))] := hl
  refine lv_aload_n hx hb dX10_textWasRead_0 rfl (lv_at hl 0 rfl) ?_
  refine lv_iconst (v := I 0) hx hb dX10_textWasRead_1 (by decide) ?_
  refine ok.putI hO h_a (by decide) k12_1 (show rng 0 from ⟨by decide, by decide⟩) (by omega) (by omega) (fun _ he hl9 kk => th_put (ci := 10) (v := .int (I 0)) (ty := .int) (C := RX10) (T := TX10) (N := 18) hx hb hts inX10 tyX10 tyX10_ok nmX10 hown hK hH hS h00 he rfl 1 (by decide) fl0 rfl (by decide +kernel) rfl rfl hl9 dX10_textWasRead_2 kk) (fun σ_s_1 H locs hO hF9 hg9 hi9 ha9 hH hS => ?_)
  replace hF := hF.tu hF9 (by decide)
  have e_2 := hg9
  refine lv_aload_n hx hb dX10_textWasRead_5 rfl (lv_at hl 0 rfl) ?_
  refine lv_aload_n hx hb dX10_textWasRead_6 rfl (lv_at hl 0 rfl) ?_
  have hp_3 : kd E (ad E a 5) = 3 := ok.pk hO h_a (by decide) k12_5 rfl
  refine ok.getR hO h_a (by decide) k12_5 (by decide) (fun _ _ he hv kk => th_get (ci := 10) (C := RX10) (T := TX10) (N := 18) hx hb hts inX10 hown hK hH he rfl 5 (by decide) fl1 hv dX10_textWasRead_7 kk) ?_
  refine ok.getI hO hp_3 (by decide) k3_8 (fun _ _ he hv kk => th_getN (ci := 8) (C := RX8) (T := TX8) (N := 9) hx hb hts inX8 hown hK hH he rfl 8 (by decide) (nl_8 hK) hv dX10_textWasRead_10 kk) (fun z_4 e_5 rz_4 lz_4 uz_4 => ?_)
  refine ok.putI hO h_a (by decide) k12_2 rz_4 (by omega) (by omega) (fun _ he hl9 kk => th_put (ci := 10) (v := .int (I z_4)) (ty := .int) (C := RX10) (T := TX10) (N := 18) hx hb hts inX10 tyX10 tyX10_ok nmX10 hown hK hH hS h00 he rfl 2 (by decide) fl2 rfl (by decide +kernel) rfl rfl hl9 dX10_textWasRead_13 kk) (fun σ_s_6 H locs hO hF9 hg9 hi9 ha9 hH hS => ?_)
  replace hF := hF.tu hF9 (by decide)
  have e_7 : gI σ_s_6 a 1 = 0 := (hi9 _ _ (Or.inr (by decide))).trans e_2
  have e_8 : gI σ_s_6 (ad E a 5) 8 = z_4 := (hi9 _ _ (Or.inr (by decide))).trans e_5
  have e_9 := hg9
  refine lv_iload_n hx hb dX10_textWasRead_16 rfl (lv_at hl 1 rfl) ?_
  refine lv_if_eq (tgt := 28) hx hb dX10_textWasRead_17 (by decide) (fun c_10 => ?_) (fun c_10 => ?_)
  · replace c_10 := (I_eq (a := i) (b := 0) ri (show rng 0 from ⟨by decide, by decide⟩)).mp c_10
    exact th_vret hx hb hr hlocks hH hS ⟨hO, hF, by omega⟩ dX10_textWasRead_28
  · replace c_10 := mt (I_eq (a := i) (b := 0) ri (show rng 0 from ⟨by decide, by decide⟩)).mpr c_10
    refine lv_aload_n hx hb dX10_textWasRead_20 rfl (lv_at hl 0 rfl) ?_
    have hp_11 : kd E (ad E a 9) = 5 := ok.pk hO h_a (by decide) k12_9 rfl
    refine ok.getR hO h_a (by decide) k12_9 (by decide) (fun _ _ he hv kk => th_get (ci := 10) (C := RX10) (T := TX10) (N := 18) hx hb hts inX10 hown hK hH he rfl 9 (by decide) fl3 hv dX10_textWasRead_21 kk) ?_
    refine lv_iconst (v := I 0) hx hb dX10_textWasRead_24 (by decide) ?_
    obtain ⟨_, hc_12⟩ := hO.cell hp_11 (by decide) (ci := 6) rfl
    refine th_callv (va_runV (As := [.int (I 0)]) (rest := []) ⟨hx, hb, hml, hown, hts⟩ (e_refuse l G y b0 σ_s_6 E hO (ad E a 9) hp_11 0 (show rng 0 from (show rng 0 from ⟨by decide, by decide⟩))) (cwV 1 hts gX10_textWasRead_X6_refuse rfl rfl rfl (by decide +kernel) ⟨Nat.le_of_ble_eq_true rfl, Nat.le_of_ble_eq_true rfl⟩) (th_PV hK hH rfl hc_12) rfl rfl hl.1 rfl (lv_room (Nat.le_of_ble_eq_true rfl)) dX10_textWasRead_25 ⟨Nat.le_of_ble_eq_true rfl, Nat.le_of_ble_eq_true rfl⟩) hS (fun σ_s_14 H locs hw_13 hH hS => ?_)
    obtain ⟨hO9, hF9, hw_13⟩ := hw_13
    have e_15 : gI σ_s_14 a 1 = 0 := (fr.ki hO hF9 h_a (by decide) (by decide) _).trans e_7
    have e_16 : gI σ_s_14 (ad E a 5) 8 = z_4 := (fr.ki hO hF9 hp_3 (by decide) (by decide) _).trans e_8
    have e_17 : gI σ_s_14 a 2 = z_4 := (fr.ki hO hF9 h_a (by decide) (by decide) _).trans e_9
    replace hO := hO9
    replace hF := hF.tu hF9 (by decide)
    exact th_vret hx hb hr hlocks hH hS ⟨hO, hF, by omega⟩ dX10_textWasRead_28

set_option maxHeartbeats 1000000 in
set_option maxRecDepth 100000 in
theorem q_readData (l : Launch) (G : va_G) (y : Nat → ClassId) (b0 : Nat) (σ : th_M) (E : th_E) (hO : ok y E σ) (a : Nat) (h_a : kd E a = 12) (i : Int) (ri : rng i) : Met l yX10_readData wsX10_readData ({ frames := 46, cells := 0, slots := 0, locals := 1734 }) (th_P G y b0 σ [.ref a, .int (I i)]) (th_Qi G b0 (fun r σ1 => ok y E σ1 ∧ fr [12, 5, 3, 1] E σ σ1 ∧ (gI σ1 a 1 = 0))) 0 0 (th_A b0) := by
  refine Met.ofW (cc := cX10_readData) (maxL := 3) (ret := (some .int)) (by decide) rfl ?_
  intro p e s m args below meth c s₁ B hml hv
  obtain ⟨rfl, hH, hK⟩ := hv
  have hx := B.exec
  have hb := B.bytes
  have hr := B.returns
  have hts := atoms_spec (ws := wsX10_readData) B.pre
  have hown : s.vm.findClass RX10 = some m.cls := findClass_of_methodNamed B.named
  have hlocks := B.notSynchronized
  have h00 : b0 ≤ s.heap.size := hH.1
  have hS : va_S (th_A b0) s.heap s.heap [] := va_S.rf
  have hF : fr [12, 5, 3, 1] E σ σ := fr.rf
  have inX10 : ∀ w ∈ wsX100, w ∈ wsX10_readData := by decide +kernel
  have fl0 := hts (.fieldLink RX10 40 "NestQuery" "dataReader" "LNestQuery$DataReader;") (by decide +kernel)
  have fl1 := hts (.fieldLink RX10 9 "NestQuery" "tape" "[I") (by decide +kernel)
  have fl2 := hts (.fieldLink RX10 56 "NestQuery" "data" "LNestQuery$Tree;") (by decide +kernel)
  have hl := lv_entry ([.ref a, .int (I i)]) (n := 3) (Nat.le_of_ble_eq_true rfl)
  rw [lg_entry_eq]
  generalize (lg_sl ([.ref a, .int (I i)]) ++ List.replicate (3 - (lg_sl ([.ref a, .int (I i)])).length) Slot.unset).toArray = ls at hl ⊢
  have hl : lv_has ls 3 [(0, .ref a), (1, .int (I i))] := hl
  refine lv_aload_n hx hb dX10_readData_0 rfl (lv_at hl 0 rfl) ?_
  have hp_1 : kd E (ad E a 6) = 10 := ok.pk hO h_a (by decide) k12_6 rfl
  refine ok.getR hO h_a (by decide) k12_6 (by decide) (fun _ _ he hv kk => th_get (ci := 10) (C := RX10) (T := TX10) (N := 18) hx hb hts inX10 hown hK hH he rfl 6 (by decide) fl0 hv dX10_readData_1 kk) ?_
  refine lv_aload_n hx hb dX10_readData_4 rfl (lv_at hl 0 rfl) ?_
  refine ok.getR hO h_a (by decide) k12_0 (by decide) (fun _ _ he hv kk => th_get (ci := 10) (C := RX10) (T := TX10) (N := 18) hx hb hts inX10 hown hK hH he rfl 0 (by decide) fl1 hv dX10_readData_5 kk) ?_
  refine lv_iload_n hx hb dX10_readData_8 rfl (lv_at hl 1 rfl) ?_
  refine lv_aload_n hx hb dX10_readData_9 rfl (lv_at hl 0 rfl) ?_
  have hp_2 : kd E (ad E a 8) = 1 := ok.pk hO h_a (by decide) k12_8 rfl
  refine ok.getR hO h_a (by decide) k12_8 (by decide) (fun _ _ he hv kk => th_get (ci := 10) (C := RX10) (T := TX10) (N := 18) hx hb hts inX10 hown hK hH he rfl 8 (by decide) fl2 hv dX10_readData_10 kk) ?_
  obtain ⟨_, hc_3⟩ := hO.cell hp_1 (by decide) (ci := 1) rfl
  refine th_calli (va_runV (As := [.ref (ad E a 0), .int (I i), .ref (ad E a 8)]) (rest := []) ⟨hx, hb, hml, hown, hts⟩ (r_read l G y b0 σ E hO (ad E a 6) hp_1 a h_a i (show rng i from ri) (ad E a 8) hp_2) (cwV 3 hts gX10_readData_X1_read rfl rfl rfl (by decide +kernel) ⟨Nat.le_of_ble_eq_true rfl, Nat.le_of_ble_eq_true rfl⟩) (th_PV hK hH rfl hc_3) rfl rfl hl.1 rfl (lv_room (Nat.le_of_ble_eq_true rfl)) dX10_readData_13 ⟨Nat.le_of_ble_eq_true rfl, Nat.le_of_ble_eq_true rfl⟩) hS (fun z_6 σ_s_5 H locs rz_6 hw_4 hH hS => ?_)
  obtain ⟨hO9, hF9, hw_4⟩ := hw_4
  replace hO := hO9
  replace hF := hF.tu hF9 (by decide)
  refine lv_istore_n (lv' := [(2, .int (I z_6)), (0, .ref a), (1, .int (I i))]) hx hb dX10_readData_16 rfl hl (by decide) rfl (fun ls hl => ?_)
  refine lv_aload_n hx hb dX10_readData_17 rfl (lv_at hl 1 rfl) ?_
  refine lv_iload_n hx hb dX10_readData_18 rfl (lv_at hl 0 rfl) ?_
  obtain ⟨_, hc_7⟩ := hO.cell h_a (by decide) (ci := 10) rfl
  refine th_callv (va_runV (As := [.int (I z_6)]) (rest := []) ⟨hx, hb, hml, hown, hts⟩ (q_textWasRead l G y b0 σ_s_5 E hO a h_a z_6 (show rng z_6 from rz_6)) (cwV 1 hts gX10_readData_X10_textWasRead rfl rfl rfl (by decide +kernel) ⟨Nat.le_of_ble_eq_true rfl, Nat.le_of_ble_eq_true rfl⟩) (th_PV hK hH rfl hc_7) rfl rfl hl.1 rfl (lv_room (Nat.le_of_ble_eq_true rfl)) dX10_readData_19 ⟨Nat.le_of_ble_eq_true rfl, Nat.le_of_ble_eq_true rfl⟩) hS (fun σ_s_9 H locs hw_8 hH hS => ?_)
  obtain ⟨hO9, hF9, hw_8⟩ := hw_8
  replace hO := hO9
  replace hF := hF.tu hF9 (by decide)
  have hw_8 : gI σ_s_9 a 1 = 0 := hw_8
  refine lv_iload_n hx hb dX10_readData_22 rfl (lv_at hl 0 rfl) ?_
  exact th_iret hx hb hr hlocks hH hS (z := z_6) rz_6 ⟨hO, hF, by omega⟩ dX10_readData_23

set_option maxHeartbeats 1000000 in
set_option maxRecDepth 100000 in
theorem q_unread (l : Launch) (G : va_G) (y : Nat → ClassId) (b0 : Nat) (σ : th_M) (E : th_E) (hO : ok y E σ) (a : Nat) (h_a : kd E a = 12) : Met l yX10_refusedUnread wsX10_refusedUnread ({ frames := 1, cells := 0, slots := 0, locals := 25 }) (th_P G y b0 σ [.ref a]) (th_Qi G b0 (fun r σ1 => ok y E σ1 ∧ fr [12, 5] E σ σ1 ∧ ((gI σ1 a 2 = gI σ a 2 ∧ gI σ1 a 1 = 0) ∧ aF σ1 (ad E a 0) = aF σ (ad E a 0) ∧ aQ σ1 (ad E a 3) = aQ σ (ad E a 3)))) 0 0 (th_A b0) := by
  refine Met.ofW (cc := cX10_refusedUnread) (maxL := 1) (ret := (some .int)) (by decide) rfl ?_
  intro p e s m args below meth c s₁ B hml hv
  obtain ⟨rfl, hH, hK⟩ := hv
  have hx := B.exec
  have hb := B.bytes
  have hr := B.returns
  have hts := atoms_spec (ws := wsX10_refusedUnread) B.pre
  have hown : s.vm.findClass RX10 = some m.cls := findClass_of_methodNamed B.named
  have hlocks := B.notSynchronized
  have h00 : b0 ≤ s.heap.size := hH.1
  have hS : va_S (th_A b0) s.heap s.heap [] := va_S.rf
  have hF : fr [12, 5] E σ σ := fr.rf
  have inX10 : ∀ w ∈ wsX100, w ∈ wsX10_refusedUnread := by decide +kernel
  have fl0 := hts (.fieldLink RX10 114 "NestQuery" "tapeCount" "I") (by decide +kernel)
  have fl1 := hts (.fieldLink RX10 63 "NestQuery" "now" "LNestQuery$State;") (by decide +kernel)
  have hl := lv_entry ([.ref a]) (n := 1) (Nat.le_of_ble_eq_true rfl)
  rw [lg_entry_eq]
  generalize (lg_sl ([.ref a]) ++ List.replicate (1 - (lg_sl ([.ref a])).length) Slot.unset).toArray = ls at hl ⊢
  have hl : lv_has ls 1 [(0, .ref a)] := hl
  obtain ⟨a20, ea20, ra20, la20, ua20⟩ := hO.gi h_a (by decide) k12_2
  obtain ⟨f_1, ef_2⟩ : ∃ f9, aF σ (ad E a 0) = f9 := ⟨_, rfl⟩
  have h0row := ef_2
  obtain ⟨f_3, eq_4⟩ : ∃ f9, aQ σ (ad E a 3) = f9 := ⟨_, rfl⟩
  have h0q := eq_4
  refine lv_aload_n hx hb dX10_refusedUnread_0 rfl (lv_at hl 0 rfl) ?_
  refine lv_iconst (v := I 0) hx hb dX10_refusedUnread_1 (by decide) ?_
  refine ok.putIw hO h_a (by decide) k12_1 (show rng 0 from ⟨by decide, by decide⟩) (by omega) (by omega) (fun _ he hl9 kk => th_put (ci := 10) (v := .int (I 0)) (ty := .int) (C := RX10) (T := TX10) (N := 18) hx hb hts inX10 tyX10 tyX10_ok nmX10 hown hK hH hS h00 he rfl 1 (by decide) fl0 rfl (by decide +kernel) rfl rfl hl9 dX10_refusedUnread_2 kk) (fun σ_s_5 H locs hO hF9 hg9 hi9 ha9 hu9 hH hS => ?_)
  replace hF := hF.tu hF9 (by decide)
  have e_6 : gI σ_s_5 a 2 = a20 := (hi9 _ _ (Or.inr (by decide))).trans ea20
  have ef_7 : aF σ_s_5 (ad E a 0) = f_1 := (ha9 _).trans ef_2
  have eq_8 : aQ σ_s_5 (ad E a 3) = f_3 := (hu9.q (ok.qo hO h_a (by decide) k12_3 (by decide))).trans eq_4
  have e_9 := hg9
  refine lv_aload_n hx hb dX10_refusedUnread_5 rfl (lv_at hl 0 rfl) ?_
  have hp_10 : kd E (ad E a 9) = 5 := ok.pk hO h_a (by decide) k12_9 rfl
  refine ok.getR hO h_a (by decide) k12_9 (by decide) (fun _ _ he hv kk => th_get (ci := 10) (C := RX10) (T := TX10) (N := 18) hx hb hts inX10 hown hK hH he rfl 9 (by decide) fl1 hv dX10_refusedUnread_6 kk) ?_
  refine lv_iconst (v := I 1) hx hb dX10_refusedUnread_9 (by decide) ?_
  obtain ⟨_, hc_11⟩ := hO.cell hp_10 (by decide) (ci := 6) rfl
  refine th_callv (va_runV (As := [.int (I 1)]) (rest := []) ⟨hx, hb, hml, hown, hts⟩ (e_refuse l G y b0 σ_s_5 E hO (ad E a 9) hp_10 1 (show rng 1 from (show rng 1 from ⟨by decide, by decide⟩))) (cwV 1 hts gX10_refusedUnread_X6_refuse rfl rfl rfl (by decide +kernel) ⟨Nat.le_of_ble_eq_true rfl, Nat.le_of_ble_eq_true rfl⟩) (th_PV hK hH rfl hc_11) rfl rfl hl.1 rfl (lv_room (Nat.le_of_ble_eq_true rfl)) dX10_refusedUnread_10 ⟨Nat.le_of_ble_eq_true rfl, Nat.le_of_ble_eq_true rfl⟩) hS (fun σ_s_13 H locs hw_12 hH hS => ?_)
  obtain ⟨hO9, hF9, hw_12⟩ := hw_12
  have e_14 : gI σ_s_13 a 2 = a20 := (fr.ki hO hF9 h_a (by decide) (by decide) _).trans e_6
  have e_15 : gI σ_s_13 a 1 = 0 := (fr.ki hO hF9 h_a (by decide) (by decide) _).trans e_9
  have ef_16 : aF σ_s_13 (ad E a 0) = f_1 := (fr.af hO hF9 h_a (by decide) (by decide) k12_0 isA1).trans ef_7
  have eq_17 : aQ σ_s_13 (ad E a 3) = f_3 := (fr.aq hO hF9 h_a (by decide) (by decide) k12_3).trans eq_8
  replace hO := hO9
  replace hF := hF.tu hF9 (by decide)
  refine lv_iconst (v := I (-1)) hx hb dX10_refusedUnread_13 (by decide) ?_
  exact th_iret hx hb hr hlocks hH hS (z := (-1)) (show rng (-1) from ⟨by decide, by decide⟩) ⟨hO, hF, ⟨by omega, (ef_16.trans h0row.symm), (eq_17.trans h0q.symm)⟩⟩ dX10_refusedUnread_14

set_option maxHeartbeats 1000000 in
set_option maxRecDepth 100000 in
theorem q_actDone (l : Launch) (G : va_G) (y : Nat → ClassId) (b0 : Nat) (σ : th_M) (E : th_E) (hO : ok y E σ) (a : Nat) (h_a : kd E a = 12) (i : Int) (ri : rng i) : Met l yX10_actDone wsX10_actDone ({ frames := 1, cells := 0, slots := 0, locals := 25 }) (th_P G y b0 σ [.ref a, .int (I i)]) (th_Qi G b0 (fun r σ1 => ok y E σ1 ∧ fr [5] E σ σ1 ∧ (True))) 0 0 (th_A b0) := by
  refine Met.ofW (cc := cX10_actDone) (maxL := 2) (ret := (some .int)) (by decide) rfl ?_
  intro p e s m args below meth c s₁ B hml hv
  obtain ⟨rfl, hH, hK⟩ := hv
  have hx := B.exec
  have hb := B.bytes
  have hr := B.returns
  have hts := atoms_spec (ws := wsX10_actDone) B.pre
  have hown : s.vm.findClass RX10 = some m.cls := findClass_of_methodNamed B.named
  have hlocks := B.notSynchronized
  have h00 : b0 ≤ s.heap.size := hH.1
  have hS : va_S (th_A b0) s.heap s.heap [] := va_S.rf
  have hF : fr [5] E σ σ := fr.rf
  have inX10 : ∀ w ∈ wsX100, w ∈ wsX10_actDone := by decide +kernel
  have fl0 := hts (.fieldLink RX10 63 "NestQuery" "now" "LNestQuery$State;") (by decide +kernel)
  have hl := lv_entry ([.ref a, .int (I i)]) (n := 2) (Nat.le_of_ble_eq_true rfl)
  rw [lg_entry_eq]
  generalize (lg_sl ([.ref a, .int (I i)]) ++ List.replicate (2 - (lg_sl ([.ref a, .int (I i)])).length) Slot.unset).toArray = ls at hl ⊢
  have hl : lv_has ls 2 [(0, .ref a), (1, .int (I i))] := hl
  refine lv_iload_n hx hb dX10_actDone_0 rfl (lv_at hl 1 rfl) ?_
  refine lv_iconst (v := I (-1)) hx hb dX10_actDone_1 (by decide) ?_
  refine lv_icmp_ne (tgt := 13) hx hb dX10_actDone_2 (by decide) (fun c_1 => ?_) (fun c_1 => ?_)
  · replace c_1 := mt (I_eq (a := i) (b := (-1)) ri (show rng (-1) from ⟨by decide, by decide⟩)).mpr c_1
    refine lv_iload_n hx hb dX10_actDone_13 rfl (lv_at hl 1 rfl) ?_
    exact th_iret hx hb hr hlocks hH hS (z := i) ri ⟨hO, hF, trivial⟩ dX10_actDone_14
  · replace c_1 := (I_eq (a := i) (b := (-1)) ri (show rng (-1) from ⟨by decide, by decide⟩)).mp c_1
    refine lv_aload_n hx hb dX10_actDone_5 rfl (lv_at hl 0 rfl) ?_
    have hp_2 : kd E (ad E a 9) = 5 := ok.pk hO h_a (by decide) k12_9 rfl
    refine ok.getR hO h_a (by decide) k12_9 (by decide) (fun _ _ he hv kk => th_get (ci := 10) (C := RX10) (T := TX10) (N := 18) hx hb hts inX10 hown hK hH he rfl 9 (by decide) fl0 hv dX10_actDone_6 kk) ?_
    refine lv_iconst (v := I 1) hx hb dX10_actDone_9 (by decide) ?_
    obtain ⟨_, hc_3⟩ := hO.cell hp_2 (by decide) (ci := 6) rfl
    refine th_callv (va_runV (As := [.int (I 1)]) (rest := []) ⟨hx, hb, hml, hown, hts⟩ (e_refuse l G y b0 σ E hO (ad E a 9) hp_2 1 (show rng 1 from (show rng 1 from ⟨by decide, by decide⟩))) (cwV 1 hts gX10_actDone_X6_refuse rfl rfl rfl (by decide +kernel) ⟨Nat.le_of_ble_eq_true rfl, Nat.le_of_ble_eq_true rfl⟩) (th_PV hK hH rfl hc_3) rfl rfl hl.1 rfl (lv_room (Nat.le_of_ble_eq_true rfl)) dX10_actDone_10 ⟨Nat.le_of_ble_eq_true rfl, Nat.le_of_ble_eq_true rfl⟩) hS (fun σ_s_5 H locs hw_4 hH hS => ?_)
    obtain ⟨hO9, hF9, hw_4⟩ := hw_4
    replace hO := hO9
    replace hF := hF.tu hF9 (by decide)
    refine lv_iload_n hx hb dX10_actDone_13 rfl (lv_at hl 1 rfl) ?_
    exact th_iret hx hb hr hlocks hH hS (z := i) ri ⟨hO, hF, trivial⟩ dX10_actDone_14

set_option maxHeartbeats 1000000 in
set_option maxRecDepth 100000 in
theorem q_fault (l : Launch) (G : va_G) (y : Nat → ClassId) (b0 : Nat) (σ : th_M) (E : th_E) (hO : ok y E σ) (a : Nat) (h_a : kd E a = 12) : Met l yX10_fault wsX10_fault ({ frames := 0, cells := 0, slots := 0, locals := 0 }) (th_P G y b0 σ [.ref a]) (th_Qi G b0 (fun r σ1 => σ1 = σ ∧ (r = gI σ a 2))) 0 0 (th_A b0) := by
  refine Met.ofW (cc := cX10_fault) (maxL := 1) (ret := (some .int)) (by decide) rfl ?_
  intro p e s m args below meth c s₁ B hml hv
  obtain ⟨rfl, hH, hK⟩ := hv
  have hx := B.exec
  have hb := B.bytes
  have hr := B.returns
  have hts := atoms_spec (ws := wsX10_fault) B.pre
  have hown : s.vm.findClass RX10 = some m.cls := findClass_of_methodNamed B.named
  have hlocks := B.notSynchronized
  have h00 : b0 ≤ s.heap.size := hH.1
  have hS : va_S (th_A b0) s.heap s.heap [] := va_S.rf
  have inX10 : ∀ w ∈ wsX100, w ∈ wsX10_fault := by decide +kernel
  have fl0 := hts (.fieldLink RX10 13 "NestQuery" "faultPlace" "I") (by decide +kernel)
  have hl := lv_entry ([.ref a]) (n := 1) (Nat.le_of_ble_eq_true rfl)
  rw [lg_entry_eq]
  generalize (lg_sl ([.ref a]) ++ List.replicate (1 - (lg_sl ([.ref a])).length) Slot.unset).toArray = ls at hl ⊢
  have hl : lv_has ls 1 [(0, .ref a)] := hl
  obtain ⟨a20, ea20, ra20, la20, ua20⟩ := hO.gi h_a (by decide) k12_2
  refine lv_aload_n hx hb dX10_fault_0 rfl (lv_at hl 0 rfl) ?_
  refine ok.getIc hO h_a (by decide) k12_2 ea20 (fun _ _ he hv kk => th_get (ci := 10) (C := RX10) (T := TX10) (N := 18) hx hb hts inX10 hown hK hH he rfl 2 (by decide) fl0 hv dX10_fault_1 kk) ?_
  exact th_iret hx hb hr hlocks hH hS (z := a20) ra20 ⟨rfl, by omega⟩ dX10_fault_4

set_option maxHeartbeats 1000000 in
set_option maxRecDepth 100000 in
theorem q_forget (l : Launch) (G : va_G) (y : Nat → ClassId) (b0 : Nat) (σ : th_M) (E : th_E) (hO : ok y E σ) (a : Nat) (h_a : kd E a = 12) : Met l yX10_forget wsX10_forget ({ frames := 0, cells := 0, slots := 0, locals := 0 }) (th_P G y b0 σ [.ref a]) (th_Qv G b0 (fun σ1 => ok y E σ1 ∧ fr [5] E σ σ1 ∧ (True))) 0 0 (th_A b0) := by
  refine Met.ofW (cc := cX10_forget) (maxL := 1) (ret := none) (by decide) rfl ?_
  intro p e s m args below meth c s₁ B hml hv
  obtain ⟨rfl, hH, hK⟩ := hv
  have hx := B.exec
  have hb := B.bytes
  have hr := B.returns
  have hts := atoms_spec (ws := wsX10_forget) B.pre
  have hown : s.vm.findClass RX10 = some m.cls := findClass_of_methodNamed B.named
  have hlocks := B.notSynchronized
  have h00 : b0 ≤ s.heap.size := hH.1
  have hS : va_S (th_A b0) s.heap s.heap [] := va_S.rf
  have hF : fr [5] E σ σ := fr.rf
  have inX10 : ∀ w ∈ wsX100, w ∈ wsX10_forget := by decide +kernel
  have inX6 : ∀ w ∈ wsX60, w ∈ wsX10_forget := by decide +kernel
  have fl0 := hts (.fieldLink RX10 63 "NestQuery" "now" "LNestQuery$State;") (by decide +kernel)
  have hl := lv_entry ([.ref a]) (n := 1) (Nat.le_of_ble_eq_true rfl)
  rw [lg_entry_eq]
  generalize (lg_sl ([.ref a]) ++ List.replicate (1 - (lg_sl ([.ref a])).length) Slot.unset).toArray = ls at hl ⊢
  have hl : lv_has ls 1 [(0, .ref a)] := hl
  refine lv_aload_n hx hb dX10_forget_0 rfl (lv_at hl 0 rfl) ?_
  have hp_1 : kd E (ad E a 9) = 5 := ok.pk hO h_a (by decide) k12_9 rfl
  refine ok.getR hO h_a (by decide) k12_9 (by decide) (fun _ _ he hv kk => th_get (ci := 10) (C := RX10) (T := TX10) (N := 18) hx hb hts inX10 hown hK hH he rfl 9 (by decide) fl0 hv dX10_forget_1 kk) ?_
  refine lv_iconst (v := I 0) hx hb dX10_forget_4 (by decide) ?_
  refine ok.putI hO hp_1 (by decide) k5_5 (show rng 0 from ⟨by decide, by decide⟩) (by omega) (by omega) (fun _ he hl9 kk => th_putN (ci := 6) (v := .int (I 0)) (ty := .int) (C := RX6) (T := TX6) (N := 7) hx hb hts inX6 tyX6 tyX6_ok nmX6 hown hK hH hS h00 he rfl 5 (by decide) (nl_16 hK) rfl (by decide +kernel) rfl rfl hl9 dX10_forget_5 kk) (fun σ_s_2 H locs hO hF9 hg9 hi9 ha9 hH hS => ?_)
  replace hF := hF.tu hF9 (by decide)
  have e_3 := hg9
  exact th_vret hx hb hr hlocks hH hS ⟨hO, hF, trivial⟩ dX10_forget_8

set_option maxHeartbeats 1000000 in
set_option maxRecDepth 100000 in
theorem q_keep (l : Launch) (G : va_G) (y : Nat → ClassId) (b0 : Nat) (σ : th_M) (E : th_E) (hO : ok y E σ) (a : Nat) (h_a : kd E a = 12) : Met l yX10_keep wsX10_keep ({ frames := 144, cells := 0, slots := 0, locals := 4214 }) (th_P G y b0 σ [.ref a]) (th_Qi G b0 (fun r σ1 => ok y E σ1 ∧ fr [7, 1] E σ σ1 ∧ (True))) 0 0 (th_A b0) := by
  refine Met.ofW (cc := cX10_keep) (maxL := 1) (ret := (some .int)) (by decide) rfl ?_
  intro p e s m args below meth c s₁ B hml hv
  obtain ⟨rfl, hH, hK⟩ := hv
  have hx := B.exec
  have hb := B.bytes
  have hr := B.returns
  have hts := atoms_spec (ws := wsX10_keep) B.pre
  have hown : s.vm.findClass RX10 = some m.cls := findClass_of_methodNamed B.named
  have hlocks := B.notSynchronized
  have h00 : b0 ≤ s.heap.size := hH.1
  have hS : va_S (th_A b0) s.heap s.heap [] := va_S.rf
  have hF : fr [7, 1] E σ σ := fr.rf
  have inX10 : ∀ w ∈ wsX100, w ∈ wsX10_keep := by decide +kernel
  have inX6 : ∀ w ∈ wsX60, w ∈ wsX10_keep := by decide +kernel
  have fl0 := hts (.fieldLink RX10 145 "NestQuery" "imageThere" "Z") (by decide +kernel)
  have fl1 := hts (.fieldLink RX10 82 "NestQuery" "kept" "LNestQuery$Patch;") (by decide +kernel)
  have fl2 := hts (.fieldLink RX10 67 "NestQuery" "imaged" "LNestQuery$State;") (by decide +kernel)
  have fl3 := hts (.fieldLink RX10 63 "NestQuery" "now" "LNestQuery$State;") (by decide +kernel)
  have hl := lv_entry ([.ref a]) (n := 1) (Nat.le_of_ble_eq_true rfl)
  rw [lg_entry_eq]
  generalize (lg_sl ([.ref a]) ++ List.replicate (1 - (lg_sl ([.ref a])).length) Slot.unset).toArray = ls at hl ⊢
  have hl : lv_has ls 1 [(0, .ref a)] := hl
  refine lv_aload_n hx hb dX10_keep_0 rfl (lv_at hl 0 rfl) ?_
  refine ok.getI hO h_a (by decide) k12_11 (fun _ _ he hv kk => th_get (ci := 10) (C := RX10) (T := TX10) (N := 18) hx hb hts inX10 hown hK hH he rfl 11 (by decide) fl0 hv dX10_keep_1 kk) (fun z_1 e_2 rz_1 lz_1 uz_1 => ?_)
  refine lv_if_eq (tgt := 31) hx hb dX10_keep_4 (by decide) (fun c_3 => ?_) (fun c_3 => ?_)
  · replace c_3 := (I_eq (a := z_1) (b := 0) rz_1 (show rng 0 from ⟨by decide, by decide⟩)).mp c_3
    refine lv_iconst (v := I (-1)) hx hb dX10_keep_31 (by decide) ?_
    exact th_iret hx hb hr hlocks hH hS (z := (-1)) (show rng (-1) from ⟨by decide, by decide⟩) ⟨hO, hF, trivial⟩ dX10_keep_32
  · replace c_3 := mt (I_eq (a := z_1) (b := 0) rz_1 (show rng 0 from ⟨by decide, by decide⟩)).mpr c_3
    refine lv_aload_n hx hb dX10_keep_7 rfl (lv_at hl 0 rfl) ?_
    have hp_4 : kd E (ad E a 13) = 7 := ok.pk hO h_a (by decide) k12_13 rfl
    refine ok.getR hO h_a (by decide) k12_13 (by decide) (fun _ _ he hv kk => th_get (ci := 10) (C := RX10) (T := TX10) (N := 18) hx hb hts inX10 hown hK hH he rfl 13 (by decide) fl1 hv dX10_keep_8 kk) ?_
    refine lv_aload_n hx hb dX10_keep_11 rfl (lv_at hl 0 rfl) ?_
    have hp_5 : kd E (ad E a 10) = 5 := ok.pk hO h_a (by decide) k12_10 rfl
    refine ok.getR hO h_a (by decide) k12_10 (by decide) (fun _ _ he hv kk => th_get (ci := 10) (C := RX10) (T := TX10) (N := 18) hx hb hts inX10 hown hK hH he rfl 10 (by decide) fl2 hv dX10_keep_12 kk) ?_
    have hp_6 : kd E (ad E (ad E a 10) 0) = 1 := ok.pk hO hp_5 (by decide) k5_0 rfl
    refine ok.getR hO hp_5 (by decide) k5_0 (by decide) (fun _ _ he hv kk => th_getN (ci := 6) (C := RX6) (T := TX6) (N := 7) hx hb hts inX6 hown hK hH he rfl 0 (by decide) (nl_13 hK) hv dX10_keep_15 kk) ?_
    refine lv_aload_n hx hb dX10_keep_18 rfl (lv_at hl 0 rfl) ?_
    have hp_7 : kd E (ad E a 9) = 5 := ok.pk hO h_a (by decide) k12_9 rfl
    refine ok.getR hO h_a (by decide) k12_9 (by decide) (fun _ _ he hv kk => th_get (ci := 10) (C := RX10) (T := TX10) (N := 18) hx hb hts inX10 hown hK hH he rfl 9 (by decide) fl3 hv dX10_keep_19 kk) ?_
    have hp_8 : kd E (ad E (ad E a 9) 0) = 1 := ok.pk hO hp_7 (by decide) k5_0 rfl
    refine ok.getR hO hp_7 (by decide) k5_0 (by decide) (fun _ _ he hv kk => th_getN (ci := 6) (C := RX6) (T := TX6) (N := 7) hx hb hts inX6 hown hK hH he rfl 0 (by decide) (nl_13 hK) hv dX10_keep_22 kk) ?_
    obtain ⟨_, hc_9⟩ := hO.cell hp_4 (by decide) (ci := 3) rfl
    refine th_calli (va_runV (As := [.ref (ad E (ad E a 10) 0), .ref (ad E (ad E a 9) 0)]) (rest := []) ⟨hx, hb, hml, hown, hts⟩ (h_compare l G y b0 σ E hO (ad E a 13) hp_4 (ad E (ad E a 10) 0) hp_6 (ad E (ad E a 9) 0) hp_8) (cwV 2 hts gX10_keep_X3_compare rfl rfl rfl (by decide +kernel) ⟨Nat.le_of_ble_eq_true rfl, Nat.le_of_ble_eq_true rfl⟩) (th_PV hK hH rfl hc_9) rfl rfl hl.1 rfl (lv_room (Nat.le_of_ble_eq_true rfl)) dX10_keep_25 ⟨Nat.le_of_ble_eq_true rfl, Nat.le_of_ble_eq_true rfl⟩) hS (fun z_12 σ_s_11 H locs rz_12 hw_10 hH hS => ?_)
    obtain ⟨hO9, hF9, hw_10⟩ := hw_10
    have e_13 : gI σ_s_11 a 11 = z_1 := (fr.ki hO hF9 h_a (by decide) (by decide) _).trans e_2
    replace hO := hO9
    replace hF := hF.tu hF9 (by decide)
    refine lv_goto (tgt := 32) hx hb dX10_keep_28 (by decide) ?_
    exact th_iret hx hb hr hlocks hH hS (z := z_12) rz_12 ⟨hO, hF, trivial⟩ dX10_keep_32

set_option maxHeartbeats 1000000 in
set_option maxRecDepth 100000 in
theorem q_undo (l : Launch) (G : va_G) (y : Nat → ClassId) (b0 : Nat) (σ : th_M) (E : th_E) (hO : ok y E σ) (a : Nat) (h_a : kd E a = 12) : Met l yX10_undo wsX10_undo ({ frames := 3, cells := 0, slots := 0, locals := 111 }) (th_P G y b0 σ [.ref a]) (th_Qi G b0 (fun r σ1 => ok y E σ1 ∧ fr [5, 1] E σ σ1 ∧ (True))) 0 0 (th_A b0) := by
  refine Met.ofW (cc := cX10_undo) (maxL := 1) (ret := (some .int)) (by decide) rfl ?_
  intro p e s m args below meth c s₁ B hml hv
  obtain ⟨rfl, hH, hK⟩ := hv
  have hx := B.exec
  have hb := B.bytes
  have hr := B.returns
  have hts := atoms_spec (ws := wsX10_undo) B.pre
  have hown : s.vm.findClass RX10 = some m.cls := findClass_of_methodNamed B.named
  have hlocks := B.notSynchronized
  have h00 : b0 ≤ s.heap.size := hH.1
  have hS : va_S (th_A b0) s.heap s.heap [] := va_S.rf
  have hF : fr [5, 1] E σ σ := fr.rf
  have inX10 : ∀ w ∈ wsX100, w ∈ wsX10_undo := by decide +kernel
  have fl0 := hts (.fieldLink RX10 63 "NestQuery" "now" "LNestQuery$State;") (by decide +kernel)
  have hl := lv_entry ([.ref a]) (n := 1) (Nat.le_of_ble_eq_true rfl)
  rw [lg_entry_eq]
  generalize (lg_sl ([.ref a]) ++ List.replicate (1 - (lg_sl ([.ref a])).length) Slot.unset).toArray = ls at hl ⊢
  have hl : lv_has ls 1 [(0, .ref a)] := hl
  refine lv_aload_n hx hb dX10_undo_0 rfl (lv_at hl 0 rfl) ?_
  have hp_1 : kd E (ad E a 9) = 5 := ok.pk hO h_a (by decide) k12_9 rfl
  refine ok.getR hO h_a (by decide) k12_9 (by decide) (fun _ _ he hv kk => th_get (ci := 10) (C := RX10) (T := TX10) (N := 18) hx hb hts inX10 hown hK hH he rfl 9 (by decide) fl0 hv dX10_undo_1 kk) ?_
  obtain ⟨_, hc_2⟩ := hO.cell hp_1 (by decide) (ci := 6) rfl
  refine th_calli (va_runV (As := []) (rest := []) ⟨hx, hb, hml, hown, hts⟩ (e_stepBack l G y b0 σ E hO (ad E a 9) hp_1) (cwV 0 hts gX10_undo_X6_stepBack rfl rfl rfl (by decide +kernel) ⟨Nat.le_of_ble_eq_true rfl, Nat.le_of_ble_eq_true rfl⟩) (th_PV hK hH rfl hc_2) rfl rfl hl.1 rfl (lv_room (Nat.le_of_ble_eq_true rfl)) dX10_undo_4 ⟨Nat.le_of_ble_eq_true rfl, Nat.le_of_ble_eq_true rfl⟩) hS (fun z_5 σ_s_4 H locs rz_5 hw_3 hH hS => ?_)
  obtain ⟨hO9, hF9, hw_3⟩ := hw_3
  replace hO := hO9
  replace hF := hF.tu hF9 (by decide)
  exact th_iret hx hb hr hlocks hH hS (z := z_5) rz_5 ⟨hO, hF, trivial⟩ dX10_undo_7

set_option maxHeartbeats 1000000 in
set_option maxRecDepth 100000 in
theorem q_note (l : Launch) (G : va_G) (y : Nat → ClassId) (b0 : Nat) (σ : th_M) (E : th_E) (hO : ok y E σ) (a : Nat) (h_a : kd E a = 12) (i : Int) (ri : rng i) (w : Int) (rw : rng w) (l_w : 0 ≤ w) (u_w : w ≤ 1) : Met l yX10_note wsX10_note ({ frames := 1, cells := 0, slots := 0, locals := 26 }) (th_P G y b0 σ [.ref a, .int (I i), .int (I w)]) (th_Qi G b0 (fun r σ1 => ok y E σ1 ∧ fr [5] E σ σ1 ∧ (True))) 0 0 (th_A b0) := by
  refine Met.ofW (cc := cX10_note) (maxL := 3) (ret := (some .int)) (by decide) rfl ?_
  intro p e s m args below meth c s₁ B hml hv
  obtain ⟨rfl, hH, hK⟩ := hv
  have hx := B.exec
  have hb := B.bytes
  have hr := B.returns
  have hts := atoms_spec (ws := wsX10_note) B.pre
  have hown : s.vm.findClass RX10 = some m.cls := findClass_of_methodNamed B.named
  have hlocks := B.notSynchronized
  have h00 : b0 ≤ s.heap.size := hH.1
  have hS : va_S (th_A b0) s.heap s.heap [] := va_S.rf
  have hF : fr [5] E σ σ := fr.rf
  have inX10 : ∀ w ∈ wsX100, w ∈ wsX10_note := by decide +kernel
  have inX6 : ∀ w ∈ wsX60, w ∈ wsX10_note := by decide +kernel
  have fl0 := hts (.fieldLink RX10 63 "NestQuery" "now" "LNestQuery$State;") (by decide +kernel)
  have hl := lv_entry ([.ref a, .int (I i), .int (I w)]) (n := 3) (Nat.le_of_ble_eq_true rfl)
  rw [lg_entry_eq]
  generalize (lg_sl ([.ref a, .int (I i), .int (I w)]) ++ List.replicate (3 - (lg_sl ([.ref a, .int (I i), .int (I w)])).length) Slot.unset).toArray = ls at hl ⊢
  have hl : lv_has ls 3 [(0, .ref a), (1, .int (I i)), (2, .int (I w))] := hl
  refine lv_aload_n hx hb dX10_note_0 rfl (lv_at hl 0 rfl) ?_
  have hp_1 : kd E (ad E a 9) = 5 := ok.pk hO h_a (by decide) k12_9 rfl
  refine ok.getR hO h_a (by decide) k12_9 (by decide) (fun _ _ he hv kk => th_get (ci := 10) (C := RX10) (T := TX10) (N := 18) hx hb hts inX10 hown hK hH he rfl 9 (by decide) fl0 hv dX10_note_1 kk) ?_
  have hp_2 : kd E (ad E (ad E a 9) 0) = 1 := ok.pk hO hp_1 (by decide) k5_0 rfl
  refine ok.getR hO hp_1 (by decide) k5_0 (by decide) (fun _ _ he hv kk => th_getN (ci := 6) (C := RX6) (T := TX6) (N := 7) hx hb hts inX6 hown hK hH he rfl 0 (by decide) (nl_13 hK) hv dX10_note_4 kk) ?_
  refine lv_iload_n hx hb dX10_note_7 rfl (lv_at hl 1 rfl) ?_
  obtain ⟨z_3, e_4, rz_3, lz_3, uz_3⟩ := hO.gi hp_2 (by decide) k1_4
  obtain ⟨_, hc_5⟩ := hO.cell hp_2 (by decide) (ci := 9) rfl
  refine th_calli (va_runV (As := [.int (I i)]) (rest := []) ⟨hx, hb, hml, hown, hts⟩ (t_has l G y b0 σ (ad E (ad E a 9) 0) (tvE E σ (ad E (ad E a 9) 0) 60) i (hO.isT1 hp_2) (show rng i from ri)) (cwV 1 hts gX10_note_X9_has rfl rfl rfl (by decide +kernel) ⟨Nat.le_of_ble_eq_true rfl, Nat.le_of_ble_eq_true rfl⟩) (th_PV hK hH rfl hc_5) rfl rfl hl.1 rfl (lv_room (Nat.le_of_ble_eq_true rfl)) dX10_note_8 ⟨Nat.le_of_ble_eq_true rfl, Nat.le_of_ble_eq_true rfl⟩) hS (fun z_8 σ_s_7 H locs rz_8 hw_6 hH hS => ?_)
  obtain ⟨e9, hw_6⟩ := hw_6
  replace e9 := e9.symm
  subst e9
  have hw_6 : (z_8 = 1 ∧ 0 ≤ i ∧ i < (gI σ (ad E (ad E a 9) 0) 4)) ∨ (z_8 = 0 ∧ ¬ (0 ≤ i ∧ i < (gI σ (ad E (ad E a 9) 0) 4))) := hw_6
  refine lv_if_eq (tgt := 26) hx hb dX10_note_11 (by decide) (fun c_9 => ?_) (fun c_9 => ?_)
  · replace c_9 := (I_eq (a := z_8) (b := 0) rz_8 (show rng 0 from ⟨by decide, by decide⟩)).mp c_9
    refine lv_aload_n hx hb dX10_note_26 rfl (lv_at hl 0 rfl) ?_
    refine ok.getR hO h_a (by decide) k12_9 (by decide) (fun _ _ he hv kk => th_get (ci := 10) (C := RX10) (T := TX10) (N := 18) hx hb hts inX10 hown hK hH he rfl 9 (by decide) fl0 hv dX10_note_27 kk) ?_
    refine lv_iconst (v := I 2) hx hb dX10_note_30 (by decide) ?_
    obtain ⟨_, hc_10⟩ := hO.cell hp_1 (by decide) (ci := 6) rfl
    refine th_callv (va_runV (As := [.int (I 2)]) (rest := []) ⟨hx, hb, hml, hown, hts⟩ (e_refuse l G y b0 σ E hO (ad E a 9) hp_1 2 (show rng 2 from (show rng 2 from ⟨by decide, by decide⟩))) (cwV 1 hts gX10_note_X6_refuse rfl rfl rfl (by decide +kernel) ⟨Nat.le_of_ble_eq_true rfl, Nat.le_of_ble_eq_true rfl⟩) (th_PV hK hH rfl hc_10) rfl rfl hl.1 rfl (lv_room (Nat.le_of_ble_eq_true rfl)) dX10_note_31 ⟨Nat.le_of_ble_eq_true rfl, Nat.le_of_ble_eq_true rfl⟩) hS (fun σ_s_12 H locs hw_11 hH hS => ?_)
    obtain ⟨hO9, hF9, hw_11⟩ := hw_11
    have e_13 : gI σ_s_12 (ad E (ad E a 9) 0) 4 = z_3 := (fr.ki hO hF9 hp_2 (by decide) (by decide) _).trans e_4
    replace hO := hO9
    replace hF := hF.tu hF9 (by decide)
    refine lv_iconst (v := I (-1)) hx hb dX10_note_34 (by decide) ?_
    exact th_iret hx hb hr hlocks hH hS (z := (-1)) (show rng (-1) from ⟨by decide, by decide⟩) ⟨hO, hF, trivial⟩ dX10_note_35
  · replace c_9 := mt (I_eq (a := z_8) (b := 0) rz_8 (show rng 0 from ⟨by decide, by decide⟩)).mpr c_9
    refine lv_aload_n hx hb dX10_note_14 rfl (lv_at hl 0 rfl) ?_
    refine ok.getR hO h_a (by decide) k12_9 (by decide) (fun _ _ he hv kk => th_get (ci := 10) (C := RX10) (T := TX10) (N := 18) hx hb hts inX10 hown hK hH he rfl 9 (by decide) fl0 hv dX10_note_15 kk) ?_
    refine lv_iload_n hx hb dX10_note_18 rfl (lv_at hl 1 rfl) ?_
    refine lv_iload_n hx hb dX10_note_19 rfl (lv_at hl 2 rfl) ?_
    obtain ⟨_, hc_14⟩ := hO.cell hp_1 (by decide) (ci := 6) rfl
    refine th_calli (va_runV (As := [.int (I i), .int (I w)]) (rest := []) ⟨hx, hb, hml, hown, hts⟩ (e_notes l G y b0 σ E hO (ad E a 9) hp_1 i (show rng i from ri) w (show rng w from rw) (by omega) (by omega)) (cwV 2 hts gX10_note_X6_notes rfl rfl rfl (by decide +kernel) ⟨Nat.le_of_ble_eq_true rfl, Nat.le_of_ble_eq_true rfl⟩) (th_PV hK hH rfl hc_14) rfl rfl hl.1 rfl (lv_room (Nat.le_of_ble_eq_true rfl)) dX10_note_20 ⟨Nat.le_of_ble_eq_true rfl, Nat.le_of_ble_eq_true rfl⟩) hS (fun z_17 σ_s_16 H locs rz_17 hw_15 hH hS => ?_)
    obtain ⟨hO9, hF9, bhw_15, hw_15⟩ := hw_15
    have e_18 : gI σ_s_16 (ad E (ad E a 9) 0) 4 = z_3 := (fr.ki hO hF9 hp_2 (by decide) (by decide) _).trans e_4
    replace hO := hO9
    replace hF := hF.tu hF9 (by decide)
    refine lv_if_ne (tgt := 36) hx hb dX10_note_23 (by decide) (fun c_19 => ?_) (fun c_19 => ?_)
    · replace c_19 := mt (I_eq (a := z_17) (b := 0) rz_17 (show rng 0 from ⟨by decide, by decide⟩)).mpr c_19
      refine lv_aload_n hx hb dX10_note_36 rfl (lv_at hl 0 rfl) ?_
      refine ok.getR hO h_a (by decide) k12_9 (by decide) (fun _ _ he hv kk => th_get (ci := 10) (C := RX10) (T := TX10) (N := 18) hx hb hts inX10 hown hK hH he rfl 9 (by decide) fl0 hv dX10_note_37 kk) ?_
      refine ok.getI hO hp_1 (by decide) k5_5 (fun _ _ he hv kk => th_getN (ci := 6) (C := RX6) (T := TX6) (N := 7) hx hb hts inX6 hown hK hH he rfl 5 (by decide) (nl_16 hK) hv dX10_note_40 kk) (fun z_20 e_21 rz_20 lz_20 uz_20 => ?_)
      exact th_iret hx hb hr hlocks hH hS (z := z_20) rz_20 ⟨hO, hF, trivial⟩ dX10_note_43
    · replace c_19 := (I_eq (a := z_17) (b := 0) rz_17 (show rng 0 from ⟨by decide, by decide⟩)).mp c_19
      refine lv_aload_n hx hb dX10_note_26 rfl (lv_at hl 0 rfl) ?_
      refine ok.getR hO h_a (by decide) k12_9 (by decide) (fun _ _ he hv kk => th_get (ci := 10) (C := RX10) (T := TX10) (N := 18) hx hb hts inX10 hown hK hH he rfl 9 (by decide) fl0 hv dX10_note_27 kk) ?_
      refine lv_iconst (v := I 2) hx hb dX10_note_30 (by decide) ?_
      obtain ⟨_, hc_22⟩ := hO.cell hp_1 (by decide) (ci := 6) rfl
      refine th_callv (va_runV (As := [.int (I 2)]) (rest := []) ⟨hx, hb, hml, hown, hts⟩ (e_refuse l G y b0 σ_s_16 E hO (ad E a 9) hp_1 2 (show rng 2 from (show rng 2 from ⟨by decide, by decide⟩))) (cwV 1 hts gX10_note_X6_refuse rfl rfl rfl (by decide +kernel) ⟨Nat.le_of_ble_eq_true rfl, Nat.le_of_ble_eq_true rfl⟩) (th_PV hK hH rfl hc_22) rfl rfl hl.1 rfl (lv_room (Nat.le_of_ble_eq_true rfl)) dX10_note_31 ⟨Nat.le_of_ble_eq_true rfl, Nat.le_of_ble_eq_true rfl⟩) hS (fun σ_s_24 H locs hw_23 hH hS => ?_)
      obtain ⟨hO9, hF9, hw_23⟩ := hw_23
      have e_25 : gI σ_s_24 (ad E (ad E a 9) 0) 4 = z_3 := (fr.ki hO hF9 hp_2 (by decide) (by decide) _).trans e_18
      replace hO := hO9
      replace hF := hF.tu hF9 (by decide)
      refine lv_iconst (v := I (-1)) hx hb dX10_note_34 (by decide) ?_
      exact th_iret hx hb hr hlocks hH hS (z := (-1)) (show rng (-1) from ⟨by decide, by decide⟩) ⟨hO, hF, trivial⟩ dX10_note_35

set_option maxHeartbeats 1000000 in
set_option maxRecDepth 100000 in
theorem q_pathAt (l : Launch) (G : va_G) (y : Nat → ClassId) (b0 : Nat) (σ : th_M) (E : th_E) (hO : ok y E σ) (a : Nat) (h_a : kd E a = 12) (i : Int) (ri : rng i) : Met l yX10_pathAt wsX10_pathAt ({ frames := 0, cells := 0, slots := 0, locals := 0 }) (th_P G y b0 σ [.ref a, .int (I i)]) (th_Qq G b0 (fun r σ1 => σ1 = σ ∧ (∀ b, r = some b → kd E b = 4) ∧ (True))) 0 0 (th_A b0) := by
  refine Met.ofW (cc := cX10_pathAt) (maxL := 2) (ret := (some (.object "NestQuery$Path"))) (by decide) rfl ?_
  intro p e s m args below meth c s₁ B hml hv
  obtain ⟨rfl, hH, hK⟩ := hv
  have hx := B.exec
  have hb := B.bytes
  have hr := B.returns
  have hts := atoms_spec (ws := wsX10_pathAt) B.pre
  have hown : s.vm.findClass RX10 = some m.cls := findClass_of_methodNamed B.named
  have hlocks := B.notSynchronized
  have h00 : b0 ≤ s.heap.size := hH.1
  have hS : va_S (th_A b0) s.heap s.heap [] := va_S.rf
  have inX10 : ∀ w ∈ wsX100, w ∈ wsX10_pathAt := by decide +kernel
  have fl0 := hts (.fieldLink RX10 19 "NestQuery" "paths" "[LNestQuery$Path;") (by decide +kernel)
  have hl := lv_entry ([.ref a, .int (I i)]) (n := 2) (Nat.le_of_ble_eq_true rfl)
  rw [lg_entry_eq]
  generalize (lg_sl ([.ref a, .int (I i)]) ++ List.replicate (2 - (lg_sl ([.ref a, .int (I i)])).length) Slot.unset).toArray = ls at hl ⊢
  have hl : lv_has ls 2 [(0, .ref a), (1, .int (I i))] := hl
  refine lv_iload_n hx hb dX10_pathAt_0 rfl (lv_at hl 1 rfl) ?_
  refine lv_if_lt (tgt := 9) hx hb dX10_pathAt_1 (by decide) (fun c_1 => ?_) (fun c_1 => ?_)
  · replace c_1 := (I_lt (a := i) (b := 0) ri (show rng 0 from ⟨by decide, by decide⟩)).mp c_1
    refine lv_null hx hb dX10_pathAt_9 ?_
    refine lv_goto (tgt := 19) hx hb dX10_pathAt_10 (by decide) ?_
    exact th_aret hx hb hr hlocks hH hS none ⟨rfl, (fun _ h9 => by cases h9), trivial⟩ dX10_pathAt_19
  · replace c_1 := mt (I_lt (a := i) (b := 0) ri (show rng 0 from ⟨by decide, by decide⟩)).mpr c_1
    refine lv_iload_n hx hb dX10_pathAt_4 rfl (lv_at hl 1 rfl) ?_
    refine lv_iconst (v := I 4) hx hb dX10_pathAt_5 (by decide) ?_
    refine lv_icmp_lt (tgt := 13) hx hb dX10_pathAt_6 (by decide) (fun c_2 => ?_) (fun c_2 => ?_)
    · replace c_2 := (I_lt (a := i) (b := 4) ri (show rng 4 from ⟨by decide, by decide⟩)).mp c_2
      refine lv_aload_n hx hb dX10_pathAt_13 rfl (lv_at hl 0 rfl) ?_
      refine ok.getR hO h_a (by decide) k12_3 (by decide) (fun _ _ he hv kk => th_get (ci := 10) (C := RX10) (T := TX10) (N := 18) hx hb hts inX10 hown hK hH he rfl 3 (by decide) fl0 hv dX10_pathAt_14 kk) ?_
      refine lv_iload_n hx hb dX10_pathAt_17 rfl (lv_at hl 1 rfl) ?_
      refine ok_aald hx hb hK hH hO h_a (by decide) k12_3 (Or.inl rfl) rfl ri (by omega) (by omega) dX10_pathAt_18 (fun x_3 hx_4 => ?_)
      cases x_3 with
      | none =>
        exact th_aret hx hb hr hlocks hH hS none ⟨rfl, (fun _ h9 => by cases h9), trivial⟩ dX10_pathAt_19
      | some b_5 =>
        have hb_6 : kd E b_5 = 4 := hx_4 b_5 rfl
        exact th_aret hx hb hr hlocks hH hS (some b_5) ⟨rfl, (fun _ h9 => by cases h9; exact hb_6), trivial⟩ dX10_pathAt_19
    · replace c_2 := mt (I_lt (a := i) (b := 4) ri (show rng 4 from ⟨by decide, by decide⟩)).mpr c_2
      refine lv_null hx hb dX10_pathAt_9 ?_
      refine lv_goto (tgt := 19) hx hb dX10_pathAt_10 (by decide) ?_
      exact th_aret hx hb hr hlocks hH hS none ⟨rfl, (fun _ h9 => by cases h9), trivial⟩ dX10_pathAt_19

set_option maxHeartbeats 1000000 in
set_option maxRecDepth 100000 in
theorem q_pathsThere (l : Launch) (G : va_G) (y : Nat → ClassId) (b0 : Nat) (σ : th_M) (E : th_E) (hO : ok y E σ) (a : Nat) (h_a : kd E a = 12) : Met l yX10_pathsThere wsX10_pathsThere ({ frames := 0, cells := 0, slots := 0, locals := 0 }) (th_P G y b0 σ [.ref a]) (th_Qi G b0 (fun r σ1 => σ1 = σ ∧ (True))) 0 0 (th_A b0) := by
  refine Met.ofW (cc := cX10_pathsThere) (maxL := 3) (ret := (some .int)) (by decide) rfl ?_
  intro p e s m args below meth c s₁ B hml hv
  obtain ⟨rfl, hH, hK⟩ := hv
  have hx := B.exec
  have hb := B.bytes
  have hr := B.returns
  have hts := atoms_spec (ws := wsX10_pathsThere) B.pre
  have hown : s.vm.findClass RX10 = some m.cls := findClass_of_methodNamed B.named
  have hlocks := B.notSynchronized
  have h00 : b0 ≤ s.heap.size := hH.1
  have hS : va_S (th_A b0) s.heap s.heap [] := va_S.rf
  have inX10 : ∀ w ∈ wsX100, w ∈ wsX10_pathsThere := by decide +kernel
  have fl0 := hts (.fieldLink RX10 19 "NestQuery" "paths" "[LNestQuery$Path;") (by decide +kernel)
  have hl := lv_entry ([.ref a]) (n := 3) (Nat.le_of_ble_eq_true rfl)
  rw [lg_entry_eq]
  generalize (lg_sl ([.ref a]) ++ List.replicate (3 - (lg_sl ([.ref a])).length) Slot.unset).toArray = ls at hl ⊢
  have hl : lv_has ls 3 [(0, .ref a)] := hl
  refine lv_iconst (v := I 0) hx hb dX10_pathsThere_0 (by decide) ?_
  refine lv_istore_n (lv' := [(1, .int (I 0)), (0, .ref a)]) hx hb dX10_pathsThere_1 rfl hl (by decide) rfl (fun ls hl => ?_)
  refine lv_iconst (v := I 0) hx hb dX10_pathsThere_2 (by decide) ?_
  refine lv_istore_n (lv' := [(2, .int (I 0)), (1, .int (I 0)), (0, .ref a)]) hx hb dX10_pathsThere_3 rfl hl (by decide) rfl (fun ls hl => ?_)
  refine th_loop (α := Int × Int) (pc := 4) (fun x9 => (4 - x9.2).toNat) (fun x9 σ9 H9 l9 ls9 => σ9 = σ ∧ th_H G b0 σ9 H9 ∧ va_S (th_A b0) s.heap H9 l9 ∧ lv_has ls9 3 [(0, .ref a), (1, .int (I x9.1)), (2, .int (I x9.2))] ∧ rng x9.1 ∧ rng x9.2 ∧ (0 ≤ x9.2) ∧ (x9.2 ≤ 4)) ?_ (0, 0) σ _ _ _ ⟨rfl, hH, hS, lv_sub hl [2, 1, 0] rfl, (show rng 0 from ⟨by decide, by decide⟩), (show rng 0 from ⟨by decide, by decide⟩), by first | omega | (dsimp only; omega), by first | omega | (dsimp only; omega)⟩
  intro x9 σ_J_10 H locs ls hI9 ihJ_10
  obtain ⟨v1q9, v2q9⟩ := x9
  obtain ⟨eJ_10, hH, hS, hl, rv1q9, rv2q9, J_10_0, J_10_1⟩ := hI9
  replace eJ_10 := eJ_10.symm
  subst eJ_10
  have hl : lv_has ls 3 [(0, .ref a), (1, .int (I v1q9)), (2, .int (I v2q9))] := hl
  have rv1q9 : rng v1q9 := rv1q9
  have rv2q9 : rng v2q9 := rv2q9
  have J_10_0 : 0 ≤ v2q9 := J_10_0
  have J_10_1 : v2q9 ≤ 4 := J_10_1
  refine lv_iload_n hx hb dX10_pathsThere_4 rfl (lv_at hl 2 rfl) ?_
  refine lv_iconst (v := I 4) hx hb dX10_pathsThere_5 (by decide) ?_
  refine lv_icmp_ge (tgt := 30) hx hb dX10_pathsThere_6 (by decide) (fun c_11 => ?_) (fun c_11 => ?_)
  · replace c_11 := (I_le (a := 4) (b := v2q9) (show rng 4 from ⟨by decide, by decide⟩) rv2q9).mp c_11
    refine lv_iload_n hx hb dX10_pathsThere_30 rfl (lv_at hl 1 rfl) ?_
    exact th_iret hx hb hr hlocks hH hS (z := v1q9) rv1q9 ⟨rfl, trivial⟩ dX10_pathsThere_31
  · replace c_11 := mt (I_le (a := 4) (b := v2q9) (show rng 4 from ⟨by decide, by decide⟩) rv2q9).mpr c_11
    refine lv_aload_n hx hb dX10_pathsThere_9 rfl (lv_at hl 0 rfl) ?_
    refine ok.getR hO h_a (by decide) k12_3 (by decide) (fun _ _ he hv kk => th_get (ci := 10) (C := RX10) (T := TX10) (N := 18) hx hb hts inX10 hown hK hH he rfl 3 (by decide) fl0 hv dX10_pathsThere_10 kk) ?_
    refine lv_iload_n hx hb dX10_pathsThere_13 rfl (lv_at hl 2 rfl) ?_
    refine ok_aald hx hb hK hH hO h_a (by decide) k12_3 (Or.inl rfl) rfl rv2q9 (by omega) (by omega) dX10_pathsThere_14 (fun x_12 hx_13 => ?_)
    cases x_12 with
    | none =>
      refine lv_ifnullN (tgt := 24) hx hb dX10_pathsThere_15 (by decide) ?_
      refine lv_iinc (v := I (v2q9 + 1)) (lv' := [(2, .int (I (v2q9 + 1))), (0, .ref a), (1, .int (I v1q9))]) hx hb dX10_pathsThere_24 hl (k := 2) rfl (I_add _ _) (by decide) rfl (fun ls hl => ?_)
      refine lv_goto (tgt := 4) hx hb dX10_pathsThere_27 (by decide) ?_
      exact ihJ_10 (v1q9, v2q9 + 1) σ _ _ _ (by first | omega | (dsimp only; omega)) ⟨rfl, hH, hS, lv_sub hl [1, 2, 0] rfl, rv1q9, ⟨by first | omega | (dsimp only; omega), by first | omega | (dsimp only; omega)⟩, by first | omega | (dsimp only; omega), by first | omega | (dsimp only; omega)⟩
    | some b_14 =>
      have hb_15 : kd E b_14 = 4 := hx_13 b_14 rfl
      refine lv_ifnull hx hb dX10_pathsThere_15 ?_
      refine lv_iload_n hx hb dX10_pathsThere_18 rfl (lv_at hl 1 rfl) ?_
      refine lv_iconst (v := I 1) hx hb dX10_pathsThere_19 (by decide) ?_
      refine lv_iload_n hx hb dX10_pathsThere_20 rfl (lv_at hl 2 rfl) ?_
      refine lv_ishl hx hb dX10_pathsThere_21 ?_
      refine th_topi (fun z_16 rz_16 => ?_)
      refine lv_ior hx hb dX10_pathsThere_22 ?_
      refine th_topi (fun z_17 rz_17 => ?_)
      refine lv_istore_n (lv' := [(1, .int (I z_17)), (0, .ref a), (2, .int (I v2q9))]) hx hb dX10_pathsThere_23 rfl hl (by decide) rfl (fun ls hl => ?_)
      refine lv_iinc (v := I (v2q9 + 1)) (lv' := [(2, .int (I (v2q9 + 1))), (1, .int (I z_17)), (0, .ref a)]) hx hb dX10_pathsThere_24 hl (k := 2) rfl (I_add _ _) (by decide) rfl (fun ls hl => ?_)
      refine lv_goto (tgt := 4) hx hb dX10_pathsThere_27 (by decide) ?_
      exact ihJ_10 (z_17, v2q9 + 1) σ _ _ _ (by first | omega | (dsimp only; omega)) ⟨rfl, hH, hS, lv_sub hl [2, 1, 0] rfl, rz_17, ⟨by first | omega | (dsimp only; omega), by first | omega | (dsimp only; omega)⟩, by first | omega | (dsimp only; omega), by first | omega | (dsimp only; omega)⟩

set_option maxHeartbeats 1000000 in
set_option maxRecDepth 100000 in
theorem q_findAnswers (l : Launch) (G : va_G) (y : Nat → ClassId) (b0 : Nat) (σ : th_M) (E : th_E) (hO : ok y E σ) (a : Nat) (h_a : kd E a = 12) : Met l yX10_findAnswers wsX10_findAnswers ({ frames := 5, cells := 0, slots := 0, locals := 159 }) (th_P G y b0 σ [.ref a]) (th_Qv G b0 (fun σ1 => ok y E σ1 ∧ fr [12] E σ σ1 ∧ ((gI σ1 a 2 = gI σ a 2 ∧ gI σ1 a 1 = gI σ a 1) ∧ aF σ1 (ad E a 0) = aF σ (ad E a 0) ∧ aQ σ1 (ad E a 3) = aQ σ (ad E a 3)))) 0 0 (th_A b0) := by
  refine Met.ofW (cc := cX10_findAnswers) (maxL := 3) (ret := none) (by decide) rfl ?_
  intro p e s m args below meth c s₁ B hml hv
  obtain ⟨rfl, hH, hK⟩ := hv
  have hx := B.exec
  have hb := B.bytes
  have hr := B.returns
  have hts := atoms_spec (ws := wsX10_findAnswers) B.pre
  have hown : s.vm.findClass RX10 = some m.cls := findClass_of_methodNamed B.named
  have hlocks := B.notSynchronized
  have h00 : b0 ≤ s.heap.size := hH.1
  have hS : va_S (th_A b0) s.heap s.heap [] := va_S.rf
  have hF : fr [12] E σ σ := fr.rf
  have inX10 : ∀ w ∈ wsX100, w ∈ wsX10_findAnswers := by decide +kernel
  have inX6 : ∀ w ∈ wsX60, w ∈ wsX10_findAnswers := by decide +kernel
  have fl0 := hts (.fieldLink RX10 19 "NestQuery" "paths" "[LNestQuery$Path;") (by decide +kernel)
  have fl1 := hts (.fieldLink RX10 96 "NestQuery" "answers" "[J") (by decide +kernel)
  have fl2 := hts (.fieldLink RX10 63 "NestQuery" "now" "LNestQuery$State;") (by decide +kernel)
  have hl := lv_entry ([.ref a]) (n := 3) (Nat.le_of_ble_eq_true rfl)
  rw [lg_entry_eq]
  generalize (lg_sl ([.ref a]) ++ List.replicate (3 - (lg_sl ([.ref a])).length) Slot.unset).toArray = ls at hl ⊢
  have hl : lv_has ls 3 [(0, .ref a)] := hl
  obtain ⟨a10, ea10, ra10, la10, ua10⟩ := hO.gi h_a (by decide) k12_1
  obtain ⟨a20, ea20, ra20, la20, ua20⟩ := hO.gi h_a (by decide) k12_2
  obtain ⟨f_1, ef_2⟩ : ∃ f9, aF σ (ad E a 0) = f9 := ⟨_, rfl⟩
  have h0row := ef_2
  obtain ⟨f_3, eq_4⟩ : ∃ f9, aQ σ (ad E a 3) = f9 := ⟨_, rfl⟩
  have h0q := eq_4
  refine lv_iconst (v := I 0) hx hb dX10_findAnswers_0 (by decide) ?_
  refine lv_istore_n (lv' := [(1, .int (I 0)), (0, .ref a)]) hx hb dX10_findAnswers_1 rfl hl (by decide) rfl (fun ls hl => ?_)
  refine th_loop (α := Int) (pc := 2) (fun x9 => (4 - x9).toNat) (fun x9 σ9 H9 l9 ls9 => ok y E σ9 ∧ fr [12] E σ σ9 ∧ th_H G b0 σ9 H9 ∧ va_S (th_A b0) s.heap H9 l9 ∧ lv_has ls9 3 [(0, .ref a), (1, .int (I x9))] ∧ rng x9 ∧ (0 ≤ x9) ∧ (x9 ≤ 4) ∧ (gI σ9 a 1 = a10) ∧ (gI σ9 a 2 = a20) ∧ (aF σ9 (ad E a 0) = f_1) ∧ (aQ σ9 (ad E a 3) = f_3)) ?_ (0) σ _ _ _ ⟨hO, hF, hH, hS, lv_sub hl [1, 0] rfl, (show rng 0 from ⟨by decide, by decide⟩), by first | omega | (dsimp only; omega), by first | omega | (dsimp only; omega), ea10, ea20, ef_2, eq_4⟩
  intro x9 σ_J_29 H locs ls hI9 ihJ_29
  obtain ⟨v1q28, ex9⟩ : ∃ z, z = x9 := ⟨_, rfl⟩
  subst ex9
  obtain ⟨hO, hF, hH, hS, hl, rv1q28, J_29_0, J_29_1, J_29_2, J_29_3, J_29_4, J_29_5⟩ := hI9
  have hl : lv_has ls 3 [(0, .ref a), (1, .int (I v1q28))] := hl
  have rv1q28 : rng v1q28 := rv1q28
  replace J_29_0 : 0 ≤ v1q28 := J_29_0
  replace J_29_1 : v1q28 ≤ 4 := J_29_1
  replace J_29_2 : gI σ_J_29 a 1 = a10 := J_29_2
  replace J_29_3 : gI σ_J_29 a 2 = a20 := J_29_3
  replace J_29_4 : aF σ_J_29 (ad E a 0) = f_1 := J_29_4
  replace J_29_5 : aQ σ_J_29 (ad E a 3) = f_3 := J_29_5
  refine lv_iload_n hx hb dX10_findAnswers_2 rfl (lv_at hl 1 rfl) ?_
  refine lv_iconst (v := I 4) hx hb dX10_findAnswers_3 (by decide) ?_
  refine lv_icmp_ge (tgt := 47) hx hb dX10_findAnswers_4 (by decide) (fun c_30 => ?_) (fun c_30 => ?_)
  · replace c_30 := (I_le (a := 4) (b := v1q28) (show rng 4 from ⟨by decide, by decide⟩) rv1q28).mp c_30
    exact th_vret hx hb hr hlocks hH hS ⟨hO, hF, ⟨by omega, (J_29_4.trans h0row.symm), (J_29_5.trans h0q.symm)⟩⟩ dX10_findAnswers_47
  · replace c_30 := mt (I_le (a := 4) (b := v1q28) (show rng 4 from ⟨by decide, by decide⟩) rv1q28).mpr c_30
    refine lv_aload_n hx hb dX10_findAnswers_7 rfl (lv_at hl 0 rfl) ?_
    refine ok.getR hO h_a (by decide) k12_3 (by decide) (fun _ _ he hv kk => th_get (ci := 10) (C := RX10) (T := TX10) (N := 18) hx hb hts inX10 hown hK hH he rfl 3 (by decide) fl0 hv dX10_findAnswers_8 kk) ?_
    refine lv_iload_n hx hb dX10_findAnswers_11 rfl (lv_at hl 1 rfl) ?_
    refine ok_aaldw hx hb hK hH hO h_a (by decide) k12_3 (Or.inl rfl) rfl rv1q28 (by omega) (by omega) dX10_findAnswers_12 (fun x_31 hx_32 hq_33 => ?_)
    rw [J_29_5] at hq_33
    cases x_31 with
    | none =>
      refine lv_astore_nN (lv' := [(2, .null), (0, .ref a), (1, .int (I v1q28))]) hx hb dX10_findAnswers_13 rfl hl (by decide) rfl (fun ls hl => ?_)
      refine lv_aload_n hx hb dX10_findAnswers_14 rfl (lv_at hl 1 rfl) ?_
      refine ok.getR hO h_a (by decide) k12_16 (by decide) (fun _ _ he hv kk => th_get (ci := 10) (C := RX10) (T := TX10) (N := 18) hx hb hts inX10 hown hK hH he rfl 16 (by decide) fl1 hv dX10_findAnswers_15 kk) ?_
      refine lv_iload_n hx hb dX10_findAnswers_18 rfl (lv_at hl 2 rfl) ?_
      refine lv_aload_nN hx hb dX10_findAnswers_19 rfl (lv_at hl 0 rfl) ?_
      refine lv_ifnonnullN hx hb dX10_findAnswers_20 ?_
      refine lv_lconst (v := 0) hx hb dX10_findAnswers_23 (by decide) ?_
      refine lv_goto (tgt := 40) hx hb dX10_findAnswers_24 (by decide) ?_
      refine ok_lastw hx hb hK hH hS h00 hO h_a (by decide) k12_16 rv1q28 (by omega) (by omega) dX10_findAnswers_40 (fun σ_s_36 H locs hO hF9 hi9 ha9 hu9 hH hS => ?_)
      replace hF := hF.tu hF9 (by decide)
      have e_37 : gI σ_s_36 a 1 = a10 := (hi9 _ _).trans J_29_2
      have e_38 : gI σ_s_36 a 2 = a20 := (hi9 _ _).trans J_29_3
      have ef_39 : aF σ_s_36 (ad E a 0) = f_1 := (ha9 _ (ok.adl hO h_a (by decide) k12_16 k12_0 isA1 (by decide))).trans J_29_4
      have eq_40 : aQ σ_s_36 (ad E a 3) = f_3 := (hu9.q (ok.ql hO h_a (by decide) k12_3 k12_16 (by decide))).trans J_29_5
      refine lv_iinc (v := I (v1q28 + 1)) (lv' := [(1, .int (I (v1q28 + 1))), (2, .null), (0, .ref a)]) hx hb dX10_findAnswers_41 hl (k := 2) rfl (I_add _ _) (by decide) rfl (fun ls hl => ?_)
      refine lv_goto (tgt := 2) hx hb dX10_findAnswers_44 (by decide) ?_
      replace hl : lv_has ls 3 [(1, .int (I (v1q28 + 1))), (0, .ref a)] := lv_sub hl [0, 2] rfl
      exact ihJ_29 (v1q28 + 1) σ_s_36 _ _ _ (by first | omega | (dsimp only; omega)) ⟨hO, hF, hH, hS, lv_sub hl [1, 0] rfl, ⟨by first | omega | (dsimp only; omega), by first | omega | (dsimp only; omega)⟩, by first | omega | (dsimp only; omega), by first | omega | (dsimp only; omega), e_37, e_38, ef_39, eq_40⟩
    | some b_34 =>
      have hb_35 : kd E b_34 = 4 := hx_32 b_34 rfl
      refine lv_astore_n (lv' := [(2, .ref b_34), (0, .ref a), (1, .int (I v1q28))]) hx hb dX10_findAnswers_13 rfl hl (by decide) rfl (fun ls hl => ?_)
      refine lv_aload_n hx hb dX10_findAnswers_14 rfl (lv_at hl 1 rfl) ?_
      refine ok.getR hO h_a (by decide) k12_16 (by decide) (fun _ _ he hv kk => th_get (ci := 10) (C := RX10) (T := TX10) (N := 18) hx hb hts inX10 hown hK hH he rfl 16 (by decide) fl1 hv dX10_findAnswers_15 kk) ?_
      refine lv_iload_n hx hb dX10_findAnswers_18 rfl (lv_at hl 2 rfl) ?_
      refine lv_aload_n hx hb dX10_findAnswers_19 rfl (lv_at hl 0 rfl) ?_
      refine lv_ifnonnull (tgt := 27) hx hb dX10_findAnswers_20 (by decide) ?_
      refine lv_aload_n hx hb dX10_findAnswers_27 rfl (lv_at hl 0 rfl) ?_
      refine lv_aload_n hx hb dX10_findAnswers_28 rfl (lv_at hl 1 rfl) ?_
      have hp_41 : kd E (ad E a 9) = 5 := ok.pk hO h_a (by decide) k12_9 rfl
      refine ok.getR hO h_a (by decide) k12_9 (by decide) (fun _ _ he hv kk => th_get (ci := 10) (C := RX10) (T := TX10) (N := 18) hx hb hts inX10 hown hK hH he rfl 9 (by decide) fl2 hv dX10_findAnswers_29 kk) ?_
      have hp_42 : kd E (ad E (ad E a 9) 0) = 1 := ok.pk hO hp_41 (by decide) k5_0 rfl
      refine ok.getR hO hp_41 (by decide) k5_0 (by decide) (fun _ _ he hv kk => th_getN (ci := 6) (C := RX6) (T := TX6) (N := 7) hx hb hts inX6 hown hK hH he rfl 0 (by decide) (nl_13 hK) hv dX10_findAnswers_32 kk) ?_
      refine lv_bipush (v := I 8) hx hb dX10_findAnswers_35 (by decide) ?_
      obtain ⟨_, hc_43⟩ := hO.cell hb_35 (by decide) (ci := 4) rfl
      refine th_calll (va_runV (As := [.ref (ad E (ad E a 9) 0), .int (I 8)]) (rest := [.int (I v1q28), .ref (ad E a 16)]) ⟨hx, hb, hml, hown, hts⟩ (p_answersIn l G y b0 σ_J_29 E hO b_34 hb_35 (ad E (ad E a 9) 0) hp_42 8 (show rng 8 from (show rng 8 from ⟨by decide, by decide⟩))) (cwV 2 hts gX10_findAnswers_X4_answersIn rfl rfl rfl (by decide +kernel) ⟨Nat.le_of_ble_eq_true rfl, Nat.le_of_ble_eq_true rfl⟩) (th_PV hK hH rfl hc_43) rfl rfl hl.1 rfl (lv_room (Nat.le_of_ble_eq_true rfl)) dX10_findAnswers_37 ⟨Nat.le_of_ble_eq_true rfl, Nat.le_of_ble_eq_true rfl⟩) hS (fun w_46 σ_s_45 H locs hw_44 hH hS => ?_)
      obtain ⟨e9, hw_44⟩ := hw_44
      replace e9 := e9.symm
      subst e9
      refine ok_lastw hx hb hK hH hS h00 hO h_a (by decide) k12_16 rv1q28 (by omega) (by omega) dX10_findAnswers_40 (fun σ_s_47 H locs hO hF9 hi9 ha9 hu9 hH hS => ?_)
      replace hF := hF.tu hF9 (by decide)
      have e_48 : gI σ_s_47 a 1 = a10 := (hi9 _ _).trans J_29_2
      have e_49 : gI σ_s_47 a 2 = a20 := (hi9 _ _).trans J_29_3
      have ef_50 : aF σ_s_47 (ad E a 0) = f_1 := (ha9 _ (ok.adl hO h_a (by decide) k12_16 k12_0 isA1 (by decide))).trans J_29_4
      have eq_51 : aQ σ_s_47 (ad E a 3) = f_3 := (hu9.q (ok.ql hO h_a (by decide) k12_3 k12_16 (by decide))).trans J_29_5
      refine lv_iinc (v := I (v1q28 + 1)) (lv' := [(1, .int (I (v1q28 + 1))), (2, .ref b_34), (0, .ref a)]) hx hb dX10_findAnswers_41 hl (k := 2) rfl (I_add _ _) (by decide) rfl (fun ls hl => ?_)
      refine lv_goto (tgt := 2) hx hb dX10_findAnswers_44 (by decide) ?_
      replace hl : lv_has ls 3 [(1, .int (I (v1q28 + 1))), (0, .ref a)] := lv_sub hl [0, 2] rfl
      exact ihJ_29 (v1q28 + 1) σ_s_47 _ _ _ (by first | omega | (dsimp only; omega)) ⟨hO, hF, hH, hS, lv_sub hl [1, 0] rfl, ⟨by first | omega | (dsimp only; omega), by first | omega | (dsimp only; omega)⟩, by first | omega | (dsimp only; omega), by first | omega | (dsimp only; omega), e_48, e_49, ef_50, eq_51⟩

set_option maxHeartbeats 1000000 in
set_option maxRecDepth 100000 in
theorem q_foundAmong (l : Launch) (G : va_G) (y : Nat → ClassId) (b0 : Nat) (σ : th_M) (E : th_E) (hO : ok y E σ) (a : Nat) (h_a : kd E a = 12) (i : Int) (ri : rng i) (j : Int) (rj : rng j) : Met l yX10_foundAmong wsX10_foundAmong ({ frames := 2, cells := 0, slots := 0, locals := 50 }) (th_P G y b0 σ [.ref a, .int (I i), .int (I j)]) (th_Qi G b0 (fun r σ1 => σ1 = σ ∧ (True))) 0 0 (th_A b0) := by
  refine Met.ofW (cc := cX10_foundAmong) (maxL := 5) (ret := (some .int)) (by decide) rfl ?_
  intro p e s m args below meth c s₁ B hml hv
  obtain ⟨rfl, hH, hK⟩ := hv
  have hx := B.exec
  have hb := B.bytes
  have hr := B.returns
  have hts := atoms_spec (ws := wsX10_foundAmong) B.pre
  have hown : s.vm.findClass RX10 = some m.cls := findClass_of_methodNamed B.named
  have hlocks := B.notSynchronized
  have h00 : b0 ≤ s.heap.size := hH.1
  have hS : va_S (th_A b0) s.heap s.heap [] := va_S.rf
  have inX10 : ∀ w ∈ wsX100, w ∈ wsX10_foundAmong := by decide +kernel
  have fl0 := hts (.fieldLink RX10 96 "NestQuery" "answers" "[J") (by decide +kernel)
  have hl := lv_entry ([.ref a, .int (I i), .int (I j)]) (n := 5) (Nat.le_of_ble_eq_true rfl)
  rw [lg_entry_eq]
  generalize (lg_sl ([.ref a, .int (I i), .int (I j)]) ++ List.replicate (5 - (lg_sl ([.ref a, .int (I i), .int (I j)])).length) Slot.unset).toArray = ls at hl ⊢
  have hl : lv_has ls 5 [(0, .ref a), (1, .int (I i)), (2, .int (I j))] := hl
  refine lv_iconst (v := I 0) hx hb dX10_foundAmong_0 (by decide) ?_
  refine lv_istore_n (lv' := [(3, .int (I 0)), (0, .ref a), (1, .int (I i)), (2, .int (I j))]) hx hb dX10_foundAmong_1 rfl hl (by decide) rfl (fun ls hl => ?_)
  refine lv_iconst (v := I 0) hx hb dX10_foundAmong_2 (by decide) ?_
  refine lv_istore (lv' := [(4, .int (I 0)), (3, .int (I 0)), (0, .ref a), (1, .int (I i)), (2, .int (I j))]) hx hb dX10_foundAmong_3 hl (by decide) rfl (fun ls hl => ?_)
  refine th_loop (α := Int × Int) (pc := 5) (fun x9 => (4 - x9.2).toNat) (fun x9 σ9 H9 l9 ls9 => σ9 = σ ∧ th_H G b0 σ9 H9 ∧ va_S (th_A b0) s.heap H9 l9 ∧ lv_has ls9 5 [(0, .ref a), (1, .int (I i)), (2, .int (I j)), (3, .int (I x9.1)), (4, .int (I x9.2))] ∧ rng x9.1 ∧ rng x9.2 ∧ (0 ≤ x9.1) ∧ (x9.1 ≤ 4) ∧ (0 ≤ x9.2) ∧ (x9.2 ≤ 4) ∧ (x9.1 ≤ x9.2)) ?_ (0, 0) σ _ _ _ ⟨rfl, hH, hS, lv_sub hl [2, 3, 4, 1, 0] rfl, (show rng 0 from ⟨by decide, by decide⟩), (show rng 0 from ⟨by decide, by decide⟩), by first | omega | (dsimp only; omega), by first | omega | (dsimp only; omega), by first | omega | (dsimp only; omega), by first | omega | (dsimp only; omega), by first | omega | (dsimp only; omega)⟩
  intro x9 σ_J_12 H locs ls hI9 ihJ_12
  obtain ⟨v3q11, v4q11⟩ := x9
  obtain ⟨eJ_12, hH, hS, hl, rv3q11, rv4q11, J_12_0, J_12_1, J_12_2, J_12_3, J_12_4⟩ := hI9
  replace eJ_12 := eJ_12.symm
  subst eJ_12
  have hl : lv_has ls 5 [(0, .ref a), (1, .int (I i)), (2, .int (I j)), (3, .int (I v3q11)), (4, .int (I v4q11))] := hl
  have rv3q11 : rng v3q11 := rv3q11
  have rv4q11 : rng v4q11 := rv4q11
  have J_12_0 : 0 ≤ v3q11 := J_12_0
  have J_12_1 : v3q11 ≤ 4 := J_12_1
  have J_12_2 : 0 ≤ v4q11 := J_12_2
  have J_12_3 : v4q11 ≤ 4 := J_12_3
  have J_12_4 : v3q11 ≤ v4q11 := J_12_4
  refine lv_iload hx hb dX10_foundAmong_5 (lv_at hl 4 rfl) ?_
  refine lv_iconst (v := I 4) hx hb dX10_foundAmong_7 (by decide) ?_
  refine lv_icmp_ge (tgt := 43) hx hb dX10_foundAmong_8 (by decide) (fun c_13 => ?_) (fun c_13 => ?_)
  · replace c_13 := (I_le (a := 4) (b := v4q11) (show rng 4 from ⟨by decide, by decide⟩) rv4q11).mp c_13
    refine lv_iload_n hx hb dX10_foundAmong_43 rfl (lv_at hl 3 rfl) ?_
    exact th_iret hx hb hr hlocks hH hS (z := v3q11) rv3q11 ⟨rfl, trivial⟩ dX10_foundAmong_44
  · replace c_13 := mt (I_le (a := 4) (b := v4q11) (show rng 4 from ⟨by decide, by decide⟩) rv4q11).mpr c_13
    refine lv_iload_n hx hb dX10_foundAmong_11 rfl (lv_at hl 2 rfl) ?_
    refine lv_iload hx hb dX10_foundAmong_12 (lv_at hl 4 rfl) ?_
    refine lv_iushr hx hb dX10_foundAmong_14 rfl ?_
    refine th_topi (fun z_14 rz_14 => ?_)
    refine lv_iconst (v := I 1) hx hb dX10_foundAmong_15 (by decide) ?_
    refine lv_iand hx hb dX10_foundAmong_16 ?_
    refine th_and1 (fun z_15 rz_15 hz_15 => ?_)
    refine lv_if_eq (tgt := 37) hx hb dX10_foundAmong_17 (by decide) (fun c_16 => ?_) (fun c_16 => ?_)
    · replace c_16 := (I_eq (a := z_15) (b := 0) rz_15 (show rng 0 from ⟨by decide, by decide⟩)).mp c_16
      refine lv_iinc (v := I (v4q11 + 1)) (lv' := [(4, .int (I (v4q11 + 1))), (0, .ref a), (1, .int (I i)), (2, .int (I j)), (3, .int (I v3q11))]) hx hb dX10_foundAmong_37 hl (k := 4) rfl (I_add _ _) (by decide) rfl (fun ls hl => ?_)
      refine lv_goto (tgt := 5) hx hb dX10_foundAmong_40 (by decide) ?_
      exact ihJ_12 (v3q11, v4q11 + 1) σ _ _ _ (by first | omega | (dsimp only; omega)) ⟨rfl, hH, hS, lv_sub hl [1, 2, 3, 4, 0] rfl, rv3q11, ⟨by first | omega | (dsimp only; omega), by first | omega | (dsimp only; omega)⟩, by first | omega | (dsimp only; omega), by first | omega | (dsimp only; omega), by first | omega | (dsimp only; omega), by first | omega | (dsimp only; omega), by first | omega | (dsimp only; omega)⟩
    · replace c_16 := mt (I_eq (a := z_15) (b := 0) rz_15 (show rng 0 from ⟨by decide, by decide⟩)).mpr c_16
      refine lv_aload_n hx hb dX10_foundAmong_20 rfl (lv_at hl 0 rfl) ?_
      refine ok.getR hO h_a (by decide) k12_16 (by decide) (fun _ _ he hv kk => th_get (ci := 10) (C := RX10) (T := TX10) (N := 18) hx hb hts inX10 hown hK hH he rfl 16 (by decide) fl0 hv dX10_foundAmong_21 kk) ?_
      refine lv_iload hx hb dX10_foundAmong_24 (lv_at hl 4 rfl) ?_
      refine ok_lald hx hb hK hH hO h_a (by decide) k12_16 rv4q11 (by omega) (by omega) dX10_foundAmong_26 (fun w_17 => ?_)
      refine lv_iload_n hx hb dX10_foundAmong_27 rfl (lv_at hl 1 rfl) ?_
      refine th_calli (va_runS (As := [.long w_17, .int (I i)]) (rest := []) ⟨hx, hb, hml, hown, hts⟩ (n_isIn l G y b0 σ E hO w_17 i (show rng i from ri)) (va_cwS 2 hts gX10_foundAmong_X10_isIn rfl rfl rfl (by decide +kernel) ⟨Nat.le_of_ble_eq_true rfl, Nat.le_of_ble_eq_true rfl⟩) (th_PS hK hH) rfl rfl hl.1 rfl (lv_room (Nat.le_of_ble_eq_true rfl)) dX10_foundAmong_28 ⟨Nat.le_of_ble_eq_true rfl, Nat.le_of_ble_eq_true rfl⟩) hS (fun z_20 σ_s_19 H locs rz_20 hw_18 hH hS => ?_)
      obtain ⟨e9, bhw_18, hw_18⟩ := hw_18
      replace e9 := e9.symm
      subst e9
      refine lv_if_eq (tgt := 37) hx hb dX10_foundAmong_31 (by decide) (fun c_21 => ?_) (fun c_21 => ?_)
      · replace c_21 := (I_eq (a := z_20) (b := 0) rz_20 (show rng 0 from ⟨by decide, by decide⟩)).mp c_21
        refine lv_iinc (v := I (v4q11 + 1)) (lv' := [(4, .int (I (v4q11 + 1))), (0, .ref a), (1, .int (I i)), (2, .int (I j)), (3, .int (I v3q11))]) hx hb dX10_foundAmong_37 hl (k := 4) rfl (I_add _ _) (by decide) rfl (fun ls hl => ?_)
        refine lv_goto (tgt := 5) hx hb dX10_foundAmong_40 (by decide) ?_
        exact ihJ_12 (v3q11, v4q11 + 1) σ _ _ _ (by first | omega | (dsimp only; omega)) ⟨rfl, hH, hS, lv_sub hl [1, 2, 3, 4, 0] rfl, rv3q11, ⟨by first | omega | (dsimp only; omega), by first | omega | (dsimp only; omega)⟩, by first | omega | (dsimp only; omega), by first | omega | (dsimp only; omega), by first | omega | (dsimp only; omega), by first | omega | (dsimp only; omega), by first | omega | (dsimp only; omega)⟩
      · replace c_21 := mt (I_eq (a := z_20) (b := 0) rz_20 (show rng 0 from ⟨by decide, by decide⟩)).mpr c_21
        refine lv_iinc (v := I (v3q11 + 1)) (lv' := [(3, .int (I (v3q11 + 1))), (0, .ref a), (1, .int (I i)), (2, .int (I j)), (4, .int (I v4q11))]) hx hb dX10_foundAmong_34 hl (k := 3) rfl (I_add _ _) (by decide) rfl (fun ls hl => ?_)
        refine lv_iinc (v := I (v4q11 + 1)) (lv' := [(4, .int (I (v4q11 + 1))), (3, .int (I (v3q11 + 1))), (0, .ref a), (1, .int (I i)), (2, .int (I j))]) hx hb dX10_foundAmong_37 hl (k := 4) rfl (I_add _ _) (by decide) rfl (fun ls hl => ?_)
        refine lv_goto (tgt := 5) hx hb dX10_foundAmong_40 (by decide) ?_
        exact ihJ_12 (v3q11 + 1, v4q11 + 1) σ _ _ _ (by first | omega | (dsimp only; omega)) ⟨rfl, hH, hS, lv_sub hl [2, 3, 4, 1, 0] rfl, ⟨by first | omega | (dsimp only; omega), by first | omega | (dsimp only; omega)⟩, ⟨by first | omega | (dsimp only; omega), by first | omega | (dsimp only; omega)⟩, by first | omega | (dsimp only; omega), by first | omega | (dsimp only; omega), by first | omega | (dsimp only; omega), by first | omega | (dsimp only; omega), by first | omega | (dsimp only; omega)⟩

set_option maxHeartbeats 1000000 in
set_option maxRecDepth 100000 in
theorem q_answering (l : Launch) (G : va_G) (y : Nat → ClassId) (b0 : Nat) (σ : th_M) (E : th_E) (hO : ok y E σ) (a : Nat) (h_a : kd E a = 12) (i : Int) (ri : rng i) : Met l yX10_pathsAnswering wsX10_pathsAnswering ({ frames := 6, cells := 0, slots := 0, locals := 185 }) (th_P G y b0 σ [.ref a, .int (I i)]) (th_Qi G b0 (fun r σ1 => ok y E σ1 ∧ fr [12] E σ σ1 ∧ ((gI σ1 a 2 = gI σ a 2 ∧ gI σ1 a 1 = gI σ a 1) ∧ aF σ1 (ad E a 0) = aF σ (ad E a 0) ∧ aQ σ1 (ad E a 3) = aQ σ (ad E a 3)))) 0 0 (th_A b0) := by
  refine Met.ofW (cc := cX10_pathsAnswering) (maxL := 2) (ret := (some .int)) (by decide) rfl ?_
  intro p e s m args below meth c s₁ B hml hv
  obtain ⟨rfl, hH, hK⟩ := hv
  have hx := B.exec
  have hb := B.bytes
  have hr := B.returns
  have hts := atoms_spec (ws := wsX10_pathsAnswering) B.pre
  have hown : s.vm.findClass RX10 = some m.cls := findClass_of_methodNamed B.named
  have hlocks := B.notSynchronized
  have h00 : b0 ≤ s.heap.size := hH.1
  have hS : va_S (th_A b0) s.heap s.heap [] := va_S.rf
  have hF : fr [12] E σ σ := fr.rf
  have hl := lv_entry ([.ref a, .int (I i)]) (n := 2) (Nat.le_of_ble_eq_true rfl)
  rw [lg_entry_eq]
  generalize (lg_sl ([.ref a, .int (I i)]) ++ List.replicate (2 - (lg_sl ([.ref a, .int (I i)])).length) Slot.unset).toArray = ls at hl ⊢
  have hl : lv_has ls 2 [(0, .ref a), (1, .int (I i))] := hl
  obtain ⟨a10, ea10, ra10, la10, ua10⟩ := hO.gi h_a (by decide) k12_1
  obtain ⟨a20, ea20, ra20, la20, ua20⟩ := hO.gi h_a (by decide) k12_2
  obtain ⟨f_1, ef_2⟩ : ∃ f9, aF σ (ad E a 0) = f9 := ⟨_, rfl⟩
  have h0row := ef_2
  obtain ⟨f_3, eq_4⟩ : ∃ f9, aQ σ (ad E a 3) = f9 := ⟨_, rfl⟩
  have h0q := eq_4
  refine lv_aload_n hx hb dX10_pathsAnswering_0 rfl (lv_at hl 0 rfl) ?_
  obtain ⟨_, hc_5⟩ := hO.cell h_a (by decide) (ci := 10) rfl
  refine th_callv (va_runV (As := []) (rest := []) ⟨hx, hb, hml, hown, hts⟩ (q_findAnswers l G y b0 σ E hO a h_a) (cwV 0 hts gX10_pathsAnswering_X10_findAnswers rfl rfl rfl (by decide +kernel) ⟨Nat.le_of_ble_eq_true rfl, Nat.le_of_ble_eq_true rfl⟩) (th_PV hK hH rfl hc_5) rfl rfl hl.1 rfl (lv_room (Nat.le_of_ble_eq_true rfl)) dX10_pathsAnswering_1 ⟨Nat.le_of_ble_eq_true rfl, Nat.le_of_ble_eq_true rfl⟩) hS (fun σ_s_7 H locs hw_6 hH hS => ?_)
  obtain ⟨hO9, hF9, hw_6⟩ := hw_6
  replace hO := hO9
  replace hF := hF.tu hF9 (by decide)
  replace hw_6 : (gI σ_s_7 a 2 = gI σ a 2 ∧ gI σ_s_7 a 1 = gI σ a 1) ∧ aF σ_s_7 (ad E a 0) = aF σ (ad E a 0) ∧ aQ σ_s_7 (ad E a 3) = aQ σ (ad E a 3) := hw_6
  have ef_8 : aF σ_s_7 (ad E a 0) = f_1 := (hw_6.2.1).trans ef_2
  have eq_9 : aQ σ_s_7 (ad E a 3) = f_3 := (hw_6.2.2).trans eq_4
  obtain ⟨z_10, e_11, rz_10, lz_10, uz_10⟩ := hO.gi h_a (by decide) k12_2
  refine lv_aload_n hx hb dX10_pathsAnswering_4 rfl (lv_at hl 0 rfl) ?_
  refine lv_iload_n hx hb dX10_pathsAnswering_5 rfl (lv_at hl 1 rfl) ?_
  refine lv_aload_n hx hb dX10_pathsAnswering_6 rfl (lv_at hl 0 rfl) ?_
  obtain ⟨_, hc_12⟩ := hO.cell h_a (by decide) (ci := 10) rfl
  refine th_calli (va_runV (As := []) (rest := [.int (I i), .ref a]) ⟨hx, hb, hml, hown, hts⟩ (q_pathsThere l G y b0 σ_s_7 E hO a h_a) (cwV 0 hts gX10_pathsAnswering_X10_pathsThere rfl rfl rfl (by decide +kernel) ⟨Nat.le_of_ble_eq_true rfl, Nat.le_of_ble_eq_true rfl⟩) (th_PV hK hH rfl hc_12) rfl rfl hl.1 rfl (lv_room (Nat.le_of_ble_eq_true rfl)) dX10_pathsAnswering_7 ⟨Nat.le_of_ble_eq_true rfl, Nat.le_of_ble_eq_true rfl⟩) hS (fun z_15 σ_s_14 H locs rz_15 hw_13 hH hS => ?_)
  obtain ⟨e9, hw_13⟩ := hw_13
  replace e9 := e9.symm
  subst e9
  obtain ⟨_, hc_16⟩ := hO.cell h_a (by decide) (ci := 10) rfl
  refine th_calli (va_runV (As := [.int (I i), .int (I z_15)]) (rest := []) ⟨hx, hb, hml, hown, hts⟩ (q_foundAmong l G y b0 σ_s_7 E hO a h_a i (show rng i from ri) z_15 (show rng z_15 from rz_15)) (cwV 2 hts gX10_pathsAnswering_X10_foundAmong rfl rfl rfl (by decide +kernel) ⟨Nat.le_of_ble_eq_true rfl, Nat.le_of_ble_eq_true rfl⟩) (th_PV hK hH rfl hc_16) rfl rfl hl.1 rfl (lv_room (Nat.le_of_ble_eq_true rfl)) dX10_pathsAnswering_10 ⟨Nat.le_of_ble_eq_true rfl, Nat.le_of_ble_eq_true rfl⟩) hS (fun z_19 σ_s_18 H locs rz_19 hw_17 hH hS => ?_)
  obtain ⟨e9, hw_17⟩ := hw_17
  replace e9 := e9.symm
  subst e9
  exact th_iret hx hb hr hlocks hH hS (z := z_19) rz_19 ⟨hO, hF, ⟨by omega, (ef_8.trans h0row.symm), (eq_9.trans h0q.symm)⟩⟩ dX10_pathsAnswering_13

set_option maxHeartbeats 1000000 in
set_option maxRecDepth 100000 in
theorem q_thatFit (l : Launch) (G : va_G) (y : Nat → ClassId) (b0 : Nat) (σ : th_M) (E : th_E) (hO : ok y E σ) (a : Nat) (h_a : kd E a = 12) : Met l yX10_pathsThatFit wsX10_pathsThatFit ({ frames := 6, cells := 0, slots := 0, locals := 185 }) (th_P G y b0 σ [.ref a]) (th_Qi G b0 (fun r σ1 => ok y E σ1 ∧ fr [12] E σ σ1 ∧ ((gI σ1 a 2 = gI σ a 2 ∧ gI σ1 a 1 = gI σ a 1) ∧ aF σ1 (ad E a 0) = aF σ (ad E a 0) ∧ aQ σ1 (ad E a 3) = aQ σ (ad E a 3)))) 0 0 (th_A b0) := by
  refine Met.ofW (cc := cX10_pathsThatFit) (maxL := 3) (ret := (some .int)) (by decide) rfl ?_
  intro p e s m args below meth c s₁ B hml hv
  obtain ⟨rfl, hH, hK⟩ := hv
  have hx := B.exec
  have hb := B.bytes
  have hr := B.returns
  have hts := atoms_spec (ws := wsX10_pathsThatFit) B.pre
  have hown : s.vm.findClass RX10 = some m.cls := findClass_of_methodNamed B.named
  have hlocks := B.notSynchronized
  have h00 : b0 ≤ s.heap.size := hH.1
  have hS : va_S (th_A b0) s.heap s.heap [] := va_S.rf
  have hF : fr [12] E σ σ := fr.rf
  have inX10 : ∀ w ∈ wsX100, w ∈ wsX10_pathsThatFit := by decide +kernel
  have fl0 := hts (.fieldLink RX10 19 "NestQuery" "paths" "[LNestQuery$Path;") (by decide +kernel)
  have fl1 := hts (.fieldLink RX10 63 "NestQuery" "now" "LNestQuery$State;") (by decide +kernel)
  have fl2 := hts (.fieldLink RX10 96 "NestQuery" "answers" "[J") (by decide +kernel)
  have hl := lv_entry ([.ref a]) (n := 3) (Nat.le_of_ble_eq_true rfl)
  rw [lg_entry_eq]
  generalize (lg_sl ([.ref a]) ++ List.replicate (3 - (lg_sl ([.ref a])).length) Slot.unset).toArray = ls at hl ⊢
  have hl : lv_has ls 3 [(0, .ref a)] := hl
  obtain ⟨a10, ea10, ra10, la10, ua10⟩ := hO.gi h_a (by decide) k12_1
  obtain ⟨a20, ea20, ra20, la20, ua20⟩ := hO.gi h_a (by decide) k12_2
  obtain ⟨f_1, ef_2⟩ : ∃ f9, aF σ (ad E a 0) = f9 := ⟨_, rfl⟩
  have h0row := ef_2
  obtain ⟨f_3, eq_4⟩ : ∃ f9, aQ σ (ad E a 3) = f9 := ⟨_, rfl⟩
  have h0q := eq_4
  refine lv_aload_n hx hb dX10_pathsThatFit_0 rfl (lv_at hl 0 rfl) ?_
  obtain ⟨_, hc_5⟩ := hO.cell h_a (by decide) (ci := 10) rfl
  refine th_callv (va_runV (As := []) (rest := []) ⟨hx, hb, hml, hown, hts⟩ (q_findAnswers l G y b0 σ E hO a h_a) (cwV 0 hts gX10_pathsThatFit_X10_findAnswers rfl rfl rfl (by decide +kernel) ⟨Nat.le_of_ble_eq_true rfl, Nat.le_of_ble_eq_true rfl⟩) (th_PV hK hH rfl hc_5) rfl rfl hl.1 rfl (lv_room (Nat.le_of_ble_eq_true rfl)) dX10_pathsThatFit_1 ⟨Nat.le_of_ble_eq_true rfl, Nat.le_of_ble_eq_true rfl⟩) hS (fun σ_s_7 H locs hw_6 hH hS => ?_)
  obtain ⟨hO9, hF9, hw_6⟩ := hw_6
  replace hO := hO9
  replace hF := hF.tu hF9 (by decide)
  replace hw_6 : (gI σ_s_7 a 2 = gI σ a 2 ∧ gI σ_s_7 a 1 = gI σ a 1) ∧ aF σ_s_7 (ad E a 0) = aF σ (ad E a 0) ∧ aQ σ_s_7 (ad E a 3) = aQ σ (ad E a 3) := hw_6
  have ef_8 : aF σ_s_7 (ad E a 0) = f_1 := (hw_6.2.1).trans ef_2
  have eq_9 : aQ σ_s_7 (ad E a 3) = f_3 := (hw_6.2.2).trans eq_4
  obtain ⟨z_10, e_11, rz_10, lz_10, uz_10⟩ := hO.gi h_a (by decide) k12_2
  refine lv_iconst (v := I 0) hx hb dX10_pathsThatFit_4 (by decide) ?_
  refine lv_istore_n (lv' := [(1, .int (I 0)), (0, .ref a)]) hx hb dX10_pathsThatFit_5 rfl hl (by decide) rfl (fun ls hl => ?_)
  refine lv_iconst (v := I 0) hx hb dX10_pathsThatFit_6 (by decide) ?_
  refine lv_istore_n (lv' := [(2, .int (I 0)), (1, .int (I 0)), (0, .ref a)]) hx hb dX10_pathsThatFit_7 rfl hl (by decide) rfl (fun ls hl => ?_)
  refine th_loop (α := Int × Int) (pc := 8) (fun x9 => (4 - x9.2).toNat) (fun x9 σ9 H9 l9 ls9 => σ9 = σ_s_7 ∧ th_H G b0 σ9 H9 ∧ va_S (th_A b0) s.heap H9 l9 ∧ lv_has ls9 3 [(0, .ref a), (1, .int (I x9.1)), (2, .int (I x9.2))] ∧ rng x9.1 ∧ rng x9.2 ∧ (0 ≤ x9.2) ∧ (x9.2 ≤ 4)) ?_ (0, 0) σ_s_7 _ _ _ ⟨rfl, hH, hS, lv_sub hl [2, 1, 0] rfl, (show rng 0 from ⟨by decide, by decide⟩), (show rng 0 from ⟨by decide, by decide⟩), by first | omega | (dsimp only; omega), by first | omega | (dsimp only; omega)⟩
  intro x9 σ_J_29 H locs ls hI9 ihJ_29
  obtain ⟨v1q28, v2q28⟩ := x9
  obtain ⟨eJ_29, hH, hS, hl, rv1q28, rv2q28, J_29_0, J_29_1⟩ := hI9
  replace eJ_29 := eJ_29.symm
  subst eJ_29
  have hl : lv_has ls 3 [(0, .ref a), (1, .int (I v1q28)), (2, .int (I v2q28))] := hl
  have rv1q28 : rng v1q28 := rv1q28
  have rv2q28 : rng v2q28 := rv2q28
  replace J_29_0 : 0 ≤ v2q28 := J_29_0
  replace J_29_1 : v2q28 ≤ 4 := J_29_1
  refine lv_iload_n hx hb dX10_pathsThatFit_8 rfl (lv_at hl 2 rfl) ?_
  refine lv_iconst (v := I 4) hx hb dX10_pathsThatFit_9 (by decide) ?_
  refine lv_icmp_ge (tgt := 50) hx hb dX10_pathsThatFit_10 (by decide) (fun c_30 => ?_) (fun c_30 => ?_)
  · replace c_30 := (I_le (a := 4) (b := v2q28) (show rng 4 from ⟨by decide, by decide⟩) rv2q28).mp c_30
    refine lv_iload_n hx hb dX10_pathsThatFit_50 rfl (lv_at hl 1 rfl) ?_
    exact th_iret hx hb hr hlocks hH hS (z := v1q28) rv1q28 ⟨hO, hF, ⟨by omega, (ef_8.trans h0row.symm), (eq_9.trans h0q.symm)⟩⟩ dX10_pathsThatFit_51
  · replace c_30 := mt (I_le (a := 4) (b := v2q28) (show rng 4 from ⟨by decide, by decide⟩) rv2q28).mpr c_30
    refine lv_aload_n hx hb dX10_pathsThatFit_13 rfl (lv_at hl 0 rfl) ?_
    refine ok.getR hO h_a (by decide) k12_3 (by decide) (fun _ _ he hv kk => th_get (ci := 10) (C := RX10) (T := TX10) (N := 18) hx hb hts inX10 hown hK hH he rfl 3 (by decide) fl0 hv dX10_pathsThatFit_14 kk) ?_
    refine lv_iload_n hx hb dX10_pathsThatFit_17 rfl (lv_at hl 2 rfl) ?_
    refine ok_aaldw hx hb hK hH hO h_a (by decide) k12_3 (Or.inl rfl) rfl rv2q28 (by omega) (by omega) dX10_pathsThatFit_18 (fun x_31 hx_32 hq_33 => ?_)
    rw [eq_9] at hq_33
    cases x_31 with
    | none =>
      refine lv_ifnullN (tgt := 44) hx hb dX10_pathsThatFit_19 (by decide) ?_
      refine lv_iinc (v := I (v2q28 + 1)) (lv' := [(2, .int (I (v2q28 + 1))), (0, .ref a), (1, .int (I v1q28))]) hx hb dX10_pathsThatFit_44 hl (k := 2) rfl (I_add _ _) (by decide) rfl (fun ls hl => ?_)
      refine lv_goto (tgt := 8) hx hb dX10_pathsThatFit_47 (by decide) ?_
      exact ihJ_29 (v1q28, v2q28 + 1) σ_s_7 _ _ _ (by first | omega | (dsimp only; omega)) ⟨rfl, hH, hS, lv_sub hl [1, 2, 0] rfl, rv1q28, ⟨by first | omega | (dsimp only; omega), by first | omega | (dsimp only; omega)⟩, by first | omega | (dsimp only; omega), by first | omega | (dsimp only; omega)⟩
    | some b_34 =>
      have hb_35 : kd E b_34 = 4 := hx_32 b_34 rfl
      refine lv_ifnull hx hb dX10_pathsThatFit_19 ?_
      refine lv_aload_n hx hb dX10_pathsThatFit_22 rfl (lv_at hl 0 rfl) ?_
      have hp_36 : kd E (ad E a 9) = 5 := ok.pk hO h_a (by decide) k12_9 rfl
      refine ok.getR hO h_a (by decide) k12_9 (by decide) (fun _ _ he hv kk => th_get (ci := 10) (C := RX10) (T := TX10) (N := 18) hx hb hts inX10 hown hK hH he rfl 9 (by decide) fl1 hv dX10_pathsThatFit_23 kk) ?_
      refine lv_aload_n hx hb dX10_pathsThatFit_26 rfl (lv_at hl 0 rfl) ?_
      refine ok.getR hO h_a (by decide) k12_16 (by decide) (fun _ _ he hv kk => th_get (ci := 10) (C := RX10) (T := TX10) (N := 18) hx hb hts inX10 hown hK hH he rfl 16 (by decide) fl2 hv dX10_pathsThatFit_27 kk) ?_
      refine lv_iload_n hx hb dX10_pathsThatFit_30 rfl (lv_at hl 2 rfl) ?_
      refine ok_lald hx hb hK hH hO h_a (by decide) k12_16 rv2q28 (by omega) (by omega) dX10_pathsThatFit_31 (fun w_37 => ?_)
      obtain ⟨_, hc_38⟩ := hO.cell hp_36 (by decide) (ci := 6) rfl
      refine th_calli (va_runV (As := [.long w_37]) (rest := []) ⟨hx, hb, hml, hown, hts⟩ (e_notedFits l G y b0 σ_s_7 E hO (ad E a 9) hp_36 w_37) (cwV 1 hts gX10_pathsThatFit_X6_notedFits rfl rfl rfl (by decide +kernel) ⟨Nat.le_of_ble_eq_true rfl, Nat.le_of_ble_eq_true rfl⟩) (th_PV hK hH rfl hc_38) rfl rfl hl.1 rfl (lv_room (Nat.le_of_ble_eq_true rfl)) dX10_pathsThatFit_32 ⟨Nat.le_of_ble_eq_true rfl, Nat.le_of_ble_eq_true rfl⟩) hS (fun z_41 σ_s_40 H locs rz_41 hw_39 hH hS => ?_)
      obtain ⟨e9, bhw_39, hw_39⟩ := hw_39
      replace e9 := e9.symm
      subst e9
      refine lv_if_eq (tgt := 44) hx hb dX10_pathsThatFit_35 (by decide) (fun c_42 => ?_) (fun c_42 => ?_)
      · replace c_42 := (I_eq (a := z_41) (b := 0) rz_41 (show rng 0 from ⟨by decide, by decide⟩)).mp c_42
        refine lv_iinc (v := I (v2q28 + 1)) (lv' := [(2, .int (I (v2q28 + 1))), (0, .ref a), (1, .int (I v1q28))]) hx hb dX10_pathsThatFit_44 hl (k := 2) rfl (I_add _ _) (by decide) rfl (fun ls hl => ?_)
        refine lv_goto (tgt := 8) hx hb dX10_pathsThatFit_47 (by decide) ?_
        exact ihJ_29 (v1q28, v2q28 + 1) σ_s_7 _ _ _ (by first | omega | (dsimp only; omega)) ⟨rfl, hH, hS, lv_sub hl [1, 2, 0] rfl, rv1q28, ⟨by first | omega | (dsimp only; omega), by first | omega | (dsimp only; omega)⟩, by first | omega | (dsimp only; omega), by first | omega | (dsimp only; omega)⟩
      · replace c_42 := mt (I_eq (a := z_41) (b := 0) rz_41 (show rng 0 from ⟨by decide, by decide⟩)).mpr c_42
        refine lv_iload_n hx hb dX10_pathsThatFit_38 rfl (lv_at hl 1 rfl) ?_
        refine lv_iconst (v := I 1) hx hb dX10_pathsThatFit_39 (by decide) ?_
        refine lv_iload_n hx hb dX10_pathsThatFit_40 rfl (lv_at hl 2 rfl) ?_
        refine lv_ishl hx hb dX10_pathsThatFit_41 ?_
        refine th_topi (fun z_43 rz_43 => ?_)
        refine lv_ior hx hb dX10_pathsThatFit_42 ?_
        refine th_topi (fun z_44 rz_44 => ?_)
        refine lv_istore_n (lv' := [(1, .int (I z_44)), (0, .ref a), (2, .int (I v2q28))]) hx hb dX10_pathsThatFit_43 rfl hl (by decide) rfl (fun ls hl => ?_)
        refine lv_iinc (v := I (v2q28 + 1)) (lv' := [(2, .int (I (v2q28 + 1))), (1, .int (I z_44)), (0, .ref a)]) hx hb dX10_pathsThatFit_44 hl (k := 2) rfl (I_add _ _) (by decide) rfl (fun ls hl => ?_)
        refine lv_goto (tgt := 8) hx hb dX10_pathsThatFit_47 (by decide) ?_
        exact ihJ_29 (z_44, v2q28 + 1) σ_s_7 _ _ _ (by first | omega | (dsimp only; omega)) ⟨rfl, hH, hS, lv_sub hl [2, 1, 0] rfl, rz_44, ⟨by first | omega | (dsimp only; omega), by first | omega | (dsimp only; omega)⟩, by first | omega | (dsimp only; omega), by first | omega | (dsimp only; omega)⟩

set_option maxHeartbeats 1000000 in
set_option maxRecDepth 100000 in
theorem q_look (l : Launch) (G : va_G) (y : Nat → ClassId) (b0 : Nat) (σ : th_M) (E : th_E) (hO : ok y E σ) (a : Nat) (h_a : kd E a = 12) : Met l yX10_look wsX10_look ({ frames := 7, cells := 0, slots := 0, locals := 211 }) (th_P G y b0 σ [.ref a]) (th_Qi G b0 (fun r σ1 => ok y E σ1 ∧ fr [12] E σ σ1 ∧ ((gI σ1 a 2 = gI σ a 2 ∧ gI σ1 a 1 = gI σ a 1) ∧ aF σ1 (ad E a 0) = aF σ (ad E a 0) ∧ aQ σ1 (ad E a 3) = aQ σ (ad E a 3)))) 0 0 (th_A b0) := by
  refine Met.ofW (cc := cX10_look) (maxL := 8) (ret := (some .int)) (by decide) rfl ?_
  intro p e s m args below meth c s₁ B hml hv
  obtain ⟨rfl, hH, hK⟩ := hv
  have hx := B.exec
  have hb := B.bytes
  have hr := B.returns
  have hts := atoms_spec (ws := wsX10_look) B.pre
  have hown : s.vm.findClass RX10 = some m.cls := findClass_of_methodNamed B.named
  have hlocks := B.notSynchronized
  have h00 : b0 ≤ s.heap.size := hH.1
  have hS : va_S (th_A b0) s.heap s.heap [] := va_S.rf
  have hF : fr [12] E σ σ := fr.rf
  have inX10 : ∀ w ∈ wsX100, w ∈ wsX10_look := by decide +kernel
  have inX6 : ∀ w ∈ wsX60, w ∈ wsX10_look := by decide +kernel
  have inX9 : ∀ w ∈ wsX90, w ∈ wsX10_look := by decide +kernel
  have fl0 := hts (.fieldLink RX10 63 "NestQuery" "now" "LNestQuery$State;") (by decide +kernel)
  have fl1 := hts (.methodLink RX10 358 Lib.Math.min.name) (by decide +kernel)
  have fl2 := hts (.static Lib.Math.min.name) (by decide +kernel)
  have fl3 := hts (.initialized "java/lang/Math") (by decide +kernel)
  have fl4 := hts (.code Lib.Math.min.name Lib.Math.min.code 2 (some .int)) (by decide +kernel)
  have hl := lv_entry ([.ref a]) (n := 8) (Nat.le_of_ble_eq_true rfl)
  rw [lg_entry_eq]
  generalize (lg_sl ([.ref a]) ++ List.replicate (8 - (lg_sl ([.ref a])).length) Slot.unset).toArray = ls at hl ⊢
  have hl : lv_has ls 8 [(0, .ref a)] := hl
  obtain ⟨a10, ea10, ra10, la10, ua10⟩ := hO.gi h_a (by decide) k12_1
  obtain ⟨a20, ea20, ra20, la20, ua20⟩ := hO.gi h_a (by decide) k12_2
  obtain ⟨f_1, ef_2⟩ : ∃ f9, aF σ (ad E a 0) = f9 := ⟨_, rfl⟩
  have h0row := ef_2
  obtain ⟨f_3, eq_4⟩ : ∃ f9, aQ σ (ad E a 3) = f9 := ⟨_, rfl⟩
  have h0q := eq_4
  refine lv_aload_n hx hb dX10_look_0 rfl (lv_at hl 0 rfl) ?_
  obtain ⟨_, hc_5⟩ := hO.cell h_a (by decide) (ci := 10) rfl
  refine th_calli (va_runV (As := []) (rest := []) ⟨hx, hb, hml, hown, hts⟩ (q_thatFit l G y b0 σ E hO a h_a) (cwV 0 hts gX10_look_X10_pathsThatFit rfl rfl rfl (by decide +kernel) ⟨Nat.le_of_ble_eq_true rfl, Nat.le_of_ble_eq_true rfl⟩) (th_PV hK hH rfl hc_5) rfl rfl hl.1 rfl (lv_room (Nat.le_of_ble_eq_true rfl)) dX10_look_1 ⟨Nat.le_of_ble_eq_true rfl, Nat.le_of_ble_eq_true rfl⟩) hS (fun z_8 σ_s_7 H locs rz_8 hw_6 hH hS => ?_)
  obtain ⟨hO9, hF9, hw_6⟩ := hw_6
  replace hO := hO9
  replace hF := hF.tu hF9 (by decide)
  replace hw_6 : (gI σ_s_7 a 2 = gI σ a 2 ∧ gI σ_s_7 a 1 = gI σ a 1) ∧ aF σ_s_7 (ad E a 0) = aF σ (ad E a 0) ∧ aQ σ_s_7 (ad E a 3) = aQ σ (ad E a 3) := hw_6
  have ef_9 : aF σ_s_7 (ad E a 0) = f_1 := (hw_6.2.1).trans ef_2
  have eq_10 : aQ σ_s_7 (ad E a 3) = f_3 := (hw_6.2.2).trans eq_4
  obtain ⟨z_11, e_12, rz_11, lz_11, uz_11⟩ := hO.gi h_a (by decide) k12_2
  refine lv_istore_n (lv' := [(1, .int (I z_8)), (0, .ref a)]) hx hb dX10_look_4 rfl hl (by decide) rfl (fun ls hl => ?_)
  refine lv_iload_n hx hb dX10_look_5 rfl (lv_at hl 0 rfl) ?_
  refine th_calli (va_runS (As := [.int (I z_8)]) (rest := []) ⟨hx, hb, hml, hown, hts⟩ (j_bitCount l G y b0 σ_s_7 E hO z_8 (show rng z_8 from rz_8)) (va_cwS 1 hts gX10_look_J6_bitCount_0f7a4 rfl rfl rfl (by decide +kernel) ⟨Nat.le_of_ble_eq_true rfl, Nat.le_of_ble_eq_true rfl⟩) (th_PS hK hH) rfl rfl hl.1 rfl (lv_room (Nat.le_of_ble_eq_true rfl)) dX10_look_6 ⟨Nat.le_of_ble_eq_true rfl, Nat.le_of_ble_eq_true rfl⟩) hS (fun z_15 σ_s_14 H locs rz_15 hw_13 hH hS => ?_)
  obtain ⟨e9, hw_13⟩ := hw_13
  replace e9 := e9.symm
  subst e9
  refine lv_istore_n (lv' := [(2, .int (I z_15)), (1, .int (I z_8)), (0, .ref a)]) hx hb dX10_look_9 rfl hl (by decide) rfl (fun ls hl => ?_)
  refine lv_iconst (v := I (-1)) hx hb dX10_look_10 (by decide) ?_
  refine lv_istore_n (lv' := [(3, .int (I (-1))), (2, .int (I z_15)), (1, .int (I z_8)), (0, .ref a)]) hx hb dX10_look_11 rfl hl (by decide) rfl (fun ls hl => ?_)
  refine lv_iconst (v := I 0) hx hb dX10_look_12 (by decide) ?_
  refine lv_istore (lv' := [(4, .int (I 0)), (3, .int (I (-1))), (2, .int (I z_15)), (1, .int (I z_8)), (0, .ref a)]) hx hb dX10_look_13 hl (by decide) rfl (fun ls hl => ?_)
  refine lv_iconst (v := I 0) hx hb dX10_look_15 (by decide) ?_
  refine lv_istore (lv' := [(5, .int (I 0)), (4, .int (I 0)), (3, .int (I (-1))), (2, .int (I z_15)), (1, .int (I z_8)), (0, .ref a)]) hx hb dX10_look_16 hl (by decide) rfl (fun ls hl => ?_)
  refine th_loop (α := Int × Int × Int) (pc := 18) (fun x9 => (60 - x9.2.2).toNat) (fun x9 σ9 H9 l9 ls9 => σ9 = σ_s_7 ∧ th_H G b0 σ9 H9 ∧ va_S (th_A b0) s.heap H9 l9 ∧ lv_has ls9 8 [(0, .ref a), (1, .int (I z_8)), (2, .int (I z_15)), (3, .int (I x9.1)), (4, .int (I x9.2.1)), (5, .int (I x9.2.2))] ∧ rng x9.1 ∧ rng x9.2.1 ∧ rng x9.2.2 ∧ (0 ≤ x9.2.2) ∧ (x9.2.2 ≤ 60)) ?_ ((-1), 0, 0) σ_s_7 _ _ _ ⟨rfl, hH, hS, lv_sub hl [5, 4, 3, 2, 1, 0] rfl, (show rng (-1) from ⟨by decide, by decide⟩), (show rng 0 from ⟨by decide, by decide⟩), (show rng 0 from ⟨by decide, by decide⟩), by first | omega | (dsimp only; omega), by first | omega | (dsimp only; omega)⟩
  intro x9 σ_J_30 H locs ls hI9 ihJ_30
  obtain ⟨v3q29, v4q29, v5q29⟩ := x9
  obtain ⟨eJ_30, hH, hS, hl, rv3q29, rv4q29, rv5q29, J_30_0, J_30_1⟩ := hI9
  replace eJ_30 := eJ_30.symm
  subst eJ_30
  have hl : lv_has ls 8 [(0, .ref a), (1, .int (I z_8)), (2, .int (I z_15)), (3, .int (I v3q29)), (4, .int (I v4q29)), (5, .int (I v5q29))] := hl
  have rv3q29 : rng v3q29 := rv3q29
  have rv4q29 : rng v4q29 := rv4q29
  have rv5q29 : rng v5q29 := rv5q29
  replace J_30_0 : 0 ≤ v5q29 := J_30_0
  replace J_30_1 : v5q29 ≤ 60 := J_30_1
  refine lv_iload hx hb dX10_look_18 (lv_at hl 5 rfl) ?_
  refine lv_aload_n hx hb dX10_look_20 rfl (lv_at hl 0 rfl) ?_
  have hp_31 : kd E (ad E a 9) = 5 := ok.pk hO h_a (by decide) k12_9 rfl
  refine ok.getR hO h_a (by decide) k12_9 (by decide) (fun _ _ he hv kk => th_get (ci := 10) (C := RX10) (T := TX10) (N := 18) hx hb hts inX10 hown hK hH he rfl 9 (by decide) fl0 hv dX10_look_21 kk) ?_
  have hp_32 : kd E (ad E (ad E a 9) 0) = 1 := ok.pk hO hp_31 (by decide) k5_0 rfl
  refine ok.getR hO hp_31 (by decide) k5_0 (by decide) (fun _ _ he hv kk => th_getN (ci := 6) (C := RX6) (T := TX6) (N := 7) hx hb hts inX6 hown hK hH he rfl 0 (by decide) (nl_13 hK) hv dX10_look_24 kk) ?_
  refine ok.getI hO hp_32 (by decide) k1_4 (fun _ _ he hv kk => th_getN (ci := 9) (C := RX9) (T := TX9) (N := 5) hx hb hts inX9 hown hK hH he rfl 4 (by decide) (nl_11 hK) hv dX10_look_27 kk) (fun z_33 e_34 rz_33 lz_33 uz_33 => ?_)
  refine lv_icmp_ge (tgt := 73) hx hb dX10_look_30 (by decide) (fun c_35 => ?_) (fun c_35 => ?_)
  · replace c_35 := (I_le (a := z_33) (b := v5q29) rz_33 rv5q29).mp c_35
    refine lv_iload_n hx hb dX10_look_73 rfl (lv_at hl 3 rfl) ?_
    exact th_iret hx hb hr hlocks hH hS (z := v3q29) rv3q29 ⟨hO, hF, ⟨by omega, (ef_9.trans h0row.symm), (eq_10.trans h0q.symm)⟩⟩ dX10_look_74
  · replace c_35 := mt (I_le (a := z_33) (b := v5q29) rz_33 rv5q29).mpr c_35
    refine lv_aload_n hx hb dX10_look_33 rfl (lv_at hl 0 rfl) ?_
    refine lv_iload hx hb dX10_look_34 (lv_at hl 5 rfl) ?_
    refine lv_iload_n hx hb dX10_look_36 rfl (lv_at hl 1 rfl) ?_
    obtain ⟨_, hc_36⟩ := hO.cell h_a (by decide) (ci := 10) rfl
    refine th_calli (va_runV (As := [.int (I v5q29), .int (I z_8)]) (rest := []) ⟨hx, hb, hml, hown, hts⟩ (q_foundAmong l G y b0 σ_s_7 E hO a h_a v5q29 (show rng v5q29 from rv5q29) z_8 (show rng z_8 from rz_8)) (cwV 2 hts gX10_look_X10_foundAmong rfl rfl rfl (by decide +kernel) ⟨Nat.le_of_ble_eq_true rfl, Nat.le_of_ble_eq_true rfl⟩) (th_PV hK hH rfl hc_36) rfl rfl hl.1 rfl (lv_room (Nat.le_of_ble_eq_true rfl)) dX10_look_37 ⟨Nat.le_of_ble_eq_true rfl, Nat.le_of_ble_eq_true rfl⟩) hS (fun z_39 σ_s_38 H locs rz_39 hw_37 hH hS => ?_)
    obtain ⟨e9, hw_37⟩ := hw_37
    replace e9 := e9.symm
    subst e9
    refine lv_istore (lv' := [(6, .int (I z_39)), (0, .ref a), (1, .int (I z_8)), (2, .int (I z_15)), (3, .int (I v3q29)), (4, .int (I v4q29)), (5, .int (I v5q29))]) hx hb dX10_look_40 hl (by decide) rfl (fun ls hl => ?_)
    refine lv_iload hx hb dX10_look_42 (lv_at hl 0 rfl) ?_
    refine lv_iload_n hx hb dX10_look_44 rfl (lv_at hl 3 rfl) ?_
    refine lv_iload hx hb dX10_look_45 (lv_at hl 0 rfl) ?_
    refine lv_isub hx hb dX10_look_47 ?_
    refine th_subo (fun z_40 rz_40 hz_40 => ?_)
    refine va_mmin hx hb (by rw [hml]; exact hl.1.symm) hown fl1 fl2 fl3 fl4 (Nat.le_of_ble_eq_true rfl) (Nat.le_of_ble_eq_true rfl) (Nat.zero_le _) (Nat.zero_le _) dX10_look_48 ?_
    refine th_mmin rz_39 rz_40 (fun z_41 rz_41 hz_41 => ?_)
    refine lv_istore (lv' := [(7, .int (I z_41)), (6, .int (I z_39)), (0, .ref a), (1, .int (I z_8)), (2, .int (I z_15)), (3, .int (I v3q29)), (4, .int (I v4q29)), (5, .int (I v5q29))]) hx hb dX10_look_51 hl (by decide) rfl (fun ls hl => ?_)
    refine lv_iload hx hb dX10_look_53 (lv_at hl 0 rfl) ?_
    refine lv_iload hx hb dX10_look_55 (lv_at hl 6 rfl) ?_
    refine lv_icmp_le (tgt := 67) hx hb dX10_look_57 (by decide) (fun c_42 => ?_) (fun c_42 => ?_)
    · replace c_42 := (I_le (a := z_41) (b := v4q29) rz_41 rv4q29).mp c_42
      refine lv_iinc (v := I (v5q29 + 1)) (lv' := [(5, .int (I (v5q29 + 1))), (7, .int (I z_41)), (6, .int (I z_39)), (0, .ref a), (1, .int (I z_8)), (2, .int (I z_15)), (3, .int (I v3q29)), (4, .int (I v4q29))]) hx hb dX10_look_67 hl (k := 7) rfl (I_add _ _) (by decide) rfl (fun ls hl => ?_)
      refine lv_goto (tgt := 18) hx hb dX10_look_70 (by decide) ?_
      replace hl : lv_has ls 8 [(5, .int (I (v5q29 + 1))), (0, .ref a), (1, .int (I z_8)), (2, .int (I z_15)), (3, .int (I v3q29)), (4, .int (I v4q29))] := lv_sub hl [0, 3, 4, 5, 6, 7] rfl
      exact ihJ_30 (v3q29, v4q29, v5q29 + 1) σ_s_7 _ _ _ (by first | omega | (dsimp only; omega)) ⟨rfl, hH, hS, lv_sub hl [1, 2, 3, 4, 5, 0] rfl, rv3q29, rv4q29, ⟨by first | omega | (dsimp only; omega), by first | omega | (dsimp only; omega)⟩, by first | omega | (dsimp only; omega), by first | omega | (dsimp only; omega)⟩
    · replace c_42 := mt (I_le (a := z_41) (b := v4q29) rz_41 rv4q29).mpr c_42
      refine lv_iload hx hb dX10_look_60 (lv_at hl 0 rfl) ?_
      refine lv_istore (lv' := [(4, .int (I z_41)), (7, .int (I z_41)), (6, .int (I z_39)), (0, .ref a), (1, .int (I z_8)), (2, .int (I z_15)), (3, .int (I v3q29)), (5, .int (I v5q29))]) hx hb dX10_look_62 hl (by decide) rfl (fun ls hl => ?_)
      refine lv_iload hx hb dX10_look_64 (lv_at hl 7 rfl) ?_
      refine lv_istore_n (lv' := [(3, .int (I v5q29)), (4, .int (I z_41)), (7, .int (I z_41)), (6, .int (I z_39)), (0, .ref a), (1, .int (I z_8)), (2, .int (I z_15)), (5, .int (I v5q29))]) hx hb dX10_look_66 rfl hl (by decide) rfl (fun ls hl => ?_)
      refine lv_iinc (v := I (v5q29 + 1)) (lv' := [(5, .int (I (v5q29 + 1))), (3, .int (I v5q29)), (4, .int (I z_41)), (7, .int (I z_41)), (6, .int (I z_39)), (0, .ref a), (1, .int (I z_8)), (2, .int (I z_15))]) hx hb dX10_look_67 hl (k := 7) rfl (I_add _ _) (by decide) rfl (fun ls hl => ?_)
      refine lv_goto (tgt := 18) hx hb dX10_look_70 (by decide) ?_
      replace hl : lv_has ls 8 [(5, .int (I (v5q29 + 1))), (3, .int (I v5q29)), (4, .int (I z_41)), (0, .ref a), (1, .int (I z_8)), (2, .int (I z_15))] := lv_sub hl [0, 1, 2, 5, 6, 7] rfl
      exact ihJ_30 (v5q29, z_41, v5q29 + 1) σ_s_7 _ _ _ (by first | omega | (dsimp only; omega)) ⟨rfl, hH, hS, lv_sub hl [3, 4, 5, 1, 2, 0] rfl, rv5q29, rz_41, ⟨by first | omega | (dsimp only; omega), by first | omega | (dsimp only; omega)⟩, by first | omega | (dsimp only; omega), by first | omega | (dsimp only; omega)⟩
