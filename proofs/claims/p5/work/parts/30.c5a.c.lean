set_option maxHeartbeats 4000000 in
set_option maxRecDepth 100000 in
theorem w_parentOf (l : Launch) (G : va_G) (y : Nat → ClassId) (b0 : Nat) (σ : th_M) (E : th_E) (hO : ok y E σ) (b : Nat) (bn : Nat) (bf : Nat → Int32) (h_b : σ b = some (.inl (y 0, bn, .inl bf))) (i : Int) (ri : rng i) (l_i : 0 ≤ i) (u_i : i ≤ 4000) (hy0 : few bf i) (hy1 : 4 * i ≤ bn) : Met l yX11_parentOf wsX11_parentOf ({ frames := 1, cells := 0, slots := 0, locals := 25 }) (th_P G y b0 σ [.ref b, .int (I i)]) (th_Qi G b0 (fun r σ1 => σ1 = σ ∧ (r = -1 ∨ (0 ≤ r ∧ r < i)))) 0 0 (th_A b0) := by
  refine Met.ofW (cc := cX11_parentOf) (maxL := 3) (ret := (some .int)) (by decide) rfl ?_
  intro p e s m args below meth c s₁ B hml hv
  obtain ⟨rfl, hH, hK⟩ := hv
  have hx := B.exec
  have hb := B.bytes
  have hr := B.returns
  have hts := atoms_spec (ws := wsX11_parentOf) B.pre
  have hown : s.vm.findClass RX11 = some m.cls := findClass_of_methodNamed B.named
  have hlocks := B.notSynchronized
  have h00 : b0 ≤ s.heap.size := hH.1
  have hS : va_S (th_A b0) s.heap s.heap [] := va_S.rf
  have hl := lv_entry ([.ref b, .int (I i)]) (n := 3) (Nat.le_of_ble_eq_true rfl)
  rw [lg_entry_eq]
  generalize (lg_sl ([.ref b, .int (I i)]) ++ List.replicate (3 - (lg_sl ([.ref b, .int (I i)])).length) Slot.unset).toArray = ls at hl ⊢
  have hl : lv_has ls 3 [(0, .ref b), (1, .int (I i))] := hl
  refine lv_iload_n hx hb dX11_parentOf_0 rfl (lv_at hl 1 rfl) ?_
  refine lv_iconst (v := I 1) hx hb dX11_parentOf_1 (by decide) ?_
  refine lv_isub hx hb dX11_parentOf_2 ?_
  refine nq_top (I_sub _ _) ?_
  refine lv_istore_n (lv' := [(2, .int (I (i - 1))), (0, .ref b), (1, .int (I i))]) hx hb dX11_parentOf_3 rfl hl (by decide) rfl (fun ls hl => ?_)
  refine th_loop (α := Int) (pc := 4) (fun x9 => (x9 + 1).toNat) (fun x9 σ9 H9 l9 ls9 => σ9 = σ ∧ th_H G b0 σ9 H9 ∧ va_S (th_A b0) s.heap H9 l9 ∧ lv_has ls9 3 [(0, .ref b), (1, .int (I i)), (2, .int (I x9))] ∧ rng x9 ∧ (-1 ≤ x9) ∧ (x9 < i) ∧ (x9 ≤ 4000)) ?_ (i - 1) σ _ _ _ ⟨rfl, hH, hS, lv_sub hl [1, 2, 0] rfl, ⟨by first | (dsimp only; omega) | omega, by first | (dsimp only; omega) | omega⟩, by first | (dsimp only; omega) | omega, by first | (dsimp only; omega) | omega, by first | (dsimp only; omega) | omega⟩
  intro x9 σ_J_9 H locs ls hI9 ihJ_9
  obtain ⟨v2q8, ex9⟩ : ∃ z, z = x9 := ⟨_, rfl⟩
  subst ex9
  obtain ⟨eJ_9, hH, hS, hl, rv2q8, J_9_0, J_9_1, J_9_2⟩ := hI9
  replace eJ_9 := eJ_9.symm
  subst eJ_9
  have hl : lv_has ls 3 [(0, .ref b), (1, .int (I i)), (2, .int (I v2q8))] := hl
  have rv2q8 : rng v2q8 := rv2q8
  have J_9_0 : -1 ≤ v2q8 := J_9_0
  have J_9_1 : v2q8 < i := J_9_1
  have J_9_2 : v2q8 ≤ 4000 := J_9_2
  refine lv_iload_n hx hb dX11_parentOf_4 rfl (lv_at hl 2 rfl) ?_
  refine lv_if_lt (tgt := 27) hx hb dX11_parentOf_5 (by decide) (fun c_10 => ?_) (fun c_10 => ?_)
  · replace c_10 := (I_lt (a := v2q8) (b := 0) rv2q8 (show rng 0 from ⟨by decide, by decide⟩)).mp c_10
    refine lv_iconst (v := I (-1)) hx hb dX11_parentOf_27 (by decide) ?_
    exact th_iret hx hb hr hlocks hH hS (z := (-1)) (show rng (-1) from ⟨by decide, by decide⟩) ⟨rfl, by omega⟩ dX11_parentOf_28
  · replace c_10 := mt (I_lt (a := v2q8) (b := 0) rv2q8 (show rng 0 from ⟨by decide, by decide⟩)).mpr c_10
    refine lv_iload_n hx hb dX11_parentOf_8 rfl (lv_at hl 2 rfl) ?_
    refine lv_aload_n hx hb dX11_parentOf_9 rfl (lv_at hl 0 rfl) ?_
    refine lv_iload_n hx hb dX11_parentOf_10 rfl (lv_at hl 2 rfl) ?_
    refine th_calli (va_runS (As := [.ref b, .int (I v2q8)]) (rest := [.int (I v2q8)]) ⟨hx, hb, hml, hown, hts⟩ (w_size l G y b0 σ E hO b bn bf h_b v2q8 (show rng v2q8 from rv2q8) (by omega) (by omega) (by omega)) (va_cwS 2 hts gX11_parentOf_X11_size rfl rfl rfl (by decide +kernel) ⟨Nat.le_of_ble_eq_true rfl, Nat.le_of_ble_eq_true rfl⟩) (th_PS hK hH) rfl rfl hl.1 rfl (lv_room (Nat.le_of_ble_eq_true rfl)) dX11_parentOf_11 ⟨Nat.le_of_ble_eq_true rfl, Nat.le_of_ble_eq_true rfl⟩) hS (fun z_13 σ_s_12 H locs rz_13 hw_11 hH hS => ?_)
    obtain ⟨e9, hw_11⟩ := hw_11
    replace e9 := e9.symm
    subst e9
    have hw_11 : z_13 = mS bf v2q8 := hw_11
    have hf9 := hy0 v2q8 (by omega) (by omega)
    refine lv_iadd hx hb dX11_parentOf_14 ?_
    refine th_addo (fun z_14 rz_14 hz_14 => ?_)
    refine lv_iload_n hx hb dX11_parentOf_15 rfl (lv_at hl 1 rfl) ?_
    refine lv_icmp_le (tgt := 21) hx hb dX11_parentOf_16 (by decide) (fun c_15 => ?_) (fun c_15 => ?_)
    · replace c_15 := (I_le (a := z_14) (b := i) rz_14 ri).mp c_15
      refine lv_iinc (v := I (v2q8 + (-1))) (lv' := [(2, .int (I (v2q8 + (-1)))), (0, .ref b), (1, .int (I i))]) hx hb dX11_parentOf_21 hl (k := 2) rfl (I_add _ _) (by decide) rfl (fun ls hl => ?_)
      refine lv_goto (tgt := 4) hx hb dX11_parentOf_24 (by decide) ?_
      exact ihJ_9 (v2q8 + (-1)) σ _ _ _ (by first | (dsimp only; omega) | omega) ⟨rfl, hH, hS, lv_sub hl [1, 2, 0] rfl, ⟨by first | (dsimp only; omega) | omega, by first | (dsimp only; omega) | omega⟩, by first | (dsimp only; omega) | omega, by first | (dsimp only; omega) | omega, by first | (dsimp only; omega) | omega⟩
    · replace c_15 := mt (I_le (a := z_14) (b := i) rz_14 ri).mpr c_15
      refine lv_iload_n hx hb dX11_parentOf_19 rfl (lv_at hl 2 rfl) ?_
      exact th_iret hx hb hr hlocks hH hS (z := v2q8) rv2q8 ⟨rfl, by omega⟩ dX11_parentOf_20

set_option maxHeartbeats 4000000 in
set_option maxRecDepth 100000 in
theorem w_depthOf (l : Launch) (G : va_G) (y : Nat → ClassId) (b0 : Nat) (σ : th_M) (E : th_E) (hO : ok y E σ) (b : Nat) (bn : Nat) (bf : Nat → Int32) (h_b : σ b = some (.inl (y 0, bn, .inl bf))) (i : Int) (ri : rng i) (l_i : 0 ≤ i) (u_i : i ≤ 4000) (hy0 : few bf i) (hy1 : 4 * i ≤ bn) : Met l yX11_depthOf wsX11_depthOf ({ frames := 1, cells := 0, slots := 0, locals := 25 }) (th_P G y b0 σ [.ref b, .int (I i)]) (th_Qi G b0 (fun r σ1 => σ1 = σ ∧ (r = cn bf i i.toNat ∧ 0 ≤ r ∧ r ≤ i))) 0 0 (th_A b0) := by
  refine Met.ofW (cc := cX11_depthOf) (maxL := 4) (ret := (some .int)) (by decide) rfl ?_
  intro p e s m args below meth c s₁ B hml hv
  obtain ⟨rfl, hH, hK⟩ := hv
  have hx := B.exec
  have hb := B.bytes
  have hr := B.returns
  have hts := atoms_spec (ws := wsX11_depthOf) B.pre
  have hown : s.vm.findClass RX11 = some m.cls := findClass_of_methodNamed B.named
  have hlocks := B.notSynchronized
  have h00 : b0 ≤ s.heap.size := hH.1
  have hS : va_S (th_A b0) s.heap s.heap [] := va_S.rf
  have hl := lv_entry ([.ref b, .int (I i)]) (n := 4) (Nat.le_of_ble_eq_true rfl)
  rw [lg_entry_eq]
  generalize (lg_sl ([.ref b, .int (I i)]) ++ List.replicate (4 - (lg_sl ([.ref b, .int (I i)])).length) Slot.unset).toArray = ls at hl ⊢
  have hl : lv_has ls 4 [(0, .ref b), (1, .int (I i))] := hl
  refine lv_iconst (v := I 0) hx hb dX11_depthOf_0 (by decide) ?_
  refine lv_istore_n (lv' := [(2, .int (I 0)), (0, .ref b), (1, .int (I i))]) hx hb dX11_depthOf_1 rfl hl (by decide) rfl (fun ls hl => ?_)
  refine lv_iconst (v := I 0) hx hb dX11_depthOf_2 (by decide) ?_
  refine lv_istore_n (lv' := [(3, .int (I 0)), (2, .int (I 0)), (0, .ref b), (1, .int (I i))]) hx hb dX11_depthOf_3 rfl hl (by decide) rfl (fun ls hl => ?_)
  refine th_loop (α := Int × Int) (pc := 4) (fun x9 => (i - x9.2).toNat) (fun x9 σ9 H9 l9 ls9 => σ9 = σ ∧ th_H G b0 σ9 H9 ∧ va_S (th_A b0) s.heap H9 l9 ∧ lv_has ls9 4 [(0, .ref b), (1, .int (I i)), (2, .int (I x9.1)), (3, .int (I x9.2))] ∧ rng x9.1 ∧ rng x9.2 ∧ (0 ≤ x9.1) ∧ (x9.1 ≤ x9.2) ∧ (x9.1 = cn bf i x9.2.toNat) ∧ (0 ≤ x9.2) ∧ (x9.2 ≤ i) ∧ (x9.2 ≤ 4000)) ?_ (0, 0) σ _ _ _ ⟨rfl, hH, hS, lv_sub hl [2, 3, 1, 0] rfl, (show rng 0 from ⟨by decide, by decide⟩), (show rng 0 from ⟨by decide, by decide⟩), by first | (dsimp only; omega) | omega, by first | (dsimp only; omega) | omega, rfl, by first | (dsimp only; omega) | omega, by first | (dsimp only; omega) | omega, by first | (dsimp only; omega) | omega⟩
  intro x9 σ_J_9 H locs ls hI9 ihJ_9
  obtain ⟨v2q8, v3q8⟩ := x9
  obtain ⟨eJ_9, hH, hS, hl, rv2q8, rv3q8, J_9_0, J_9_1, J_9_2, J_9_3, J_9_4, J_9_5⟩ := hI9
  replace eJ_9 := eJ_9.symm
  subst eJ_9
  have hl : lv_has ls 4 [(0, .ref b), (1, .int (I i)), (2, .int (I v2q8)), (3, .int (I v3q8))] := hl
  have rv2q8 : rng v2q8 := rv2q8
  have rv3q8 : rng v3q8 := rv3q8
  have J_9_0 : 0 ≤ v2q8 := J_9_0
  have J_9_1 : v2q8 ≤ v3q8 := J_9_1
  have J_9_2 : v2q8 = cn bf i v3q8.toNat := J_9_2
  have J_9_3 : 0 ≤ v3q8 := J_9_3
  have J_9_4 : v3q8 ≤ i := J_9_4
  have J_9_5 : v3q8 ≤ 4000 := J_9_5
  refine lv_iload_n hx hb dX11_depthOf_4 rfl (lv_at hl 3 rfl) ?_
  refine lv_iload_n hx hb dX11_depthOf_5 rfl (lv_at hl 1 rfl) ?_
  refine lv_icmp_ge (tgt := 34) hx hb dX11_depthOf_6 (by decide) (fun c_10 => ?_) (fun c_10 => ?_)
  · replace c_10 := (I_le (a := i) (b := v3q8) ri rv3q8).mp c_10
    refine lv_iload_n hx hb dX11_depthOf_34 rfl (lv_at hl 2 rfl) ?_
    exact th_iret hx hb hr hlocks hH hS (z := v2q8) rv2q8 ⟨rfl, ⟨by have e9 : i.toNat = v3q8.toNat := (by omega); rw [e9]; exact J_9_2, by omega, by omega⟩⟩ dX11_depthOf_35
  · replace c_10 := mt (I_le (a := i) (b := v3q8) ri rv3q8).mpr c_10
    refine lv_iload_n hx hb dX11_depthOf_9 rfl (lv_at hl 2 rfl) ?_
    refine lv_iload_n hx hb dX11_depthOf_10 rfl (lv_at hl 3 rfl) ?_
    refine lv_aload_n hx hb dX11_depthOf_11 rfl (lv_at hl 0 rfl) ?_
    refine lv_iload_n hx hb dX11_depthOf_12 rfl (lv_at hl 3 rfl) ?_
    refine th_calli (va_runS (As := [.ref b, .int (I v3q8)]) (rest := [.int (I v3q8), .int (I v2q8)]) ⟨hx, hb, hml, hown, hts⟩ (w_size l G y b0 σ E hO b bn bf h_b v3q8 (show rng v3q8 from rv3q8) (by omega) (by omega) (by omega)) (va_cwS 2 hts gX11_depthOf_X11_size rfl rfl rfl (by decide +kernel) ⟨Nat.le_of_ble_eq_true rfl, Nat.le_of_ble_eq_true rfl⟩) (th_PS hK hH) rfl rfl hl.1 rfl (lv_room (Nat.le_of_ble_eq_true rfl)) dX11_depthOf_13 ⟨Nat.le_of_ble_eq_true rfl, Nat.le_of_ble_eq_true rfl⟩) hS (fun z_13 σ_s_12 H locs rz_13 hw_11 hH hS => ?_)
    obtain ⟨e9, hw_11⟩ := hw_11
    replace e9 := e9.symm
    subst e9
    have hw_11 : z_13 = mS bf v3q8 := hw_11
    have hf9 := hy0 v3q8 (by omega) (by omega)
    refine lv_iadd hx hb dX11_depthOf_16 ?_
    refine th_addo (fun z_14 rz_14 hz_14 => ?_)
    refine lv_iload_n hx hb dX11_depthOf_17 rfl (lv_at hl 1 rfl) ?_
    refine lv_icmp_le (tgt := 25) hx hb dX11_depthOf_18 (by decide) (fun c_15 => ?_) (fun c_15 => ?_)
    · replace c_15 := (I_le (a := z_14) (b := i) rz_14 ri).mp c_15
      refine lv_iconst (v := I 0) hx hb dX11_depthOf_25 (by decide) ?_
      refine lv_iadd hx hb dX11_depthOf_26 ?_
      refine nq_top (I_add _ _) ?_
      refine lv_istore_n (lv' := [(2, .int (I (v2q8 + 0))), (0, .ref b), (1, .int (I i)), (3, .int (I v3q8))]) hx hb dX11_depthOf_27 rfl hl (by decide) rfl (fun ls hl => ?_)
      refine lv_iinc (v := I (v3q8 + 1)) (lv' := [(3, .int (I (v3q8 + 1))), (2, .int (I (v2q8 + 0))), (0, .ref b), (1, .int (I i))]) hx hb dX11_depthOf_28 hl (k := 3) rfl (I_add _ _) (by decide) rfl (fun ls hl => ?_)
      refine lv_goto (tgt := 4) hx hb dX11_depthOf_31 (by decide) ?_
      exact ihJ_9 (v2q8 + 0, v3q8 + 1) σ _ _ _ (by first | (dsimp only; omega) | omega) ⟨rfl, hH, hS, lv_sub hl [2, 3, 1, 0] rfl, ⟨by first | (dsimp only; omega) | omega, by first | (dsimp only; omega) | omega⟩, ⟨by first | (dsimp only; omega) | omega, by first | (dsimp only; omega) | omega⟩, by first | (dsimp only; omega) | omega, by first | (dsimp only; omega) | omega, (by have h9 := cn_step (f := bf) (i := i) (j := v3q8) (z := 0) (by omega) (by rw [if_neg (by omega)]); first | (dsimp only; omega) | omega), by first | (dsimp only; omega) | omega, by first | (dsimp only; omega) | omega, by first | (dsimp only; omega) | omega⟩
    · replace c_15 := mt (I_le (a := z_14) (b := i) rz_14 ri).mpr c_15
      refine lv_iconst (v := I 1) hx hb dX11_depthOf_21 (by decide) ?_
      refine lv_goto (tgt := 26) hx hb dX11_depthOf_22 (by decide) ?_
      refine lv_iadd hx hb dX11_depthOf_26 ?_
      refine nq_top (I_add _ _) ?_
      refine lv_istore_n (lv' := [(2, .int (I (v2q8 + 1))), (0, .ref b), (1, .int (I i)), (3, .int (I v3q8))]) hx hb dX11_depthOf_27 rfl hl (by decide) rfl (fun ls hl => ?_)
      refine lv_iinc (v := I (v3q8 + 1)) (lv' := [(3, .int (I (v3q8 + 1))), (2, .int (I (v2q8 + 1))), (0, .ref b), (1, .int (I i))]) hx hb dX11_depthOf_28 hl (k := 3) rfl (I_add _ _) (by decide) rfl (fun ls hl => ?_)
      refine lv_goto (tgt := 4) hx hb dX11_depthOf_31 (by decide) ?_
      exact ihJ_9 (v2q8 + 1, v3q8 + 1) σ _ _ _ (by first | (dsimp only; omega) | omega) ⟨rfl, hH, hS, lv_sub hl [2, 3, 1, 0] rfl, ⟨by first | (dsimp only; omega) | omega, by first | (dsimp only; omega) | omega⟩, ⟨by first | (dsimp only; omega) | omega, by first | (dsimp only; omega) | omega⟩, by first | (dsimp only; omega) | omega, by first | (dsimp only; omega) | omega, (by have h9 := cn_step (f := bf) (i := i) (j := v3q8) (z := 1) (by omega) (by rw [if_pos (by omega)]); first | (dsimp only; omega) | omega), by first | (dsimp only; omega) | omega, by first | (dsimp only; omega) | omega, by first | (dsimp only; omega) | omega⟩

set_option maxHeartbeats 4000000 in
set_option maxRecDepth 100000 in
theorem w_placeOf (l : Launch) (G : va_G) (y : Nat → ClassId) (b0 : Nat) (σ : th_M) (E : th_E) (hO : ok y E σ) (b : Nat) (bn : Nat) (bf : Nat → Int32) (h_b : σ b = some (.inl (y 0, bn, .inl bf))) (i : Int) (ri : rng i) (l_i : 0 ≤ i) (u_i : i ≤ 4000) (hy0 : wf bf 0 (mS bf 0)) (hy1 : i < mS bf 0 ∧ mS bf 0 ≤ 4000) (hy2 : 4 * mS bf 0 ≤ bn) : Met l yX11_placeOf wsX11_placeOf ({ frames := 2, cells := 0, slots := 0, locals := 51 }) (th_P G y b0 σ [.ref b, .int (I i)]) (th_Qi G b0 (fun r σ1 => σ1 = σ ∧ (-1 ≤ r ∧ r ≤ 4000))) 0 0 (th_A b0) := by
  refine Met.ofW (cc := cX11_placeOf) (maxL := 5) (ret := (some .int)) (by decide) rfl ?_
  intro p e s m args below meth c s₁ B hml hv
  obtain ⟨rfl, hH, hK⟩ := hv
  have hx := B.exec
  have hb := B.bytes
  have hr := B.returns
  have hts := atoms_spec (ws := wsX11_placeOf) B.pre
  have hown : s.vm.findClass RX11 = some m.cls := findClass_of_methodNamed B.named
  have hlocks := B.notSynchronized
  have h00 : b0 ≤ s.heap.size := hH.1
  have hS : va_S (th_A b0) s.heap s.heap [] := va_S.rf
  have hl := lv_entry ([.ref b, .int (I i)]) (n := 5) (Nat.le_of_ble_eq_true rfl)
  rw [lg_entry_eq]
  generalize (lg_sl ([.ref b, .int (I i)]) ++ List.replicate (5 - (lg_sl ([.ref b, .int (I i)])).length) Slot.unset).toArray = ls at hl ⊢
  have hl : lv_has ls 5 [(0, .ref b), (1, .int (I i))] := hl
  refine lv_aload_n hx hb dX11_placeOf_0 rfl (lv_at hl 0 rfl) ?_
  refine lv_iload_n hx hb dX11_placeOf_1 rfl (lv_at hl 1 rfl) ?_
  refine th_calli (va_runS (As := [.ref b, .int (I i)]) (rest := []) ⟨hx, hb, hml, hown, hts⟩ (w_parentOf l G y b0 σ E hO b bn bf h_b i (show rng i from ri) (by omega) (by omega) ((hy0.few (by omega) (by omega))) (by omega)) (va_cwS 2 hts gX11_placeOf_X11_parentOf rfl rfl rfl (by decide +kernel) ⟨Nat.le_of_ble_eq_true rfl, Nat.le_of_ble_eq_true rfl⟩) (th_PS hK hH) rfl rfl hl.1 rfl (lv_room (Nat.le_of_ble_eq_true rfl)) dX11_placeOf_2 ⟨Nat.le_of_ble_eq_true rfl, Nat.le_of_ble_eq_true rfl⟩) hS (fun z_3 σ_s_2 H locs rz_3 hw_1 hH hS => ?_)
  obtain ⟨e9, hw_1⟩ := hw_1
  replace e9 := e9.symm
  subst e9
  have hw_1 : z_3 = -1 ∨ (0 ≤ z_3 ∧ z_3 < i) := hw_1
  refine lv_istore_n (lv' := [(2, .int (I z_3)), (0, .ref b), (1, .int (I i))]) hx hb dX11_placeOf_5 rfl hl (by decide) rfl (fun ls hl => ?_)
  refine lv_iconst (v := I 0) hx hb dX11_placeOf_6 (by decide) ?_
  refine lv_istore_n (lv' := [(3, .int (I 0)), (2, .int (I z_3)), (0, .ref b), (1, .int (I i))]) hx hb dX11_placeOf_7 rfl hl (by decide) rfl (fun ls hl => ?_)
  refine lv_iload_n hx hb dX11_placeOf_8 rfl (lv_at hl 1 rfl) ?_
  refine lv_iconst (v := I 1) hx hb dX11_placeOf_9 (by decide) ?_
  refine lv_iadd hx hb dX11_placeOf_10 ?_
  refine th_addo (fun z_4 rz_4 hz_4 => ?_)
  refine lv_istore (lv' := [(4, .int (I z_4)), (3, .int (I 0)), (2, .int (I z_3)), (0, .ref b), (1, .int (I i))]) hx hb dX11_placeOf_11 hl (by decide) rfl (fun ls hl => ?_)
  refine th_loop (α := Int × Int) (pc := 13) (fun x9 => (mS bf 0 - x9.2).toNat) (fun x9 σ9 H9 l9 ls9 => σ9 = σ ∧ th_H G b0 σ9 H9 ∧ va_S (th_A b0) s.heap H9 l9 ∧ lv_has ls9 5 [(0, .ref b), (1, .int (I i)), (2, .int (I z_3)), (3, .int (I x9.1)), (4, .int (I x9.2))] ∧ rng x9.1 ∧ rng x9.2 ∧ (0 ≤ x9.2) ∧ (x9.2 ≤ mS bf 0) ∧ (x9.2 ≤ 4000) ∧ (0 ≤ x9.1) ∧ (x9.1 ≤ x9.2)) ?_ (0, z_4) σ _ _ _ ⟨rfl, hH, hS, lv_sub hl [3, 4, 2, 1, 0] rfl, (show rng 0 from ⟨by decide, by decide⟩), rz_4, by first | (dsimp only; omega) | omega, by first | (dsimp only; omega) | omega, by first | (dsimp only; omega) | omega, by first | (dsimp only; omega) | omega, by first | (dsimp only; omega) | omega⟩
  intro x9 σ_J_13 H locs ls hI9 ihJ_13
  obtain ⟨v3q12, v4q12⟩ := x9
  obtain ⟨eJ_13, hH, hS, hl, rv3q12, rv4q12, J_13_0, J_13_1, J_13_2, J_13_3, J_13_4⟩ := hI9
  replace eJ_13 := eJ_13.symm
  subst eJ_13
  have hl : lv_has ls 5 [(0, .ref b), (1, .int (I i)), (2, .int (I z_3)), (3, .int (I v3q12)), (4, .int (I v4q12))] := hl
  have rv3q12 : rng v3q12 := rv3q12
  have rv4q12 : rng v4q12 := rv4q12
  have J_13_0 : 0 ≤ v4q12 := J_13_0
  have J_13_1 : v4q12 ≤ mS bf 0 := J_13_1
  have J_13_2 : v4q12 ≤ 4000 := J_13_2
  have J_13_3 : 0 ≤ v3q12 := J_13_3
  have J_13_4 : v3q12 ≤ v4q12 := J_13_4
  refine lv_iload hx hb dX11_placeOf_13 (lv_at hl 4 rfl) ?_
  refine lv_iload_n hx hb dX11_placeOf_15 rfl (lv_at hl 1 rfl) ?_
  refine lv_icmp_ge (tgt := 41) hx hb dX11_placeOf_16 (by decide) (fun c_14 => ?_) (fun c_14 => ?_)
  · replace c_14 := (I_le (a := i) (b := v4q12) ri rv4q12).mp c_14
    refine lv_iload_n hx hb dX11_placeOf_41 rfl (lv_at hl 2 rfl) ?_
    refine lv_iconst (v := I (-1)) hx hb dX11_placeOf_42 (by decide) ?_
    refine lv_icmp_ne (tgt := 50) hx hb dX11_placeOf_43 (by decide) (fun c_15 => ?_) (fun c_15 => ?_)
    · replace c_15 := mt (I_eq (a := z_3) (b := (-1)) rz_3 (show rng (-1) from ⟨by decide, by decide⟩)).mpr c_15
      refine lv_iload_n hx hb dX11_placeOf_50 rfl (lv_at hl 3 rfl) ?_
      exact th_iret hx hb hr hlocks hH hS (z := v3q12) rv3q12 ⟨rfl, by omega⟩ dX11_placeOf_51
    · replace c_15 := (I_eq (a := z_3) (b := (-1)) rz_3 (show rng (-1) from ⟨by decide, by decide⟩)).mp c_15
      refine lv_iconst (v := I (-1)) hx hb dX11_placeOf_46 (by decide) ?_
      refine lv_goto (tgt := 51) hx hb dX11_placeOf_47 (by decide) ?_
      exact th_iret hx hb hr hlocks hH hS (z := (-1)) (show rng (-1) from ⟨by decide, by decide⟩) ⟨rfl, by omega⟩ dX11_placeOf_51
  · replace c_14 := mt (I_le (a := i) (b := v4q12) ri rv4q12).mpr c_14
    refine lv_iload_n hx hb dX11_placeOf_19 rfl (lv_at hl 2 rfl) ?_
    refine lv_iconst (v := I (-1)) hx hb dX11_placeOf_20 (by decide) ?_
    refine lv_icmp_eq (tgt := 41) hx hb dX11_placeOf_21 (by decide) (fun c_16 => ?_) (fun c_16 => ?_)
    · replace c_16 := (I_eq (a := z_3) (b := (-1)) rz_3 (show rng (-1) from ⟨by decide, by decide⟩)).mp c_16
      refine lv_iload_n hx hb dX11_placeOf_41 rfl (lv_at hl 2 rfl) ?_
      refine lv_iconst (v := I (-1)) hx hb dX11_placeOf_42 (by decide) ?_
      refine lv_icmp_ne (tgt := 50) hx hb dX11_placeOf_43 (by decide) (fun c_17 => ?_) (fun c_17 => ?_)
      · replace c_17 := mt (I_eq (a := z_3) (b := (-1)) rz_3 (show rng (-1) from ⟨by decide, by decide⟩)).mpr c_17
        refine lv_iload_n hx hb dX11_placeOf_50 rfl (lv_at hl 3 rfl) ?_
        exact th_iret hx hb hr hlocks hH hS (z := v3q12) rv3q12 ⟨rfl, by omega⟩ dX11_placeOf_51
      · replace c_17 := (I_eq (a := z_3) (b := (-1)) rz_3 (show rng (-1) from ⟨by decide, by decide⟩)).mp c_17
        refine lv_iconst (v := I (-1)) hx hb dX11_placeOf_46 (by decide) ?_
        refine lv_goto (tgt := 51) hx hb dX11_placeOf_47 (by decide) ?_
        exact th_iret hx hb hr hlocks hH hS (z := (-1)) (show rng (-1) from ⟨by decide, by decide⟩) ⟨rfl, by omega⟩ dX11_placeOf_51
    · replace c_16 := mt (I_eq (a := z_3) (b := (-1)) rz_3 (show rng (-1) from ⟨by decide, by decide⟩)).mpr c_16
      have hk9 := hy0 v4q12 (by omega) (by omega)
      refine lv_iinc (v := I (v3q12 + 1)) (lv' := [(3, .int (I (v3q12 + 1))), (0, .ref b), (1, .int (I i)), (2, .int (I z_3)), (4, .int (I v4q12))]) hx hb dX11_placeOf_24 hl (k := 3) rfl (I_add _ _) (by decide) rfl (fun ls hl => ?_)
      refine lv_iload hx hb dX11_placeOf_27 (lv_at hl 4 rfl) ?_
      refine lv_aload_n hx hb dX11_placeOf_29 rfl (lv_at hl 1 rfl) ?_
      refine lv_iload hx hb dX11_placeOf_30 (lv_at hl 4 rfl) ?_
      refine th_calli (va_runS (As := [.ref b, .int (I v4q12)]) (rest := [.int (I v4q12)]) ⟨hx, hb, hml, hown, hts⟩ (w_size l G y b0 σ E hO b bn bf h_b v4q12 (show rng v4q12 from rv4q12) (by omega) (by omega) (by omega)) (va_cwS 2 hts gX11_placeOf_X11_size rfl rfl rfl (by decide +kernel) ⟨Nat.le_of_ble_eq_true rfl, Nat.le_of_ble_eq_true rfl⟩) (th_PS hK hH) rfl rfl hl.1 rfl (lv_room (Nat.le_of_ble_eq_true rfl)) dX11_placeOf_32 ⟨Nat.le_of_ble_eq_true rfl, Nat.le_of_ble_eq_true rfl⟩) hS (fun z_20 σ_s_19 H locs rz_20 hw_18 hH hS => ?_)
      obtain ⟨e9, hw_18⟩ := hw_18
      replace e9 := e9.symm
      subst e9
      have hw_18 : z_20 = mS bf v4q12 := hw_18
      refine lv_iadd hx hb dX11_placeOf_35 ?_
      refine th_addo (fun z_21 rz_21 hz_21 => ?_)
      refine lv_istore (lv' := [(4, .int (I z_21)), (3, .int (I (v3q12 + 1))), (0, .ref b), (1, .int (I i)), (2, .int (I z_3))]) hx hb dX11_placeOf_36 hl (by decide) rfl (fun ls hl => ?_)
      refine lv_goto (tgt := 13) hx hb dX11_placeOf_38 (by decide) ?_
      exact ihJ_13 (v3q12 + 1, z_21) σ _ _ _ (by first | (dsimp only; omega) | omega) ⟨rfl, hH, hS, lv_sub hl [2, 3, 4, 1, 0] rfl, ⟨by first | (dsimp only; omega) | omega, by first | (dsimp only; omega) | omega⟩, rz_21, by first | (dsimp only; omega) | omega, by first | (dsimp only; omega) | omega, by first | (dsimp only; omega) | omega, by first | (dsimp only; omega) | omega, by first | (dsimp only; omega) | omega⟩

set_option maxHeartbeats 4000000 in
set_option maxRecDepth 100000 in
theorem w_areLike (n : Nat) : ∀ (l : Launch) (G : va_G) (y : Nat → ClassId) (b0 : Nat) (σ : th_M) (E : th_E) (hO : ok y E σ) (b : Nat) (bn : Nat) (bf : Nat → Int32) (h_b : σ b = some (.inl (y 0, bn, .inl bf))) (i : Int) (ri : rng i) (l_i : 0 ≤ i) (u_i : i ≤ 4000) (u : Nat) (un : Nat) (uf : Nat → Int32) (h_u : σ u = some (.inl (y 0, un, .inl uf))) (j : Int) (rj : rng j) (l_j : 0 ≤ j) (u_j : j ≤ 4000) (hy0 : wf bf i (i + mS bf i)) (hy1 : 1 ≤ mS bf i) (hy2 : 4 * (i + mS bf i) ≤ bn) (hy3 : bn ≤ 16000) (hy4 : wf uf j (j + mS uf j)) (hy5 : 1 ≤ mS uf j) (hy6 : 4 * (j + mS uf j) ≤ un) (hy7 : un ≤ 16000) (hn : (mS uf j).toNat < n), Met l yX11_areLike wsX11_areLike ({ frames := 2*n+8, cells := 0, slots := 0, locals := (60*n+200) }) (th_P G y b0 σ [.ref b, .int (I i), .ref u, .int (I j)]) (th_Qi G b0 (fun r σ1 => σ1 = σ ∧ (0 ≤ r ∧ r ≤ 1) ∧ (True))) 0 0 (th_A b0) := by
  induction n with
  | zero => intro l G y b0 σ E hO b bn bf h_b i ri l_i u_i u un uf h_u j rj l_j u_j hy0 hy1 hy2 hy3 hy4 hy5 hy6 hy7 hn; exact absurd hn (Nat.not_lt_zero _)
  | succ n ih =>
    intro l G y b0 σ E hO b bn bf h_b i ri l_i u_i u un uf h_u j rj l_j u_j hy0 hy1 hy2 hy3 hy4 hy5 hy6 hy7 hn
    refine Met.ofW (cc := cX11_areLike) (maxL := 8) (ret := (some .boolean)) (by decide) rfl ?_
    intro p e s m args below meth c s₁ B hml hv
    obtain ⟨rfl, hH, hK⟩ := hv
    have hx := B.exec
    have hb := B.bytes
    have hr := B.returns
    have hts := atoms_spec (ws := wsX11_areLike) B.pre
    have hown : s.vm.findClass RX11 = some m.cls := findClass_of_methodNamed B.named
    have hlocks := B.notSynchronized
    have h00 : b0 ≤ s.heap.size := hH.1
    have hS : va_S (th_A b0) s.heap s.heap [] := va_S.rf
    have hl := lv_entry ([.ref b, .int (I i), .ref u, .int (I j)]) (n := 8) (Nat.le_of_ble_eq_true rfl)
    rw [lg_entry_eq]
    generalize (lg_sl ([.ref b, .int (I i), .ref u, .int (I j)]) ++ List.replicate (8 - (lg_sl ([.ref b, .int (I i), .ref u, .int (I j)])).length) Slot.unset).toArray = ls at hl ⊢
    have hl : lv_has ls 8 [(0, .ref b), (1, .int (I i)), (2, .ref u), (3, .int (I j))] := hl
    refine lv_aload_n hx hb dX11_areLike_0 rfl (lv_at hl 0 rfl) ?_
    refine lv_iload_n hx hb dX11_areLike_1 rfl (lv_at hl 1 rfl) ?_
    refine th_calli (va_runS (As := [.ref b, .int (I i)]) (rest := []) ⟨hx, hb, hml, hown, hts⟩ (w_kind l G y b0 σ E hO b bn bf h_b i (show rng i from ri) (by omega) (by omega) (by omega)) (va_cwS 2 hts gX11_areLike_X11_kind rfl rfl rfl (by decide +kernel) ⟨(by first | (simp only [headSpec]; omega) | omega | (dsimp only; omega)), (by first | (simp only [headSpec]; omega) | omega | (dsimp only; omega))⟩) (th_PS hK hH) rfl rfl hl.1 rfl (lv_room (Nat.le_of_ble_eq_true rfl)) dX11_areLike_2 ⟨(by first | (simp only [headSpec]; omega) | omega | (dsimp only; omega)), (by first | (simp only [headSpec]; omega) | omega | (dsimp only; omega))⟩) hS (fun z_3 σ_s_2 H locs rz_3 hw_1 hH hS => ?_)
    obtain ⟨e9, hw_1⟩ := hw_1
    replace e9 := e9.symm
    subst e9
    have hw_1 : z_3 = mK bf i := hw_1
    refine lv_aload_n hx hb dX11_areLike_5 rfl (lv_at hl 2 rfl) ?_
    refine lv_iload_n hx hb dX11_areLike_6 rfl (lv_at hl 3 rfl) ?_
    refine th_calli (va_runS (As := [.ref u, .int (I j)]) (rest := [.int (I z_3)]) ⟨hx, hb, hml, hown, hts⟩ (w_kind l G y b0 σ E hO u un uf h_u j (show rng j from rj) (by omega) (by omega) (by omega)) (va_cwS 2 hts gX11_areLike_X11_kind rfl rfl rfl (by decide +kernel) ⟨(by first | (simp only [headSpec]; omega) | omega | (dsimp only; omega)), (by first | (simp only [headSpec]; omega) | omega | (dsimp only; omega))⟩) (th_PS hK hH) rfl rfl hl.1 rfl (lv_room (Nat.le_of_ble_eq_true rfl)) dX11_areLike_7 ⟨(by first | (simp only [headSpec]; omega) | omega | (dsimp only; omega)), (by first | (simp only [headSpec]; omega) | omega | (dsimp only; omega))⟩) hS (fun z_6 σ_s_5 H locs rz_6 hw_4 hH hS => ?_)
    obtain ⟨e9, hw_4⟩ := hw_4
    replace e9 := e9.symm
    subst e9
    have hw_4 : z_6 = mK uf j := hw_4
    refine lv_icmp_ne (tgt := 26) hx hb dX11_areLike_10 (by decide) (fun c_7 => ?_) (fun c_7 => ?_)
    · replace c_7 := mt (I_eq (a := z_3) (b := z_6) rz_3 rz_6).mpr c_7
      refine lv_iconst (v := I 0) hx hb dX11_areLike_26 (by decide) ?_
      exact th_zret hx hb hr hlocks hH hS (z := 0) (by omega) ⟨rfl, ⟨by omega, by omega⟩, trivial⟩ dX11_areLike_27
    · replace c_7 := (I_eq (a := z_3) (b := z_6) rz_3 rz_6).mp c_7
      refine lv_aload_n hx hb dX11_areLike_13 rfl (lv_at hl 0 rfl) ?_
      refine lv_iload_n hx hb dX11_areLike_14 rfl (lv_at hl 1 rfl) ?_
      refine th_calli (va_runS (As := [.ref b, .int (I i)]) (rest := []) ⟨hx, hb, hml, hown, hts⟩ (w_size l G y b0 σ E hO b bn bf h_b i (show rng i from ri) (by omega) (by omega) (by omega)) (va_cwS 2 hts gX11_areLike_X11_size rfl rfl rfl (by decide +kernel) ⟨(by first | (simp only [headSpec]; omega) | omega | (dsimp only; omega)), (by first | (simp only [headSpec]; omega) | omega | (dsimp only; omega))⟩) (th_PS hK hH) rfl rfl hl.1 rfl (lv_room (Nat.le_of_ble_eq_true rfl)) dX11_areLike_15 ⟨(by first | (simp only [headSpec]; omega) | omega | (dsimp only; omega)), (by first | (simp only [headSpec]; omega) | omega | (dsimp only; omega))⟩) hS (fun z_10 σ_s_9 H locs rz_10 hw_8 hH hS => ?_)
      obtain ⟨e9, hw_8⟩ := hw_8
      replace e9 := e9.symm
      subst e9
      have hw_8 : z_10 = mS bf i := hw_8
      refine lv_aload_n hx hb dX11_areLike_18 rfl (lv_at hl 2 rfl) ?_
      refine lv_iload_n hx hb dX11_areLike_19 rfl (lv_at hl 3 rfl) ?_
      refine th_calli (va_runS (As := [.ref u, .int (I j)]) (rest := [.int (I z_10)]) ⟨hx, hb, hml, hown, hts⟩ (w_size l G y b0 σ E hO u un uf h_u j (show rng j from rj) (by omega) (by omega) (by omega)) (va_cwS 2 hts gX11_areLike_X11_size rfl rfl rfl (by decide +kernel) ⟨(by first | (simp only [headSpec]; omega) | omega | (dsimp only; omega)), (by first | (simp only [headSpec]; omega) | omega | (dsimp only; omega))⟩) (th_PS hK hH) rfl rfl hl.1 rfl (lv_room (Nat.le_of_ble_eq_true rfl)) dX11_areLike_20 ⟨(by first | (simp only [headSpec]; omega) | omega | (dsimp only; omega)), (by first | (simp only [headSpec]; omega) | omega | (dsimp only; omega))⟩) hS (fun z_13 σ_s_12 H locs rz_13 hw_11 hH hS => ?_)
      obtain ⟨e9, hw_11⟩ := hw_11
      replace e9 := e9.symm
      subst e9
      have hw_11 : z_13 = mS uf j := hw_11
      refine lv_icmp_eq (tgt := 28) hx hb dX11_areLike_23 (by decide) (fun c_14 => ?_) (fun c_14 => ?_)
      · replace c_14 := (I_eq (a := z_10) (b := z_13) rz_10 rz_13).mp c_14
        refine lv_aload_n hx hb dX11_areLike_28 rfl (lv_at hl 0 rfl) ?_
        refine lv_iload_n hx hb dX11_areLike_29 rfl (lv_at hl 1 rfl) ?_
        refine th_calli (va_runS (As := [.ref b, .int (I i)]) (rest := []) ⟨hx, hb, hml, hown, hts⟩ (w_holds l G y b0 σ E hO b bn bf h_b i (show rng i from ri) (by omega) (by omega) (by omega)) (va_cwS 2 hts gX11_areLike_X11_holds rfl rfl rfl (by decide +kernel) ⟨(by first | (simp only [headSpec]; omega) | omega | (dsimp only; omega)), (by first | (simp only [headSpec]; omega) | omega | (dsimp only; omega))⟩) (th_PS hK hH) rfl rfl hl.1 rfl (lv_room (Nat.le_of_ble_eq_true rfl)) dX11_areLike_30 ⟨(by first | (simp only [headSpec]; omega) | omega | (dsimp only; omega)), (by first | (simp only [headSpec]; omega) | omega | (dsimp only; omega))⟩) hS (fun z_17 σ_s_16 H locs rz_17 hw_15 hH hS => ?_)
        obtain ⟨e9, bhw_15, hw_15⟩ := hw_15
        replace e9 := e9.symm
        subst e9
        have hw_15 : (z_17 = 1 ∧ 2 ≤ mK bf i) ∨ (z_17 = 0 ∧ ¬ 2 ≤ mK bf i) := hw_15
        refine lv_if_ne (tgt := 59) hx hb dX11_areLike_33 (by decide) (fun c_18 => ?_) (fun c_18 => ?_)
        · replace c_18 := mt (I_eq (a := z_17) (b := 0) rz_17 (show rng 0 from ⟨by decide, by decide⟩)).mpr c_18
          refine lv_aload_n hx hb dX11_areLike_59 rfl (lv_at hl 0 rfl) ?_
          refine lv_iload_n hx hb dX11_areLike_60 rfl (lv_at hl 1 rfl) ?_
          refine th_calli (va_runS (As := [.ref b, .int (I i)]) (rest := []) ⟨hx, hb, hml, hown, hts⟩ (w_many l G y b0 σ E hO b bn bf h_b i (show rng i from ri) (by omega) (by omega) (by first | exact hy0 | exact (hy0).sub (by omega) (by omega) | exact hy4 | exact (hy4).sub (by omega) (by omega)) (by omega) (by omega) (by omega)) (va_cwS 2 hts gX11_areLike_X11_many rfl rfl rfl (by decide +kernel) ⟨(by first | (simp only [headSpec]; omega) | omega | (dsimp only; omega)), (by first | (simp only [headSpec]; omega) | omega | (dsimp only; omega))⟩) (th_PS hK hH) rfl rfl hl.1 rfl (lv_room (Nat.le_of_ble_eq_true rfl)) dX11_areLike_61 ⟨(by first | (simp only [headSpec]; omega) | omega | (dsimp only; omega)), (by first | (simp only [headSpec]; omega) | omega | (dsimp only; omega))⟩) hS (fun z_21 σ_s_20 H locs rz_21 hw_19 hH hS => ?_)
          obtain ⟨e9, hw_19⟩ := hw_19
          replace e9 := e9.symm
          subst e9
          have hw_19 : chn bf (i + 1) z_21 (i + mS bf i) ∧ 0 ≤ z_21 ∧ z_21 < mS bf i := hw_19
          refine lv_aload_n hx hb dX11_areLike_64 rfl (lv_at hl 2 rfl) ?_
          refine lv_iload_n hx hb dX11_areLike_65 rfl (lv_at hl 3 rfl) ?_
          refine th_calli (va_runS (As := [.ref u, .int (I j)]) (rest := [.int (I z_21)]) ⟨hx, hb, hml, hown, hts⟩ (w_many l G y b0 σ E hO u un uf h_u j (show rng j from rj) (by omega) (by omega) (by first | exact hy0 | exact (hy0).sub (by omega) (by omega) | exact hy4 | exact (hy4).sub (by omega) (by omega)) (by omega) (by omega) (by omega)) (va_cwS 2 hts gX11_areLike_X11_many rfl rfl rfl (by decide +kernel) ⟨(by first | (simp only [headSpec]; omega) | omega | (dsimp only; omega)), (by first | (simp only [headSpec]; omega) | omega | (dsimp only; omega))⟩) (th_PS hK hH) rfl rfl hl.1 rfl (lv_room (Nat.le_of_ble_eq_true rfl)) dX11_areLike_66 ⟨(by first | (simp only [headSpec]; omega) | omega | (dsimp only; omega)), (by first | (simp only [headSpec]; omega) | omega | (dsimp only; omega))⟩) hS (fun z_24 σ_s_23 H locs rz_24 hw_22 hH hS => ?_)
          obtain ⟨e9, hw_22⟩ := hw_22
          replace e9 := e9.symm
          subst e9
          have hw_22 : chn uf (j + 1) z_24 (j + mS uf j) ∧ 0 ≤ z_24 ∧ z_24 < mS uf j := hw_22
          refine lv_icmp_eq (tgt := 74) hx hb dX11_areLike_69 (by decide) (fun c_25 => ?_) (fun c_25 => ?_)
          · replace c_25 := (I_eq (a := z_21) (b := z_24) rz_21 rz_24).mp c_25
            refine lv_iconst (v := I 1) hx hb dX11_areLike_74 (by decide) ?_
            refine lv_istore (lv' := [(4, .int (I 1)), (0, .ref b), (1, .int (I i)), (2, .ref u), (3, .int (I j))]) hx hb dX11_areLike_75 hl (by decide) rfl (fun ls hl => ?_)
            refine lv_iconst (v := I 0) hx hb dX11_areLike_77 (by decide) ?_
            refine lv_istore (lv' := [(5, .int (I 0)), (4, .int (I 1)), (0, .ref b), (1, .int (I i)), (2, .ref u), (3, .int (I j))]) hx hb dX11_areLike_78 hl (by decide) rfl (fun ls hl => ?_)
            refine lv_iload_n hx hb dX11_areLike_80 rfl (lv_at hl 3 rfl) ?_
            refine lv_iconst (v := I 1) hx hb dX11_areLike_81 (by decide) ?_
            refine lv_iadd hx hb dX11_areLike_82 ?_
            refine nq_top (I_add _ _) ?_
            refine lv_istore (lv' := [(6, .int (I (i + 1))), (5, .int (I 0)), (4, .int (I 1)), (0, .ref b), (1, .int (I i)), (2, .ref u), (3, .int (I j))]) hx hb dX11_areLike_83 hl (by decide) rfl (fun ls hl => ?_)
            refine th_loop (α := Int × Int × Int) (pc := 85) (fun x9 => (i + mS bf i - x9.2.2).toNat) (fun x9 σ9 H9 l9 ls9 => σ9 = σ ∧ th_H G b0 σ9 H9 ∧ va_S (th_A b0) s.heap H9 l9 ∧ lv_has ls9 8 [(0, .ref b), (1, .int (I i)), (2, .ref u), (3, .int (I j)), (4, .int (I x9.1)), (5, .int (I x9.2.1)), (6, .int (I x9.2.2))] ∧ rng x9.1 ∧ rng x9.2.1 ∧ rng x9.2.2 ∧ (i + 1 ≤ x9.2.2) ∧ (x9.2.2 ≤ i + mS bf i) ∧ (0 ≤ x9.2.2) ∧ (x9.2.2 ≤ 4000) ∧ (0 ≤ x9.2.1) ∧ (x9.2.1 ≤ x9.2.2) ∧ (0 ≤ x9.1) ∧ (x9.1 ≤ 1) ∧ (chn bf (i + 1) x9.2.1 x9.2.2)) ?_ (1, 0, i + 1) σ _ _ _ ⟨rfl, hH, hS, lv_sub hl [3, 4, 5, 6, 2, 1, 0] rfl, (show rng 1 from ⟨by decide, by decide⟩), (show rng 0 from ⟨by decide, by decide⟩), ⟨by first | (dsimp only; omega) | omega, by first | (dsimp only; omega) | omega⟩, by first | (dsimp only; omega) | omega, by first | (dsimp only; omega) | omega, by first | (dsimp only; omega) | omega, by first | (dsimp only; omega) | omega, by first | (dsimp only; omega) | omega, by first | (dsimp only; omega) | omega, by first | (dsimp only; omega) | omega, by first | (dsimp only; omega) | omega, chn.zero⟩
            intro x9 σ_J_79 H locs ls hI9 ihJ_79
            obtain ⟨v4q78, v5q78, v6q78⟩ := x9
            obtain ⟨eJ_79, hH, hS, hl, rv4q78, rv5q78, rv6q78, J_79_0, J_79_1, J_79_2, J_79_3, J_79_4, J_79_5, J_79_6, J_79_7, J_79_8⟩ := hI9
            replace eJ_79 := eJ_79.symm
            subst eJ_79
            have hl : lv_has ls 8 [(0, .ref b), (1, .int (I i)), (2, .ref u), (3, .int (I j)), (4, .int (I v4q78)), (5, .int (I v5q78)), (6, .int (I v6q78))] := hl
            have rv4q78 : rng v4q78 := rv4q78
            have rv5q78 : rng v5q78 := rv5q78
            have rv6q78 : rng v6q78 := rv6q78
            have J_79_0 : i + 1 ≤ v6q78 := J_79_0
            have J_79_1 : v6q78 ≤ i + mS bf i := J_79_1
            have J_79_2 : 0 ≤ v6q78 := J_79_2
            have J_79_3 : v6q78 ≤ 4000 := J_79_3
            have J_79_4 : 0 ≤ v5q78 := J_79_4
            have J_79_5 : v5q78 ≤ v6q78 := J_79_5
            have J_79_6 : 0 ≤ v4q78 := J_79_6
            have J_79_7 : v4q78 ≤ 1 := J_79_7
            have J_79_8 : chn bf (i + 1) v5q78 v6q78 := J_79_8
            refine lv_iload hx hb dX11_areLike_85 (lv_at hl 6 rfl) ?_
            refine lv_iload_n hx hb dX11_areLike_87 rfl (lv_at hl 1 rfl) ?_
            refine lv_aload_n hx hb dX11_areLike_88 rfl (lv_at hl 0 rfl) ?_
            refine lv_iload_n hx hb dX11_areLike_89 rfl (lv_at hl 1 rfl) ?_
            refine th_calli (va_runS (As := [.ref b, .int (I i)]) (rest := [.int (I i), .int (I v6q78)]) ⟨hx, hb, hml, hown, hts⟩ (w_size l G y b0 σ E hO b bn bf h_b i (show rng i from ri) (by omega) (by omega) (by omega)) (va_cwS 2 hts gX11_areLike_X11_size rfl rfl rfl (by decide +kernel) ⟨(by first | (simp only [headSpec]; omega) | omega | (dsimp only; omega)), (by first | (simp only [headSpec]; omega) | omega | (dsimp only; omega))⟩) (th_PS hK hH) rfl rfl hl.1 rfl (lv_room (Nat.le_of_ble_eq_true rfl)) dX11_areLike_90 ⟨(by first | (simp only [headSpec]; omega) | omega | (dsimp only; omega)), (by first | (simp only [headSpec]; omega) | omega | (dsimp only; omega))⟩) hS (fun z_82 σ_s_81 H locs rz_82 hw_80 hH hS => ?_)
            obtain ⟨e9, hw_80⟩ := hw_80
            replace e9 := e9.symm
            subst e9
            have hw_80 : z_82 = mS bf i := hw_80
            refine lv_iadd hx hb dX11_areLike_93 ?_
            refine th_addo (fun z_83 rz_83 hz_83 => ?_)
            refine lv_icmp_ge (tgt := 178) hx hb dX11_areLike_94 (by decide) (fun c_84 => ?_) (fun c_84 => ?_)
            · replace c_84 := (I_le (a := z_83) (b := v6q78) rz_83 rv6q78).mp c_84
              refine lv_iload hx hb dX11_areLike_178 (lv_at hl 4 rfl) ?_
              exact th_zret hx hb hr hlocks hH hS (z := v4q78) (by omega) ⟨rfl, ⟨by omega, by omega⟩, trivial⟩ dX11_areLike_180
            · replace c_84 := mt (I_le (a := z_83) (b := v6q78) rz_83 rv6q78).mpr c_84
              refine lv_iload hx hb dX11_areLike_97 (lv_at hl 4 rfl) ?_
              refine lv_if_eq (tgt := 178) hx hb dX11_areLike_99 (by decide) (fun c_85 => ?_) (fun c_85 => ?_)
              · replace c_85 := (I_eq (a := v4q78) (b := 0) rv4q78 (show rng 0 from ⟨by decide, by decide⟩)).mp c_85
                refine lv_iload hx hb dX11_areLike_178 (lv_at hl 4 rfl) ?_
                exact th_zret hx hb hr hlocks hH hS (z := v4q78) (by omega) ⟨rfl, ⟨by omega, by omega⟩, trivial⟩ dX11_areLike_180
              · replace c_85 := mt (I_eq (a := v4q78) (b := 0) rv4q78 (show rng 0 from ⟨by decide, by decide⟩)).mpr c_85
                have hk9 := hy0 v6q78 (by omega) (by omega)
                refine lv_aload_n hx hb dX11_areLike_102 rfl (lv_at hl 0 rfl) ?_
                refine lv_iload_n hx hb dX11_areLike_103 rfl (lv_at hl 1 rfl) ?_
                refine th_calli (va_runS (As := [.ref b, .int (I i)]) (rest := []) ⟨hx, hb, hml, hown, hts⟩ (w_kind l G y b0 σ E hO b bn bf h_b i (show rng i from ri) (by omega) (by omega) (by omega)) (va_cwS 2 hts gX11_areLike_X11_kind rfl rfl rfl (by decide +kernel) ⟨(by first | (simp only [headSpec]; omega) | omega | (dsimp only; omega)), (by first | (simp only [headSpec]; omega) | omega | (dsimp only; omega))⟩) (th_PS hK hH) rfl rfl hl.1 rfl (lv_room (Nat.le_of_ble_eq_true rfl)) dX11_areLike_104 ⟨(by first | (simp only [headSpec]; omega) | omega | (dsimp only; omega)), (by first | (simp only [headSpec]; omega) | omega | (dsimp only; omega))⟩) hS (fun z_88 σ_s_87 H locs rz_88 hw_86 hH hS => ?_)
                obtain ⟨e9, hw_86⟩ := hw_86
                replace e9 := e9.symm
                subst e9
                have hw_86 : z_88 = mK bf i := hw_86
                refine lv_iconst (v := I 3) hx hb dX11_areLike_107 (by decide) ?_
                refine lv_icmp_ne (tgt := 127) hx hb dX11_areLike_108 (by decide) (fun c_89 => ?_) (fun c_89 => ?_)
                · replace c_89 := mt (I_eq (a := z_88) (b := 3) rz_88 (show rng 3 from ⟨by decide, by decide⟩)).mpr c_89
                  refine lv_aload_n hx hb dX11_areLike_127 rfl (lv_at hl 2 rfl) ?_
                  refine lv_iload_n hx hb dX11_areLike_128 rfl (lv_at hl 3 rfl) ?_
                  refine lv_iload hx hb dX11_areLike_129 (lv_at hl 5 rfl) ?_
                  refine th_calli (va_runS (As := [.ref u, .int (I j), .int (I v5q78)]) (rest := []) ⟨hx, hb, hml, hown, hts⟩ (w_nth l G y b0 σ E hO u un uf h_u j (show rng j from rj) (by omega) (by omega) v5q78 (show rng v5q78 from rv5q78) (by first | exact hy0 | exact (hy0).sub (by omega) (by omega) | exact hy4 | exact (hy4).sub (by omega) (by omega)) (by omega) (by omega) (by omega) (jin.mk1 (by omega) hw_22.1 (by have h9 := J_79_8.ge hw_19.1 (by omega); omega))) (va_cwS 3 hts gX11_areLike_X11_nth rfl rfl rfl (by decide +kernel) ⟨(by first | (simp only [headSpec]; omega) | omega | (dsimp only; omega)), (by first | (simp only [headSpec]; omega) | omega | (dsimp only; omega))⟩) (th_PS hK hH) rfl rfl hl.1 rfl (lv_room (Nat.le_of_ble_eq_true rfl)) dX11_areLike_131 ⟨(by first | (simp only [headSpec]; omega) | omega | (dsimp only; omega)), (by first | (simp only [headSpec]; omega) | omega | (dsimp only; omega))⟩) hS (fun z_92 σ_s_91 H locs rz_92 hw_90 hH hS => ?_)
                  obtain ⟨e9, hw_90⟩ := hw_90
                  replace e9 := e9.symm
                  subst e9
                  have hw_90 : chn uf (j + 1) v5q78 z_92 ∧ kid uf j z_92 := hw_90
                  have hn9 := hw_90.2
                  have hn8 := hn9.1
                  have hn7 := hn9.2.1
                  refine lv_istore (lv' := [(7, .int (I z_92)), (0, .ref b), (1, .int (I i)), (2, .ref u), (3, .int (I j)), (4, .int (I v4q78)), (5, .int (I v5q78)), (6, .int (I v6q78))]) hx hb dX11_areLike_134 hl (by decide) rfl (fun ls hl => ?_)
                  refine lv_iload hx hb dX11_areLike_136 (lv_at hl 0 rfl) ?_
                  refine lv_iconst (v := I (-1)) hx hb dX11_areLike_138 (by decide) ?_
                  refine lv_icmp_eq (tgt := 158) hx hb dX11_areLike_139 (by decide) (fun c_93 => ?_) (fun c_93 => ?_)
                  · replace c_93 := (I_eq (a := z_92) (b := (-1)) rz_92 (show rng (-1) from ⟨by decide, by decide⟩)).mp c_93
                    refine lv_iconst (v := I 0) hx hb dX11_areLike_158 (by decide) ?_
                    refine lv_istore (lv' := [(4, .int (I 0)), (7, .int (I z_92)), (0, .ref b), (1, .int (I i)), (2, .ref u), (3, .int (I j)), (5, .int (I v5q78)), (6, .int (I v6q78))]) hx hb dX11_areLike_159 hl (by decide) rfl (fun ls hl => ?_)
                    refine lv_iinc (v := I (v5q78 + 1)) (lv' := [(5, .int (I (v5q78 + 1))), (4, .int (I 0)), (7, .int (I z_92)), (0, .ref b), (1, .int (I i)), (2, .ref u), (3, .int (I j)), (6, .int (I v6q78))]) hx hb dX11_areLike_161 hl (k := 6) rfl (I_add _ _) (by decide) rfl (fun ls hl => ?_)
                    refine lv_iload hx hb dX11_areLike_164 (lv_at hl 7 rfl) ?_
                    refine lv_aload_n hx hb dX11_areLike_166 rfl (lv_at hl 3 rfl) ?_
                    refine lv_iload hx hb dX11_areLike_167 (lv_at hl 7 rfl) ?_
                    refine th_calli (va_runS (As := [.ref b, .int (I v6q78)]) (rest := [.int (I v6q78)]) ⟨hx, hb, hml, hown, hts⟩ (w_size l G y b0 σ E hO b bn bf h_b v6q78 (show rng v6q78 from rv6q78) (by omega) (by omega) (by omega)) (va_cwS 2 hts gX11_areLike_X11_size rfl rfl rfl (by decide +kernel) ⟨(by first | (simp only [headSpec]; omega) | omega | (dsimp only; omega)), (by first | (simp only [headSpec]; omega) | omega | (dsimp only; omega))⟩) (th_PS hK hH) rfl rfl hl.1 rfl (lv_room (Nat.le_of_ble_eq_true rfl)) dX11_areLike_169 ⟨(by first | (simp only [headSpec]; omega) | omega | (dsimp only; omega)), (by first | (simp only [headSpec]; omega) | omega | (dsimp only; omega))⟩) hS (fun z_96 σ_s_95 H locs rz_96 hw_94 hH hS => ?_)
                    obtain ⟨e9, hw_94⟩ := hw_94
                    replace e9 := e9.symm
                    subst e9
                    have hw_94 : z_96 = mS bf v6q78 := hw_94
                    refine lv_iadd hx hb dX11_areLike_172 ?_
                    refine th_addo (fun z_97 rz_97 hz_97 => ?_)
                    refine lv_istore (lv' := [(6, .int (I z_97)), (5, .int (I (v5q78 + 1))), (4, .int (I 0)), (7, .int (I z_92)), (0, .ref b), (1, .int (I i)), (2, .ref u), (3, .int (I j))]) hx hb dX11_areLike_173 hl (by decide) rfl (fun ls hl => ?_)
                    refine lv_goto (tgt := 85) hx hb dX11_areLike_175 (by decide) ?_
                    replace hl : lv_has ls 8 [(6, .int (I z_97)), (5, .int (I (v5q78 + 1))), (4, .int (I 0)), (0, .ref b), (1, .int (I i)), (2, .ref u), (3, .int (I j))] := lv_sub hl [0, 1, 2, 4, 5, 6, 7] rfl
                    exact ihJ_79 (0, v5q78 + 1, z_97) σ _ _ _ (by first | (dsimp only; omega) | omega) ⟨rfl, hH, hS, lv_sub hl [3, 4, 5, 6, 2, 1, 0] rfl, (show rng 0 from ⟨by decide, by decide⟩), ⟨by first | (dsimp only; omega) | omega, by first | (dsimp only; omega) | omega⟩, rz_97, by first | (dsimp only; omega) | omega, by first | (dsimp only; omega) | omega, by first | (dsimp only; omega) | omega, by first | (dsimp only; omega) | omega, by first | (dsimp only; omega) | omega, by first | (dsimp only; omega) | omega, by first | (dsimp only; omega) | omega, by first | (dsimp only; omega) | omega, (by rw [show z_97 = v6q78 + mS bf v6q78 by omega]; exact J_79_8.step hk9.1)⟩
                  · replace c_93 := mt (I_eq (a := z_92) (b := (-1)) rz_92 (show rng (-1) from ⟨by decide, by decide⟩)).mpr c_93
                    have hk8 := hy4 z_92 (by omega) (by omega)
                    refine lv_aload_n hx hb dX11_areLike_142 rfl (lv_at hl 1 rfl) ?_
                    refine lv_iload hx hb dX11_areLike_143 (lv_at hl 7 rfl) ?_
                    refine lv_aload_n hx hb dX11_areLike_145 rfl (lv_at hl 3 rfl) ?_
                    refine lv_iload hx hb dX11_areLike_146 (lv_at hl 0 rfl) ?_
                    refine th_calli (va_runS (As := [.ref b, .int (I v6q78), .ref u, .int (I z_92)]) (rest := []) ⟨hx, hb, hml, hown, hts⟩ (ih l G y b0 σ E hO b bn bf h_b v6q78 (show rng v6q78 from rv6q78) (by omega) (by omega) u un uf h_u z_92 (show rng z_92 from rz_92) (by omega) (by omega) (by first | exact hy0 | exact (hy0).sub (by omega) (by omega) | exact hy4 | exact (hy4).sub (by omega) (by omega)) (by omega) (by omega) (by omega) (by first | exact hy0 | exact (hy0).sub (by omega) (by omega) | exact hy4 | exact (hy4).sub (by omega) (by omega)) (by omega) (by omega) (by omega) (by omega)) (va_cwS 4 hts gX11_areLike_X11_areLike rfl rfl rfl (by decide +kernel) ⟨(by first | (simp only [headSpec]; omega) | omega | (dsimp only; omega)), (by first | (simp only [headSpec]; omega) | omega | (dsimp only; omega))⟩) (th_PS hK hH) rfl rfl hl.1 rfl (lv_room (Nat.le_of_ble_eq_true rfl)) dX11_areLike_148 ⟨(by first | (simp only [headSpec]; omega) | omega | (dsimp only; omega)), (by first | (simp only [headSpec]; omega) | omega | (dsimp only; omega))⟩) hS (fun z_100 σ_s_99 H locs rz_100 hw_98 hH hS => ?_)
                    obtain ⟨e9, bhw_98, hw_98⟩ := hw_98
                    replace e9 := e9.symm
                    subst e9
                    refine lv_if_eq (tgt := 158) hx hb dX11_areLike_151 (by decide) (fun c_101 => ?_) (fun c_101 => ?_)
                    · replace c_101 := (I_eq (a := z_100) (b := 0) rz_100 (show rng 0 from ⟨by decide, by decide⟩)).mp c_101
                      refine lv_iconst (v := I 0) hx hb dX11_areLike_158 (by decide) ?_
                      refine lv_istore (lv' := [(4, .int (I 0)), (7, .int (I z_92)), (0, .ref b), (1, .int (I i)), (2, .ref u), (3, .int (I j)), (5, .int (I v5q78)), (6, .int (I v6q78))]) hx hb dX11_areLike_159 hl (by decide) rfl (fun ls hl => ?_)
                      refine lv_iinc (v := I (v5q78 + 1)) (lv' := [(5, .int (I (v5q78 + 1))), (4, .int (I 0)), (7, .int (I z_92)), (0, .ref b), (1, .int (I i)), (2, .ref u), (3, .int (I j)), (6, .int (I v6q78))]) hx hb dX11_areLike_161 hl (k := 6) rfl (I_add _ _) (by decide) rfl (fun ls hl => ?_)
                      refine lv_iload hx hb dX11_areLike_164 (lv_at hl 7 rfl) ?_
                      refine lv_aload_n hx hb dX11_areLike_166 rfl (lv_at hl 3 rfl) ?_
                      refine lv_iload hx hb dX11_areLike_167 (lv_at hl 7 rfl) ?_
                      refine th_calli (va_runS (As := [.ref b, .int (I v6q78)]) (rest := [.int (I v6q78)]) ⟨hx, hb, hml, hown, hts⟩ (w_size l G y b0 σ E hO b bn bf h_b v6q78 (show rng v6q78 from rv6q78) (by omega) (by omega) (by omega)) (va_cwS 2 hts gX11_areLike_X11_size rfl rfl rfl (by decide +kernel) ⟨(by first | (simp only [headSpec]; omega) | omega | (dsimp only; omega)), (by first | (simp only [headSpec]; omega) | omega | (dsimp only; omega))⟩) (th_PS hK hH) rfl rfl hl.1 rfl (lv_room (Nat.le_of_ble_eq_true rfl)) dX11_areLike_169 ⟨(by first | (simp only [headSpec]; omega) | omega | (dsimp only; omega)), (by first | (simp only [headSpec]; omega) | omega | (dsimp only; omega))⟩) hS (fun z_104 σ_s_103 H locs rz_104 hw_102 hH hS => ?_)
                      obtain ⟨e9, hw_102⟩ := hw_102
                      replace e9 := e9.symm
                      subst e9
                      have hw_102 : z_104 = mS bf v6q78 := hw_102
                      refine lv_iadd hx hb dX11_areLike_172 ?_
                      refine th_addo (fun z_105 rz_105 hz_105 => ?_)
                      refine lv_istore (lv' := [(6, .int (I z_105)), (5, .int (I (v5q78 + 1))), (4, .int (I 0)), (7, .int (I z_92)), (0, .ref b), (1, .int (I i)), (2, .ref u), (3, .int (I j))]) hx hb dX11_areLike_173 hl (by decide) rfl (fun ls hl => ?_)
                      refine lv_goto (tgt := 85) hx hb dX11_areLike_175 (by decide) ?_
                      replace hl : lv_has ls 8 [(6, .int (I z_105)), (5, .int (I (v5q78 + 1))), (4, .int (I 0)), (0, .ref b), (1, .int (I i)), (2, .ref u), (3, .int (I j))] := lv_sub hl [0, 1, 2, 4, 5, 6, 7] rfl
                      exact ihJ_79 (0, v5q78 + 1, z_105) σ _ _ _ (by first | (dsimp only; omega) | omega) ⟨rfl, hH, hS, lv_sub hl [3, 4, 5, 6, 2, 1, 0] rfl, (show rng 0 from ⟨by decide, by decide⟩), ⟨by first | (dsimp only; omega) | omega, by first | (dsimp only; omega) | omega⟩, rz_105, by first | (dsimp only; omega) | omega, by first | (dsimp only; omega) | omega, by first | (dsimp only; omega) | omega, by first | (dsimp only; omega) | omega, by first | (dsimp only; omega) | omega, by first | (dsimp only; omega) | omega, by first | (dsimp only; omega) | omega, by first | (dsimp only; omega) | omega, (by rw [show z_105 = v6q78 + mS bf v6q78 by omega]; exact J_79_8.step hk9.1)⟩
                    · replace c_101 := mt (I_eq (a := z_100) (b := 0) rz_100 (show rng 0 from ⟨by decide, by decide⟩)).mpr c_101
                      refine lv_iconst (v := I 1) hx hb dX11_areLike_154 (by decide) ?_
                      refine lv_goto (tgt := 159) hx hb dX11_areLike_155 (by decide) ?_
                      refine lv_istore (lv' := [(4, .int (I 1)), (7, .int (I z_92)), (0, .ref b), (1, .int (I i)), (2, .ref u), (3, .int (I j)), (5, .int (I v5q78)), (6, .int (I v6q78))]) hx hb dX11_areLike_159 hl (by decide) rfl (fun ls hl => ?_)
                      refine lv_iinc (v := I (v5q78 + 1)) (lv' := [(5, .int (I (v5q78 + 1))), (4, .int (I 1)), (7, .int (I z_92)), (0, .ref b), (1, .int (I i)), (2, .ref u), (3, .int (I j)), (6, .int (I v6q78))]) hx hb dX11_areLike_161 hl (k := 6) rfl (I_add _ _) (by decide) rfl (fun ls hl => ?_)
                      refine lv_iload hx hb dX11_areLike_164 (lv_at hl 7 rfl) ?_
                      refine lv_aload_n hx hb dX11_areLike_166 rfl (lv_at hl 3 rfl) ?_
                      refine lv_iload hx hb dX11_areLike_167 (lv_at hl 7 rfl) ?_
                      refine th_calli (va_runS (As := [.ref b, .int (I v6q78)]) (rest := [.int (I v6q78)]) ⟨hx, hb, hml, hown, hts⟩ (w_size l G y b0 σ E hO b bn bf h_b v6q78 (show rng v6q78 from rv6q78) (by omega) (by omega) (by omega)) (va_cwS 2 hts gX11_areLike_X11_size rfl rfl rfl (by decide +kernel) ⟨(by first | (simp only [headSpec]; omega) | omega | (dsimp only; omega)), (by first | (simp only [headSpec]; omega) | omega | (dsimp only; omega))⟩) (th_PS hK hH) rfl rfl hl.1 rfl (lv_room (Nat.le_of_ble_eq_true rfl)) dX11_areLike_169 ⟨(by first | (simp only [headSpec]; omega) | omega | (dsimp only; omega)), (by first | (simp only [headSpec]; omega) | omega | (dsimp only; omega))⟩) hS (fun z_108 σ_s_107 H locs rz_108 hw_106 hH hS => ?_)
                      obtain ⟨e9, hw_106⟩ := hw_106
                      replace e9 := e9.symm
                      subst e9
                      have hw_106 : z_108 = mS bf v6q78 := hw_106
                      refine lv_iadd hx hb dX11_areLike_172 ?_
                      refine th_addo (fun z_109 rz_109 hz_109 => ?_)
                      refine lv_istore (lv' := [(6, .int (I z_109)), (5, .int (I (v5q78 + 1))), (4, .int (I 1)), (7, .int (I z_92)), (0, .ref b), (1, .int (I i)), (2, .ref u), (3, .int (I j))]) hx hb dX11_areLike_173 hl (by decide) rfl (fun ls hl => ?_)
                      refine lv_goto (tgt := 85) hx hb dX11_areLike_175 (by decide) ?_
                      replace hl : lv_has ls 8 [(6, .int (I z_109)), (5, .int (I (v5q78 + 1))), (4, .int (I 1)), (0, .ref b), (1, .int (I i)), (2, .ref u), (3, .int (I j))] := lv_sub hl [0, 1, 2, 4, 5, 6, 7] rfl
                      exact ihJ_79 (1, v5q78 + 1, z_109) σ _ _ _ (by first | (dsimp only; omega) | omega) ⟨rfl, hH, hS, lv_sub hl [3, 4, 5, 6, 2, 1, 0] rfl, (show rng 1 from ⟨by decide, by decide⟩), ⟨by first | (dsimp only; omega) | omega, by first | (dsimp only; omega) | omega⟩, rz_109, by first | (dsimp only; omega) | omega, by first | (dsimp only; omega) | omega, by first | (dsimp only; omega) | omega, by first | (dsimp only; omega) | omega, by first | (dsimp only; omega) | omega, by first | (dsimp only; omega) | omega, by first | (dsimp only; omega) | omega, by first | (dsimp only; omega) | omega, (by rw [show z_109 = v6q78 + mS bf v6q78 by omega]; exact J_79_8.step hk9.1)⟩
                · replace c_89 := (I_eq (a := z_88) (b := 3) rz_88 (show rng 3 from ⟨by decide, by decide⟩)).mp c_89
                  refine lv_aload_n hx hb dX11_areLike_111 rfl (lv_at hl 2 rfl) ?_
                  refine lv_iload_n hx hb dX11_areLike_112 rfl (lv_at hl 3 rfl) ?_
                  refine lv_aload_n hx hb dX11_areLike_113 rfl (lv_at hl 0 rfl) ?_
                  refine lv_iconst (v := I 4) hx hb dX11_areLike_114 (by decide) ?_
                  refine lv_iload hx hb dX11_areLike_115 (lv_at hl 6 rfl) ?_
                  refine lv_imul hx hb dX11_areLike_117 ?_
                  refine nq_top (I_mul _ _) ?_
                  refine lv_iconst (v := I 2) hx hb dX11_areLike_118 (by decide) ?_
                  refine lv_iadd hx hb dX11_areLike_119 ?_
                  refine nq_top (I_add _ _) ?_
                  refine w_iald hx hb hK hH h_b ⟨by omega, by omega⟩ (by omega) (by omega) dX11_areLike_120 (fun z_110 ez_110 rz_110 => ?_)
                  refine th_calli (va_runS (As := [.ref u, .int (I j), .int (I z_110)]) (rest := []) ⟨hx, hb, hml, hown, hts⟩ (w_byKey l G y b0 σ E hO u un uf h_u j (show rng j from rj) (by omega) (by omega) z_110 (show rng z_110 from rz_110) (by first | exact hy0 | exact (hy0).sub (by omega) (by omega) | exact hy4 | exact (hy4).sub (by omega) (by omega)) (by omega) (by omega) (by omega)) (va_cwS 3 hts gX11_areLike_X11_byKey rfl rfl rfl (by decide +kernel) ⟨(by first | (simp only [headSpec]; omega) | omega | (dsimp only; omega)), (by first | (simp only [headSpec]; omega) | omega | (dsimp only; omega))⟩) (th_PS hK hH) rfl rfl hl.1 rfl (lv_room (Nat.le_of_ble_eq_true rfl)) dX11_areLike_121 ⟨(by first | (simp only [headSpec]; omega) | omega | (dsimp only; omega)), (by first | (simp only [headSpec]; omega) | omega | (dsimp only; omega))⟩) hS (fun z_113 σ_s_112 H locs rz_113 hw_111 hH hS => ?_)
                  obtain ⟨e9, hw_111⟩ := hw_111
                  replace e9 := e9.symm
                  subst e9
                  have hw_111 : (z_113 = -1 ∧ nok uf (j + 1) (j + mS uf j) z_110) ∨ (kid uf j z_113 ∧ mY uf z_113 = z_110 ∧ j < z_113 ∧ z_113 < j + mS uf j) := hw_111
                  refine lv_goto (tgt := 134) hx hb dX11_areLike_124 (by decide) ?_
                  refine lv_istore (lv' := [(7, .int (I z_113)), (0, .ref b), (1, .int (I i)), (2, .ref u), (3, .int (I j)), (4, .int (I v4q78)), (5, .int (I v5q78)), (6, .int (I v6q78))]) hx hb dX11_areLike_134 hl (by decide) rfl (fun ls hl => ?_)
                  refine lv_iload hx hb dX11_areLike_136 (lv_at hl 0 rfl) ?_
                  refine lv_iconst (v := I (-1)) hx hb dX11_areLike_138 (by decide) ?_
                  refine lv_icmp_eq (tgt := 158) hx hb dX11_areLike_139 (by decide) (fun c_114 => ?_) (fun c_114 => ?_)
                  · replace c_114 := (I_eq (a := z_113) (b := (-1)) rz_113 (show rng (-1) from ⟨by decide, by decide⟩)).mp c_114
                    refine lv_iconst (v := I 0) hx hb dX11_areLike_158 (by decide) ?_
                    refine lv_istore (lv' := [(4, .int (I 0)), (7, .int (I z_113)), (0, .ref b), (1, .int (I i)), (2, .ref u), (3, .int (I j)), (5, .int (I v5q78)), (6, .int (I v6q78))]) hx hb dX11_areLike_159 hl (by decide) rfl (fun ls hl => ?_)
                    refine lv_iinc (v := I (v5q78 + 1)) (lv' := [(5, .int (I (v5q78 + 1))), (4, .int (I 0)), (7, .int (I z_113)), (0, .ref b), (1, .int (I i)), (2, .ref u), (3, .int (I j)), (6, .int (I v6q78))]) hx hb dX11_areLike_161 hl (k := 6) rfl (I_add _ _) (by decide) rfl (fun ls hl => ?_)
                    refine lv_iload hx hb dX11_areLike_164 (lv_at hl 7 rfl) ?_
                    refine lv_aload_n hx hb dX11_areLike_166 rfl (lv_at hl 3 rfl) ?_
                    refine lv_iload hx hb dX11_areLike_167 (lv_at hl 7 rfl) ?_
                    refine th_calli (va_runS (As := [.ref b, .int (I v6q78)]) (rest := [.int (I v6q78)]) ⟨hx, hb, hml, hown, hts⟩ (w_size l G y b0 σ E hO b bn bf h_b v6q78 (show rng v6q78 from rv6q78) (by omega) (by omega) (by omega)) (va_cwS 2 hts gX11_areLike_X11_size rfl rfl rfl (by decide +kernel) ⟨(by first | (simp only [headSpec]; omega) | omega | (dsimp only; omega)), (by first | (simp only [headSpec]; omega) | omega | (dsimp only; omega))⟩) (th_PS hK hH) rfl rfl hl.1 rfl (lv_room (Nat.le_of_ble_eq_true rfl)) dX11_areLike_169 ⟨(by first | (simp only [headSpec]; omega) | omega | (dsimp only; omega)), (by first | (simp only [headSpec]; omega) | omega | (dsimp only; omega))⟩) hS (fun z_117 σ_s_116 H locs rz_117 hw_115 hH hS => ?_)
                    obtain ⟨e9, hw_115⟩ := hw_115
                    replace e9 := e9.symm
                    subst e9
                    have hw_115 : z_117 = mS bf v6q78 := hw_115
                    refine lv_iadd hx hb dX11_areLike_172 ?_
                    refine th_addo (fun z_118 rz_118 hz_118 => ?_)
                    refine lv_istore (lv' := [(6, .int (I z_118)), (5, .int (I (v5q78 + 1))), (4, .int (I 0)), (7, .int (I z_113)), (0, .ref b), (1, .int (I i)), (2, .ref u), (3, .int (I j))]) hx hb dX11_areLike_173 hl (by decide) rfl (fun ls hl => ?_)
                    refine lv_goto (tgt := 85) hx hb dX11_areLike_175 (by decide) ?_
                    replace hl : lv_has ls 8 [(6, .int (I z_118)), (5, .int (I (v5q78 + 1))), (4, .int (I 0)), (0, .ref b), (1, .int (I i)), (2, .ref u), (3, .int (I j))] := lv_sub hl [0, 1, 2, 4, 5, 6, 7] rfl
                    exact ihJ_79 (0, v5q78 + 1, z_118) σ _ _ _ (by first | (dsimp only; omega) | omega) ⟨rfl, hH, hS, lv_sub hl [3, 4, 5, 6, 2, 1, 0] rfl, (show rng 0 from ⟨by decide, by decide⟩), ⟨by first | (dsimp only; omega) | omega, by first | (dsimp only; omega) | omega⟩, rz_118, by first | (dsimp only; omega) | omega, by first | (dsimp only; omega) | omega, by first | (dsimp only; omega) | omega, by first | (dsimp only; omega) | omega, by first | (dsimp only; omega) | omega, by first | (dsimp only; omega) | omega, by first | (dsimp only; omega) | omega, by first | (dsimp only; omega) | omega, (by rw [show z_118 = v6q78 + mS bf v6q78 by omega]; exact J_79_8.step hk9.1)⟩
                  · replace c_114 := mt (I_eq (a := z_113) (b := (-1)) rz_113 (show rng (-1) from ⟨by decide, by decide⟩)).mpr c_114
                    have hk8 := hy4 z_113 (by omega) (by omega)
                    refine lv_aload_n hx hb dX11_areLike_142 rfl (lv_at hl 1 rfl) ?_
                    refine lv_iload hx hb dX11_areLike_143 (lv_at hl 7 rfl) ?_
                    refine lv_aload_n hx hb dX11_areLike_145 rfl (lv_at hl 3 rfl) ?_
                    refine lv_iload hx hb dX11_areLike_146 (lv_at hl 0 rfl) ?_
                    refine th_calli (va_runS (As := [.ref b, .int (I v6q78), .ref u, .int (I z_113)]) (rest := []) ⟨hx, hb, hml, hown, hts⟩ (ih l G y b0 σ E hO b bn bf h_b v6q78 (show rng v6q78 from rv6q78) (by omega) (by omega) u un uf h_u z_113 (show rng z_113 from rz_113) (by omega) (by omega) (by first | exact hy0 | exact (hy0).sub (by omega) (by omega) | exact hy4 | exact (hy4).sub (by omega) (by omega)) (by omega) (by omega) (by omega) (by first | exact hy0 | exact (hy0).sub (by omega) (by omega) | exact hy4 | exact (hy4).sub (by omega) (by omega)) (by omega) (by omega) (by omega) (by omega)) (va_cwS 4 hts gX11_areLike_X11_areLike rfl rfl rfl (by decide +kernel) ⟨(by first | (simp only [headSpec]; omega) | omega | (dsimp only; omega)), (by first | (simp only [headSpec]; omega) | omega | (dsimp only; omega))⟩) (th_PS hK hH) rfl rfl hl.1 rfl (lv_room (Nat.le_of_ble_eq_true rfl)) dX11_areLike_148 ⟨(by first | (simp only [headSpec]; omega) | omega | (dsimp only; omega)), (by first | (simp only [headSpec]; omega) | omega | (dsimp only; omega))⟩) hS (fun z_121 σ_s_120 H locs rz_121 hw_119 hH hS => ?_)
                    obtain ⟨e9, bhw_119, hw_119⟩ := hw_119
                    replace e9 := e9.symm
                    subst e9
                    refine lv_if_eq (tgt := 158) hx hb dX11_areLike_151 (by decide) (fun c_122 => ?_) (fun c_122 => ?_)
                    · replace c_122 := (I_eq (a := z_121) (b := 0) rz_121 (show rng 0 from ⟨by decide, by decide⟩)).mp c_122
                      refine lv_iconst (v := I 0) hx hb dX11_areLike_158 (by decide) ?_
                      refine lv_istore (lv' := [(4, .int (I 0)), (7, .int (I z_113)), (0, .ref b), (1, .int (I i)), (2, .ref u), (3, .int (I j)), (5, .int (I v5q78)), (6, .int (I v6q78))]) hx hb dX11_areLike_159 hl (by decide) rfl (fun ls hl => ?_)
                      refine lv_iinc (v := I (v5q78 + 1)) (lv' := [(5, .int (I (v5q78 + 1))), (4, .int (I 0)), (7, .int (I z_113)), (0, .ref b), (1, .int (I i)), (2, .ref u), (3, .int (I j)), (6, .int (I v6q78))]) hx hb dX11_areLike_161 hl (k := 6) rfl (I_add _ _) (by decide) rfl (fun ls hl => ?_)
                      refine lv_iload hx hb dX11_areLike_164 (lv_at hl 7 rfl) ?_
                      refine lv_aload_n hx hb dX11_areLike_166 rfl (lv_at hl 3 rfl) ?_
                      refine lv_iload hx hb dX11_areLike_167 (lv_at hl 7 rfl) ?_
                      refine th_calli (va_runS (As := [.ref b, .int (I v6q78)]) (rest := [.int (I v6q78)]) ⟨hx, hb, hml, hown, hts⟩ (w_size l G y b0 σ E hO b bn bf h_b v6q78 (show rng v6q78 from rv6q78) (by omega) (by omega) (by omega)) (va_cwS 2 hts gX11_areLike_X11_size rfl rfl rfl (by decide +kernel) ⟨(by first | (simp only [headSpec]; omega) | omega | (dsimp only; omega)), (by first | (simp only [headSpec]; omega) | omega | (dsimp only; omega))⟩) (th_PS hK hH) rfl rfl hl.1 rfl (lv_room (Nat.le_of_ble_eq_true rfl)) dX11_areLike_169 ⟨(by first | (simp only [headSpec]; omega) | omega | (dsimp only; omega)), (by first | (simp only [headSpec]; omega) | omega | (dsimp only; omega))⟩) hS (fun z_125 σ_s_124 H locs rz_125 hw_123 hH hS => ?_)
                      obtain ⟨e9, hw_123⟩ := hw_123
                      replace e9 := e9.symm
                      subst e9
                      have hw_123 : z_125 = mS bf v6q78 := hw_123
                      refine lv_iadd hx hb dX11_areLike_172 ?_
                      refine th_addo (fun z_126 rz_126 hz_126 => ?_)
                      refine lv_istore (lv' := [(6, .int (I z_126)), (5, .int (I (v5q78 + 1))), (4, .int (I 0)), (7, .int (I z_113)), (0, .ref b), (1, .int (I i)), (2, .ref u), (3, .int (I j))]) hx hb dX11_areLike_173 hl (by decide) rfl (fun ls hl => ?_)
                      refine lv_goto (tgt := 85) hx hb dX11_areLike_175 (by decide) ?_
                      replace hl : lv_has ls 8 [(6, .int (I z_126)), (5, .int (I (v5q78 + 1))), (4, .int (I 0)), (0, .ref b), (1, .int (I i)), (2, .ref u), (3, .int (I j))] := lv_sub hl [0, 1, 2, 4, 5, 6, 7] rfl
                      exact ihJ_79 (0, v5q78 + 1, z_126) σ _ _ _ (by first | (dsimp only; omega) | omega) ⟨rfl, hH, hS, lv_sub hl [3, 4, 5, 6, 2, 1, 0] rfl, (show rng 0 from ⟨by decide, by decide⟩), ⟨by first | (dsimp only; omega) | omega, by first | (dsimp only; omega) | omega⟩, rz_126, by first | (dsimp only; omega) | omega, by first | (dsimp only; omega) | omega, by first | (dsimp only; omega) | omega, by first | (dsimp only; omega) | omega, by first | (dsimp only; omega) | omega, by first | (dsimp only; omega) | omega, by first | (dsimp only; omega) | omega, by first | (dsimp only; omega) | omega, (by rw [show z_126 = v6q78 + mS bf v6q78 by omega]; exact J_79_8.step hk9.1)⟩
                    · replace c_122 := mt (I_eq (a := z_121) (b := 0) rz_121 (show rng 0 from ⟨by decide, by decide⟩)).mpr c_122
                      refine lv_iconst (v := I 1) hx hb dX11_areLike_154 (by decide) ?_
                      refine lv_goto (tgt := 159) hx hb dX11_areLike_155 (by decide) ?_
                      refine lv_istore (lv' := [(4, .int (I 1)), (7, .int (I z_113)), (0, .ref b), (1, .int (I i)), (2, .ref u), (3, .int (I j)), (5, .int (I v5q78)), (6, .int (I v6q78))]) hx hb dX11_areLike_159 hl (by decide) rfl (fun ls hl => ?_)
                      refine lv_iinc (v := I (v5q78 + 1)) (lv' := [(5, .int (I (v5q78 + 1))), (4, .int (I 1)), (7, .int (I z_113)), (0, .ref b), (1, .int (I i)), (2, .ref u), (3, .int (I j)), (6, .int (I v6q78))]) hx hb dX11_areLike_161 hl (k := 6) rfl (I_add _ _) (by decide) rfl (fun ls hl => ?_)
                      refine lv_iload hx hb dX11_areLike_164 (lv_at hl 7 rfl) ?_
                      refine lv_aload_n hx hb dX11_areLike_166 rfl (lv_at hl 3 rfl) ?_
                      refine lv_iload hx hb dX11_areLike_167 (lv_at hl 7 rfl) ?_
                      refine th_calli (va_runS (As := [.ref b, .int (I v6q78)]) (rest := [.int (I v6q78)]) ⟨hx, hb, hml, hown, hts⟩ (w_size l G y b0 σ E hO b bn bf h_b v6q78 (show rng v6q78 from rv6q78) (by omega) (by omega) (by omega)) (va_cwS 2 hts gX11_areLike_X11_size rfl rfl rfl (by decide +kernel) ⟨(by first | (simp only [headSpec]; omega) | omega | (dsimp only; omega)), (by first | (simp only [headSpec]; omega) | omega | (dsimp only; omega))⟩) (th_PS hK hH) rfl rfl hl.1 rfl (lv_room (Nat.le_of_ble_eq_true rfl)) dX11_areLike_169 ⟨(by first | (simp only [headSpec]; omega) | omega | (dsimp only; omega)), (by first | (simp only [headSpec]; omega) | omega | (dsimp only; omega))⟩) hS (fun z_129 σ_s_128 H locs rz_129 hw_127 hH hS => ?_)
                      obtain ⟨e9, hw_127⟩ := hw_127
                      replace e9 := e9.symm
                      subst e9
                      have hw_127 : z_129 = mS bf v6q78 := hw_127
                      refine lv_iadd hx hb dX11_areLike_172 ?_
                      refine th_addo (fun z_130 rz_130 hz_130 => ?_)
                      refine lv_istore (lv' := [(6, .int (I z_130)), (5, .int (I (v5q78 + 1))), (4, .int (I 1)), (7, .int (I z_113)), (0, .ref b), (1, .int (I i)), (2, .ref u), (3, .int (I j))]) hx hb dX11_areLike_173 hl (by decide) rfl (fun ls hl => ?_)
                      refine lv_goto (tgt := 85) hx hb dX11_areLike_175 (by decide) ?_
                      replace hl : lv_has ls 8 [(6, .int (I z_130)), (5, .int (I (v5q78 + 1))), (4, .int (I 1)), (0, .ref b), (1, .int (I i)), (2, .ref u), (3, .int (I j))] := lv_sub hl [0, 1, 2, 4, 5, 6, 7] rfl
                      exact ihJ_79 (1, v5q78 + 1, z_130) σ _ _ _ (by first | (dsimp only; omega) | omega) ⟨rfl, hH, hS, lv_sub hl [3, 4, 5, 6, 2, 1, 0] rfl, (show rng 1 from ⟨by decide, by decide⟩), ⟨by first | (dsimp only; omega) | omega, by first | (dsimp only; omega) | omega⟩, rz_130, by first | (dsimp only; omega) | omega, by first | (dsimp only; omega) | omega, by first | (dsimp only; omega) | omega, by first | (dsimp only; omega) | omega, by first | (dsimp only; omega) | omega, by first | (dsimp only; omega) | omega, by first | (dsimp only; omega) | omega, by first | (dsimp only; omega) | omega, (by rw [show z_130 = v6q78 + mS bf v6q78 by omega]; exact J_79_8.step hk9.1)⟩
          · replace c_25 := mt (I_eq (a := z_21) (b := z_24) rz_21 rz_24).mpr c_25
            refine lv_iconst (v := I 0) hx hb dX11_areLike_72 (by decide) ?_
            exact th_zret hx hb hr hlocks hH hS (z := 0) (by omega) ⟨rfl, ⟨by omega, by omega⟩, trivial⟩ dX11_areLike_73
        · replace c_18 := (I_eq (a := z_17) (b := 0) rz_17 (show rng 0 from ⟨by decide, by decide⟩)).mp c_18
          refine lv_aload_n hx hb dX11_areLike_36 rfl (lv_at hl 0 rfl) ?_
          refine lv_iconst (v := I 4) hx hb dX11_areLike_37 (by decide) ?_
          refine lv_iload_n hx hb dX11_areLike_38 rfl (lv_at hl 1 rfl) ?_
          refine lv_imul hx hb dX11_areLike_39 ?_
          refine nq_top (I_mul _ _) ?_
          refine lv_iconst (v := I 1) hx hb dX11_areLike_40 (by decide) ?_
          refine lv_iadd hx hb dX11_areLike_41 ?_
          refine nq_top (I_add _ _) ?_
          refine w_iald hx hb hK hH h_b ⟨by omega, by omega⟩ (by omega) (by omega) dX11_areLike_42 (fun z_131 ez_131 rz_131 => ?_)
          refine lv_aload_n hx hb dX11_areLike_43 rfl (lv_at hl 2 rfl) ?_
          refine lv_iconst (v := I 4) hx hb dX11_areLike_44 (by decide) ?_
          refine lv_iload_n hx hb dX11_areLike_45 rfl (lv_at hl 3 rfl) ?_
          refine lv_imul hx hb dX11_areLike_46 ?_
          refine nq_top (I_mul _ _) ?_
          refine lv_iconst (v := I 1) hx hb dX11_areLike_47 (by decide) ?_
          refine lv_iadd hx hb dX11_areLike_48 ?_
          refine nq_top (I_add _ _) ?_
          refine w_iald hx hb hK hH h_u ⟨by omega, by omega⟩ (by omega) (by omega) dX11_areLike_49 (fun z_132 ez_132 rz_132 => ?_)
          refine lv_icmp_ne (tgt := 57) hx hb dX11_areLike_50 (by decide) (fun c_133 => ?_) (fun c_133 => ?_)
          · replace c_133 := mt (I_eq (a := z_131) (b := z_132) rz_131 rz_132).mpr c_133
            refine lv_iconst (v := I 0) hx hb dX11_areLike_57 (by decide) ?_
            exact th_zret hx hb hr hlocks hH hS (z := 0) (by omega) ⟨rfl, ⟨by omega, by omega⟩, trivial⟩ dX11_areLike_58
          · replace c_133 := (I_eq (a := z_131) (b := z_132) rz_131 rz_132).mp c_133
            refine lv_iconst (v := I 1) hx hb dX11_areLike_53 (by decide) ?_
            refine lv_goto (tgt := 58) hx hb dX11_areLike_54 (by decide) ?_
            exact th_zret hx hb hr hlocks hH hS (z := 1) (by omega) ⟨rfl, ⟨by omega, by omega⟩, trivial⟩ dX11_areLike_58
      · replace c_14 := mt (I_eq (a := z_10) (b := z_13) rz_10 rz_13).mpr c_14
        refine lv_iconst (v := I 0) hx hb dX11_areLike_26 (by decide) ?_
        exact th_zret hx hb hr hlocks hH hS (z := 0) (by omega) ⟨rfl, ⟨by omega, by omega⟩, trivial⟩ dX11_areLike_27

set_option maxHeartbeats 4000000 in
set_option maxRecDepth 100000 in
theorem m_twinsOf (l : Launch) (G : va_G) (y : Nat → ClassId) (b0 : Nat) (σ : th_M) (E : th_E) (hO : ok y E σ) (a : Nat) (h_a : kd E a = 13) (i : Int) (ri : rng i) (l_i : 0 ≤ i) (u_i : i ≤ 59) (f1 : Nat → Int32) (ef1 : aF σ (ad E a 1) = f1) (hy0 : wf f1 0 (mS f1 0)) (hy1 : 1 ≤ mS f1 0 ∧ mS f1 0 ≤ 60) (hy2 : i < mS f1 0) : Met l yX11_twinsOf wsX11_twinsOf ({ frames := 131, cells := 0, slots := 0, locals := 3891 }) (th_P G y b0 σ [.ref a, .int (I i)]) (th_Qi G b0 (fun r σ1 => σ1 = σ ∧ (True))) 0 0 (th_A b0) := by
  refine Met.ofW (cc := cX11_twinsOf) (maxL := 4) (ret := (some .int)) (by decide) rfl ?_
  intro p e s m args below meth c s₁ B hml hv
  obtain ⟨rfl, hH, hK⟩ := hv
  have hx := B.exec
  have hb := B.bytes
  have hr := B.returns
  have hts := atoms_spec (ws := wsX11_twinsOf) B.pre
  have hown : s.vm.findClass RX11 = some m.cls := findClass_of_methodNamed B.named
  have hlocks := B.notSynchronized
  have h00 : b0 ≤ s.heap.size := hH.1
  have hS : va_S (th_A b0) s.heap s.heap [] := va_S.rf
  have inX11 : ∀ w ∈ wsX110, w ∈ wsX11_twinsOf := by decide +kernel
  have fl0 := hts (.fieldLink RX11 9 "NestQueryModel" "tree" "[I") (by decide +kernel)
  have hl := lv_entry ([.ref a, .int (I i)]) (n := 4) (Nat.le_of_ble_eq_true rfl)
  rw [lg_entry_eq]
  generalize (lg_sl ([.ref a, .int (I i)]) ++ List.replicate (4 - (lg_sl ([.ref a, .int (I i)])).length) Slot.unset).toArray = ls at hl ⊢
  have hl : lv_has ls 4 [(0, .ref a), (1, .int (I i))] := hl
  refine lv_iconst (v := I 0) hx hb dX11_twinsOf_0 (by decide) ?_
  refine lv_istore_n (lv' := [(2, .int (I 0)), (0, .ref a), (1, .int (I i))]) hx hb dX11_twinsOf_1 rfl hl (by decide) rfl (fun ls hl => ?_)
  refine lv_iconst (v := I 0) hx hb dX11_twinsOf_2 (by decide) ?_
  refine lv_istore_n (lv' := [(3, .int (I 0)), (2, .int (I 0)), (0, .ref a), (1, .int (I i))]) hx hb dX11_twinsOf_3 rfl hl (by decide) rfl (fun ls hl => ?_)
  refine th_loop (α := Int × Int) (pc := 4) (fun x9 => (mS f1 0 - x9.2).toNat) (fun x9 σ9 H9 l9 ls9 => σ9 = σ ∧ th_H G b0 σ9 H9 ∧ va_S (th_A b0) s.heap H9 l9 ∧ lv_has ls9 4 [(0, .ref a), (1, .int (I i)), (2, .int (I x9.1)), (3, .int (I x9.2))] ∧ rng x9.1 ∧ rng x9.2 ∧ (0 ≤ x9.2) ∧ (x9.2 ≤ 60) ∧ (0 ≤ x9.1) ∧ (x9.1 ≤ x9.2)) ?_ (0, 0) σ _ _ _ ⟨rfl, hH, hS, lv_sub hl [2, 3, 1, 0] rfl, (show rng 0 from ⟨by decide, by decide⟩), (show rng 0 from ⟨by decide, by decide⟩), by first | (dsimp only; omega) | omega, by first | (dsimp only; omega) | omega, by first | (dsimp only; omega) | omega, by first | (dsimp only; omega) | omega⟩
  intro x9 σ_J_16 H locs ls hI9 ihJ_16
  obtain ⟨v2q15, v3q15⟩ := x9
  obtain ⟨eJ_16, hH, hS, hl, rv2q15, rv3q15, J_16_0, J_16_1, J_16_2, J_16_3⟩ := hI9
  replace eJ_16 := eJ_16.symm
  subst eJ_16
  have hl : lv_has ls 4 [(0, .ref a), (1, .int (I i)), (2, .int (I v2q15)), (3, .int (I v3q15))] := hl
  have rv2q15 : rng v2q15 := rv2q15
  have rv3q15 : rng v3q15 := rv3q15
  have J_16_0 : 0 ≤ v3q15 := J_16_0
  have J_16_1 : v3q15 ≤ 60 := J_16_1
  have J_16_2 : 0 ≤ v2q15 := J_16_2
  have J_16_3 : v2q15 ≤ v3q15 := J_16_3
  refine lv_iload_n hx hb dX11_twinsOf_4 rfl (lv_at hl 3 rfl) ?_
  refine lv_aload_n hx hb dX11_twinsOf_5 rfl (lv_at hl 0 rfl) ?_
  obtain ⟨_, hc_17⟩ := hO.cell h_a (by decide) (ci := 11) rfl
  refine th_calli (va_runV (As := []) (rest := [.int (I v3q15)]) ⟨hx, hb, hml, hown, hts⟩ (m_things l G y b0 σ E hO a h_a f1 ef1) (cwV 0 hts gX11_twinsOf_X11_things rfl rfl rfl (by decide +kernel) ⟨Nat.le_of_ble_eq_true rfl, Nat.le_of_ble_eq_true rfl⟩) (th_PV hK hH rfl hc_17) rfl rfl hl.1 rfl (lv_room (Nat.le_of_ble_eq_true rfl)) dX11_twinsOf_6 ⟨Nat.le_of_ble_eq_true rfl, Nat.le_of_ble_eq_true rfl⟩) hS (fun z_20 σ_s_19 H locs rz_20 hw_18 hH hS => ?_)
  obtain ⟨e9, hw_18⟩ := hw_18
  replace e9 := e9.symm
  subst e9
  have hw_18 : z_20 = mS f1 0 := hw_18
  refine lv_icmp_ge (tgt := 47) hx hb dX11_twinsOf_9 (by decide) (fun c_21 => ?_) (fun c_21 => ?_)
  · replace c_21 := (I_le (a := z_20) (b := v3q15) rz_20 rv3q15).mp c_21
    refine lv_iload_n hx hb dX11_twinsOf_47 rfl (lv_at hl 2 rfl) ?_
    exact th_iret hx hb hr hlocks hH hS (z := v2q15) rv2q15 ⟨rfl, trivial⟩ dX11_twinsOf_48
  · replace c_21 := mt (I_le (a := z_20) (b := v3q15) rz_20 rv3q15).mpr c_21
    refine lv_iload_n hx hb dX11_twinsOf_12 rfl (lv_at hl 2 rfl) ?_
    refine lv_iload_n hx hb dX11_twinsOf_13 rfl (lv_at hl 3 rfl) ?_
    have hk9 := hy0 v3q15 (by omega) (by omega)
    have hk8 := hy0 i (by omega) (by omega)
    refine lv_iload_n hx hb dX11_twinsOf_14 rfl (lv_at hl 1 rfl) ?_
    refine lv_icmp_eq (tgt := 38) hx hb dX11_twinsOf_15 (by decide) (fun c_22 => ?_) (fun c_22 => ?_)
    · replace c_22 := (I_eq (a := v3q15) (b := i) rv3q15 ri).mp c_22
      refine lv_iconst (v := I 0) hx hb dX11_twinsOf_38 (by decide) ?_
      refine lv_iadd hx hb dX11_twinsOf_39 ?_
      refine th_addo (fun z_23 rz_23 hz_23 => ?_)
      refine lv_istore_n (lv' := [(2, .int (I z_23)), (0, .ref a), (1, .int (I i)), (3, .int (I v3q15))]) hx hb dX11_twinsOf_40 rfl hl (by decide) rfl (fun ls hl => ?_)
      refine lv_iinc (v := I (v3q15 + 1)) (lv' := [(3, .int (I (v3q15 + 1))), (2, .int (I z_23)), (0, .ref a), (1, .int (I i))]) hx hb dX11_twinsOf_41 hl (k := 3) rfl (I_add _ _) (by decide) rfl (fun ls hl => ?_)
      refine lv_goto (tgt := 4) hx hb dX11_twinsOf_44 (by decide) ?_
      exact ihJ_16 (z_23, v3q15 + 1) σ _ _ _ (by first | (dsimp only; omega) | omega) ⟨rfl, hH, hS, lv_sub hl [2, 3, 1, 0] rfl, rz_23, ⟨by first | (dsimp only; omega) | omega, by first | (dsimp only; omega) | omega⟩, by first | (dsimp only; omega) | omega, by first | (dsimp only; omega) | omega, by first | (dsimp only; omega) | omega, by first | (dsimp only; omega) | omega⟩
    · replace c_22 := mt (I_eq (a := v3q15) (b := i) rv3q15 ri).mpr c_22
      refine lv_aload_n hx hb dX11_twinsOf_18 rfl (lv_at hl 0 rfl) ?_
      refine ok.getR hO h_a (by decide) k13_1 (by decide) (fun _ _ he hv kk => th_get (ci := 11) (C := RX11) (T := TX11) (N := 66) hx hb hts inX11 hown hK hH he rfl 1 (by decide) fl0 hv dX11_twinsOf_19 kk) ?_
      refine lv_iload_n hx hb dX11_twinsOf_22 rfl (lv_at hl 1 rfl) ?_
      refine lv_aload_n hx hb dX11_twinsOf_23 rfl (lv_at hl 0 rfl) ?_
      refine ok.getR hO h_a (by decide) k13_1 (by decide) (fun _ _ he hv kk => th_get (ci := 11) (C := RX11) (T := TX11) (N := 66) hx hb hts inX11 hown hK hH he rfl 1 (by decide) fl0 hv dX11_twinsOf_24 kk) ?_
      refine lv_iload_n hx hb dX11_twinsOf_27 rfl (lv_at hl 3 rfl) ?_
      refine th_calli (va_runS (As := [.ref (ad E a 1), .int (I i), .ref (ad E a 1), .int (I v3q15)]) (rest := [.int (I v2q15)]) ⟨hx, hb, hml, hown, hts⟩ (w_areLike 61 l G y b0 σ E hO (ad E a 1) 240 f1 (hO.roww h_a k13_1 isA1 ef1 rfl) i (show rng i from ri) (by omega) (by omega) (ad E a 1) 240 f1 (hO.roww h_a k13_1 isA1 ef1 rfl) v3q15 (show rng v3q15 from rv3q15) (by omega) (by omega) (by first | exact hy0 | exact (hy0).sub (by omega) (by omega)) (by omega) (by omega) (by omega) (by first | exact hy0 | exact (hy0).sub (by omega) (by omega)) (by omega) (by omega) (by omega) (by omega)) (va_cwS 4 hts gX11_twinsOf_X11_areLike rfl rfl rfl (by decide +kernel) ⟨Nat.le_of_ble_eq_true rfl, Nat.le_of_ble_eq_true rfl⟩) (th_PS hK hH) rfl rfl hl.1 rfl (lv_room (Nat.le_of_ble_eq_true rfl)) dX11_twinsOf_28 ⟨Nat.le_of_ble_eq_true rfl, Nat.le_of_ble_eq_true rfl⟩) hS (fun z_26 σ_s_25 H locs rz_26 hw_24 hH hS => ?_)
      obtain ⟨e9, bhw_24, hw_24⟩ := hw_24
      replace e9 := e9.symm
      subst e9
      refine lv_if_eq (tgt := 38) hx hb dX11_twinsOf_31 (by decide) (fun c_27 => ?_) (fun c_27 => ?_)
      · replace c_27 := (I_eq (a := z_26) (b := 0) rz_26 (show rng 0 from ⟨by decide, by decide⟩)).mp c_27
        refine lv_iconst (v := I 0) hx hb dX11_twinsOf_38 (by decide) ?_
        refine lv_iadd hx hb dX11_twinsOf_39 ?_
        refine th_addo (fun z_28 rz_28 hz_28 => ?_)
        refine lv_istore_n (lv' := [(2, .int (I z_28)), (0, .ref a), (1, .int (I i)), (3, .int (I v3q15))]) hx hb dX11_twinsOf_40 rfl hl (by decide) rfl (fun ls hl => ?_)
        refine lv_iinc (v := I (v3q15 + 1)) (lv' := [(3, .int (I (v3q15 + 1))), (2, .int (I z_28)), (0, .ref a), (1, .int (I i))]) hx hb dX11_twinsOf_41 hl (k := 3) rfl (I_add _ _) (by decide) rfl (fun ls hl => ?_)
        refine lv_goto (tgt := 4) hx hb dX11_twinsOf_44 (by decide) ?_
        exact ihJ_16 (z_28, v3q15 + 1) σ _ _ _ (by first | (dsimp only; omega) | omega) ⟨rfl, hH, hS, lv_sub hl [2, 3, 1, 0] rfl, rz_28, ⟨by first | (dsimp only; omega) | omega, by first | (dsimp only; omega) | omega⟩, by first | (dsimp only; omega) | omega, by first | (dsimp only; omega) | omega, by first | (dsimp only; omega) | omega, by first | (dsimp only; omega) | omega⟩
      · replace c_27 := mt (I_eq (a := z_26) (b := 0) rz_26 (show rng 0 from ⟨by decide, by decide⟩)).mpr c_27
        refine lv_iconst (v := I 1) hx hb dX11_twinsOf_34 (by decide) ?_
        refine lv_goto (tgt := 39) hx hb dX11_twinsOf_35 (by decide) ?_
        refine lv_iadd hx hb dX11_twinsOf_39 ?_
        refine th_addo (fun z_29 rz_29 hz_29 => ?_)
        refine lv_istore_n (lv' := [(2, .int (I z_29)), (0, .ref a), (1, .int (I i)), (3, .int (I v3q15))]) hx hb dX11_twinsOf_40 rfl hl (by decide) rfl (fun ls hl => ?_)
        refine lv_iinc (v := I (v3q15 + 1)) (lv' := [(3, .int (I (v3q15 + 1))), (2, .int (I z_29)), (0, .ref a), (1, .int (I i))]) hx hb dX11_twinsOf_41 hl (k := 3) rfl (I_add _ _) (by decide) rfl (fun ls hl => ?_)
        refine lv_goto (tgt := 4) hx hb dX11_twinsOf_44 (by decide) ?_
        exact ihJ_16 (z_29, v3q15 + 1) σ _ _ _ (by first | (dsimp only; omega) | omega) ⟨rfl, hH, hS, lv_sub hl [2, 3, 1, 0] rfl, rz_29, ⟨by first | (dsimp only; omega) | omega, by first | (dsimp only; omega) | omega⟩, by first | (dsimp only; omega) | omega, by first | (dsimp only; omega) | omega, by first | (dsimp only; omega) | omega, by first | (dsimp only; omega) | omega⟩

set_option maxHeartbeats 4000000 in
set_option maxRecDepth 100000 in
theorem m_unlike (l : Launch) (G : va_G) (y : Nat → ClassId) (b0 : Nat) (σ : th_M) (E : th_E) (hO : ok y E σ) (a : Nat) (h_a : kd E a = 13) (f1 : Nat → Int32) (ef1 : aF σ (ad E a 1) = f1) (hy0 : wf f1 0 (mS f1 0)) (hy1 : 1 ≤ mS f1 0 ∧ mS f1 0 ≤ 60) : Met l yX11_unlike wsX11_unlike ({ frames := 131, cells := 0, slots := 0, locals := 3891 }) (th_P G y b0 σ [.ref a]) (th_Qi G b0 (fun r σ1 => σ1 = σ ∧ (True))) 0 0 (th_A b0) := by
  refine Met.ofW (cc := cX11_unlike) (maxL := 5) (ret := (some .int)) (by decide) rfl ?_
  intro p e s m args below meth c s₁ B hml hv
  obtain ⟨rfl, hH, hK⟩ := hv
  have hx := B.exec
  have hb := B.bytes
  have hr := B.returns
  have hts := atoms_spec (ws := wsX11_unlike) B.pre
  have hown : s.vm.findClass RX11 = some m.cls := findClass_of_methodNamed B.named
  have hlocks := B.notSynchronized
  have h00 : b0 ≤ s.heap.size := hH.1
  have hS : va_S (th_A b0) s.heap s.heap [] := va_S.rf
  have inX11 : ∀ w ∈ wsX110, w ∈ wsX11_unlike := by decide +kernel
  have fl0 := hts (.fieldLink RX11 9 "NestQueryModel" "tree" "[I") (by decide +kernel)
  have hl := lv_entry ([.ref a]) (n := 5) (Nat.le_of_ble_eq_true rfl)
  rw [lg_entry_eq]
  generalize (lg_sl ([.ref a]) ++ List.replicate (5 - (lg_sl ([.ref a])).length) Slot.unset).toArray = ls at hl ⊢
  have hl : lv_has ls 5 [(0, .ref a)] := hl
  refine lv_iconst (v := I 0) hx hb dX11_unlike_0 (by decide) ?_
  refine lv_istore_n (lv' := [(1, .int (I 0)), (0, .ref a)]) hx hb dX11_unlike_1 rfl hl (by decide) rfl (fun ls hl => ?_)
  refine lv_iconst (v := I 0) hx hb dX11_unlike_2 (by decide) ?_
  refine lv_istore_n (lv' := [(2, .int (I 0)), (1, .int (I 0)), (0, .ref a)]) hx hb dX11_unlike_3 rfl hl (by decide) rfl (fun ls hl => ?_)
  refine th_loop (α := Int × Int) (pc := 4) (fun x9 => (mS f1 0 - x9.2).toNat) (fun x9 σ9 H9 l9 ls9 => σ9 = σ ∧ th_H G b0 σ9 H9 ∧ va_S (th_A b0) s.heap H9 l9 ∧ lv_has ls9 5 [(0, .ref a), (1, .int (I x9.1)), (2, .int (I x9.2))] ∧ rng x9.1 ∧ rng x9.2 ∧ (0 ≤ x9.2) ∧ (x9.2 ≤ 60) ∧ (0 ≤ x9.1) ∧ (x9.1 ≤ x9.2)) ?_ (0, 0) σ _ _ _ ⟨rfl, hH, hS, lv_sub hl [2, 1, 0] rfl, (show rng 0 from ⟨by decide, by decide⟩), (show rng 0 from ⟨by decide, by decide⟩), by first | (dsimp only; omega) | omega, by first | (dsimp only; omega) | omega, by first | (dsimp only; omega) | omega, by first | (dsimp only; omega) | omega⟩
  intro x9 σ_J_29 H locs ls hI9 ihJ_29
  obtain ⟨v1q28, v2q28⟩ := x9
  obtain ⟨eJ_29, hH, hS, hl, rv1q28, rv2q28, J_29_0, J_29_1, J_29_2, J_29_3⟩ := hI9
  replace eJ_29 := eJ_29.symm
  subst eJ_29
  have hl : lv_has ls 5 [(0, .ref a), (1, .int (I v1q28)), (2, .int (I v2q28))] := hl
  have rv1q28 : rng v1q28 := rv1q28
  have rv2q28 : rng v2q28 := rv2q28
  have J_29_0 : 0 ≤ v2q28 := J_29_0
  have J_29_1 : v2q28 ≤ 60 := J_29_1
  have J_29_2 : 0 ≤ v1q28 := J_29_2
  have J_29_3 : v1q28 ≤ v2q28 := J_29_3
  refine lv_iload_n hx hb dX11_unlike_4 rfl (lv_at hl 2 rfl) ?_
  refine lv_aload_n hx hb dX11_unlike_5 rfl (lv_at hl 0 rfl) ?_
  obtain ⟨_, hc_30⟩ := hO.cell h_a (by decide) (ci := 11) rfl
  refine th_calli (va_runV (As := []) (rest := [.int (I v2q28)]) ⟨hx, hb, hml, hown, hts⟩ (m_things l G y b0 σ E hO a h_a f1 ef1) (cwV 0 hts gX11_unlike_X11_things rfl rfl rfl (by decide +kernel) ⟨Nat.le_of_ble_eq_true rfl, Nat.le_of_ble_eq_true rfl⟩) (th_PV hK hH rfl hc_30) rfl rfl hl.1 rfl (lv_room (Nat.le_of_ble_eq_true rfl)) dX11_unlike_6 ⟨Nat.le_of_ble_eq_true rfl, Nat.le_of_ble_eq_true rfl⟩) hS (fun z_33 σ_s_32 H locs rz_33 hw_31 hH hS => ?_)
  obtain ⟨e9, hw_31⟩ := hw_31
  replace e9 := e9.symm
  subst e9
  have hw_31 : z_33 = mS f1 0 := hw_31
  refine lv_icmp_ge (tgt := 74) hx hb dX11_unlike_9 (by decide) (fun c_34 => ?_) (fun c_34 => ?_)
  · replace c_34 := (I_le (a := z_33) (b := v2q28) rz_33 rv2q28).mp c_34
    refine lv_iload_n hx hb dX11_unlike_74 rfl (lv_at hl 1 rfl) ?_
    exact th_iret hx hb hr hlocks hH hS (z := v1q28) rv1q28 ⟨rfl, trivial⟩ dX11_unlike_75
  · replace c_34 := mt (I_le (a := z_33) (b := v2q28) rz_33 rv2q28).mpr c_34
    have hk9 := hy0 v2q28 (by omega) (by omega)
    refine lv_iconst (v := I 1) hx hb dX11_unlike_12 (by decide) ?_
    refine lv_istore_n (lv' := [(3, .int (I 1)), (0, .ref a), (1, .int (I v1q28)), (2, .int (I v2q28))]) hx hb dX11_unlike_13 rfl hl (by decide) rfl (fun ls hl => ?_)
    refine lv_iconst (v := I 0) hx hb dX11_unlike_14 (by decide) ?_
    refine lv_istore (lv' := [(4, .int (I 0)), (3, .int (I 1)), (0, .ref a), (1, .int (I v1q28)), (2, .int (I v2q28))]) hx hb dX11_unlike_15 hl (by decide) rfl (fun ls hl => ?_)
    refine th_loop (α := Int × Int) (pc := 17) (fun x9 => (v2q28 - x9.2).toNat) (fun x9 σ9 H9 l9 ls9 => σ9 = σ ∧ th_H G b0 σ9 H9 ∧ va_S (th_A b0) s.heap H9 l9 ∧ lv_has ls9 5 [(0, .ref a), (1, .int (I v1q28)), (2, .int (I v2q28)), (3, .int (I x9.1)), (4, .int (I x9.2))] ∧ rng x9.1 ∧ rng x9.2 ∧ (0 ≤ x9.2) ∧ (x9.2 ≤ v2q28) ∧ (0 ≤ x9.1) ∧ (x9.1 ≤ 1)) ?_ (1, 0) σ _ _ _ ⟨rfl, hH, hS, lv_sub hl [2, 3, 4, 1, 0] rfl, (show rng 1 from ⟨by decide, by decide⟩), (show rng 0 from ⟨by decide, by decide⟩), by first | (dsimp only; omega) | omega, by first | (dsimp only; omega) | omega, by first | (dsimp only; omega) | omega, by first | (dsimp only; omega) | omega⟩
    intro x9 σ_J_36 H locs ls hI9 ihJ_36
    obtain ⟨v3q35, v4q35⟩ := x9
    obtain ⟨eJ_36, hH, hS, hl, rv3q35, rv4q35, J_36_0, J_36_1, J_36_2, J_36_3⟩ := hI9
    replace eJ_36 := eJ_36.symm
    subst eJ_36
    have hl : lv_has ls 5 [(0, .ref a), (1, .int (I v1q28)), (2, .int (I v2q28)), (3, .int (I v3q35)), (4, .int (I v4q35))] := hl
    have rv3q35 : rng v3q35 := rv3q35
    have rv4q35 : rng v4q35 := rv4q35
    have J_36_0 : 0 ≤ v4q35 := J_36_0
    have J_36_1 : v4q35 ≤ v2q28 := J_36_1
    have J_36_2 : 0 ≤ v3q35 := J_36_2
    have J_36_3 : v3q35 ≤ 1 := J_36_3
    refine lv_iload hx hb dX11_unlike_17 (lv_at hl 4 rfl) ?_
    refine lv_iload_n hx hb dX11_unlike_19 rfl (lv_at hl 2 rfl) ?_
    refine lv_icmp_ge (tgt := 56) hx hb dX11_unlike_20 (by decide) (fun c_37 => ?_) (fun c_37 => ?_)
    · replace c_37 := (I_le (a := v2q28) (b := v4q35) rv2q28 rv4q35).mp c_37
      refine lv_iload_n hx hb dX11_unlike_56 rfl (lv_at hl 1 rfl) ?_
      refine lv_iload_n hx hb dX11_unlike_57 rfl (lv_at hl 3 rfl) ?_
      refine lv_if_eq (tgt := 65) hx hb dX11_unlike_58 (by decide) (fun c_38 => ?_) (fun c_38 => ?_)
      · replace c_38 := (I_eq (a := v3q35) (b := 0) rv3q35 (show rng 0 from ⟨by decide, by decide⟩)).mp c_38
        refine lv_iconst (v := I 0) hx hb dX11_unlike_65 (by decide) ?_
        refine lv_iadd hx hb dX11_unlike_66 ?_
        refine th_addo (fun z_39 rz_39 hz_39 => ?_)
        refine lv_istore_n (lv' := [(1, .int (I z_39)), (0, .ref a), (2, .int (I v2q28)), (3, .int (I v3q35)), (4, .int (I v4q35))]) hx hb dX11_unlike_67 rfl hl (by decide) rfl (fun ls hl => ?_)
        refine lv_iinc (v := I (v2q28 + 1)) (lv' := [(2, .int (I (v2q28 + 1))), (1, .int (I z_39)), (0, .ref a), (3, .int (I v3q35)), (4, .int (I v4q35))]) hx hb dX11_unlike_68 hl (k := 2) rfl (I_add _ _) (by decide) rfl (fun ls hl => ?_)
        refine lv_goto (tgt := 4) hx hb dX11_unlike_71 (by decide) ?_
        replace hl : lv_has ls 5 [(2, .int (I (v2q28 + 1))), (1, .int (I z_39)), (0, .ref a)] := lv_sub hl [0, 1, 2] rfl
        exact ihJ_29 (z_39, v2q28 + 1) σ _ _ _ (by first | (dsimp only; omega) | omega) ⟨rfl, hH, hS, lv_sub hl [2, 1, 0] rfl, rz_39, ⟨by first | (dsimp only; omega) | omega, by first | (dsimp only; omega) | omega⟩, by first | (dsimp only; omega) | omega, by first | (dsimp only; omega) | omega, by first | (dsimp only; omega) | omega, by first | (dsimp only; omega) | omega⟩
      · replace c_38 := mt (I_eq (a := v3q35) (b := 0) rv3q35 (show rng 0 from ⟨by decide, by decide⟩)).mpr c_38
        refine lv_iconst (v := I 1) hx hb dX11_unlike_61 (by decide) ?_
        refine lv_goto (tgt := 66) hx hb dX11_unlike_62 (by decide) ?_
        refine lv_iadd hx hb dX11_unlike_66 ?_
        refine th_addo (fun z_40 rz_40 hz_40 => ?_)
        refine lv_istore_n (lv' := [(1, .int (I z_40)), (0, .ref a), (2, .int (I v2q28)), (3, .int (I v3q35)), (4, .int (I v4q35))]) hx hb dX11_unlike_67 rfl hl (by decide) rfl (fun ls hl => ?_)
        refine lv_iinc (v := I (v2q28 + 1)) (lv' := [(2, .int (I (v2q28 + 1))), (1, .int (I z_40)), (0, .ref a), (3, .int (I v3q35)), (4, .int (I v4q35))]) hx hb dX11_unlike_68 hl (k := 2) rfl (I_add _ _) (by decide) rfl (fun ls hl => ?_)
        refine lv_goto (tgt := 4) hx hb dX11_unlike_71 (by decide) ?_
        replace hl : lv_has ls 5 [(2, .int (I (v2q28 + 1))), (1, .int (I z_40)), (0, .ref a)] := lv_sub hl [0, 1, 2] rfl
        exact ihJ_29 (z_40, v2q28 + 1) σ _ _ _ (by first | (dsimp only; omega) | omega) ⟨rfl, hH, hS, lv_sub hl [2, 1, 0] rfl, rz_40, ⟨by first | (dsimp only; omega) | omega, by first | (dsimp only; omega) | omega⟩, by first | (dsimp only; omega) | omega, by first | (dsimp only; omega) | omega, by first | (dsimp only; omega) | omega, by first | (dsimp only; omega) | omega⟩
    · replace c_37 := mt (I_le (a := v2q28) (b := v4q35) rv2q28 rv4q35).mpr c_37
      refine lv_iload_n hx hb dX11_unlike_23 rfl (lv_at hl 3 rfl) ?_
      refine lv_if_eq (tgt := 56) hx hb dX11_unlike_24 (by decide) (fun c_41 => ?_) (fun c_41 => ?_)
      · replace c_41 := (I_eq (a := v3q35) (b := 0) rv3q35 (show rng 0 from ⟨by decide, by decide⟩)).mp c_41
        refine lv_iload_n hx hb dX11_unlike_56 rfl (lv_at hl 1 rfl) ?_
        refine lv_iload_n hx hb dX11_unlike_57 rfl (lv_at hl 3 rfl) ?_
        refine lv_if_eq (tgt := 65) hx hb dX11_unlike_58 (by decide) (fun c_42 => ?_) (fun c_42 => ?_)
        · replace c_42 := (I_eq (a := v3q35) (b := 0) rv3q35 (show rng 0 from ⟨by decide, by decide⟩)).mp c_42
          refine lv_iconst (v := I 0) hx hb dX11_unlike_65 (by decide) ?_
          refine lv_iadd hx hb dX11_unlike_66 ?_
          refine th_addo (fun z_43 rz_43 hz_43 => ?_)
          refine lv_istore_n (lv' := [(1, .int (I z_43)), (0, .ref a), (2, .int (I v2q28)), (3, .int (I v3q35)), (4, .int (I v4q35))]) hx hb dX11_unlike_67 rfl hl (by decide) rfl (fun ls hl => ?_)
          refine lv_iinc (v := I (v2q28 + 1)) (lv' := [(2, .int (I (v2q28 + 1))), (1, .int (I z_43)), (0, .ref a), (3, .int (I v3q35)), (4, .int (I v4q35))]) hx hb dX11_unlike_68 hl (k := 2) rfl (I_add _ _) (by decide) rfl (fun ls hl => ?_)
          refine lv_goto (tgt := 4) hx hb dX11_unlike_71 (by decide) ?_
          replace hl : lv_has ls 5 [(2, .int (I (v2q28 + 1))), (1, .int (I z_43)), (0, .ref a)] := lv_sub hl [0, 1, 2] rfl
          exact ihJ_29 (z_43, v2q28 + 1) σ _ _ _ (by first | (dsimp only; omega) | omega) ⟨rfl, hH, hS, lv_sub hl [2, 1, 0] rfl, rz_43, ⟨by first | (dsimp only; omega) | omega, by first | (dsimp only; omega) | omega⟩, by first | (dsimp only; omega) | omega, by first | (dsimp only; omega) | omega, by first | (dsimp only; omega) | omega, by first | (dsimp only; omega) | omega⟩
        · replace c_42 := mt (I_eq (a := v3q35) (b := 0) rv3q35 (show rng 0 from ⟨by decide, by decide⟩)).mpr c_42
          refine lv_iconst (v := I 1) hx hb dX11_unlike_61 (by decide) ?_
          refine lv_goto (tgt := 66) hx hb dX11_unlike_62 (by decide) ?_
          refine lv_iadd hx hb dX11_unlike_66 ?_
          refine th_addo (fun z_44 rz_44 hz_44 => ?_)
          refine lv_istore_n (lv' := [(1, .int (I z_44)), (0, .ref a), (2, .int (I v2q28)), (3, .int (I v3q35)), (4, .int (I v4q35))]) hx hb dX11_unlike_67 rfl hl (by decide) rfl (fun ls hl => ?_)
          refine lv_iinc (v := I (v2q28 + 1)) (lv' := [(2, .int (I (v2q28 + 1))), (1, .int (I z_44)), (0, .ref a), (3, .int (I v3q35)), (4, .int (I v4q35))]) hx hb dX11_unlike_68 hl (k := 2) rfl (I_add _ _) (by decide) rfl (fun ls hl => ?_)
          refine lv_goto (tgt := 4) hx hb dX11_unlike_71 (by decide) ?_
          replace hl : lv_has ls 5 [(2, .int (I (v2q28 + 1))), (1, .int (I z_44)), (0, .ref a)] := lv_sub hl [0, 1, 2] rfl
          exact ihJ_29 (z_44, v2q28 + 1) σ _ _ _ (by first | (dsimp only; omega) | omega) ⟨rfl, hH, hS, lv_sub hl [2, 1, 0] rfl, rz_44, ⟨by first | (dsimp only; omega) | omega, by first | (dsimp only; omega) | omega⟩, by first | (dsimp only; omega) | omega, by first | (dsimp only; omega) | omega, by first | (dsimp only; omega) | omega, by first | (dsimp only; omega) | omega⟩
      · replace c_41 := mt (I_eq (a := v3q35) (b := 0) rv3q35 (show rng 0 from ⟨by decide, by decide⟩)).mpr c_41
        have hk8 := hy0 v4q35 (by omega) (by omega)
        refine lv_aload_n hx hb dX11_unlike_27 rfl (lv_at hl 0 rfl) ?_
        refine ok.getR hO h_a (by decide) k13_1 (by decide) (fun _ _ he hv kk => th_get (ci := 11) (C := RX11) (T := TX11) (N := 66) hx hb hts inX11 hown hK hH he rfl 1 (by decide) fl0 hv dX11_unlike_28 kk) ?_
        refine lv_iload_n hx hb dX11_unlike_31 rfl (lv_at hl 2 rfl) ?_
        refine lv_aload_n hx hb dX11_unlike_32 rfl (lv_at hl 0 rfl) ?_
        refine ok.getR hO h_a (by decide) k13_1 (by decide) (fun _ _ he hv kk => th_get (ci := 11) (C := RX11) (T := TX11) (N := 66) hx hb hts inX11 hown hK hH he rfl 1 (by decide) fl0 hv dX11_unlike_33 kk) ?_
        refine lv_iload hx hb dX11_unlike_36 (lv_at hl 4 rfl) ?_
        refine th_calli (va_runS (As := [.ref (ad E a 1), .int (I v2q28), .ref (ad E a 1), .int (I v4q35)]) (rest := []) ⟨hx, hb, hml, hown, hts⟩ (w_areLike 61 l G y b0 σ E hO (ad E a 1) 240 f1 (hO.roww h_a k13_1 isA1 ef1 rfl) v2q28 (show rng v2q28 from rv2q28) (by omega) (by omega) (ad E a 1) 240 f1 (hO.roww h_a k13_1 isA1 ef1 rfl) v4q35 (show rng v4q35 from rv4q35) (by omega) (by omega) (by first | exact hy0 | exact (hy0).sub (by omega) (by omega)) (by omega) (by omega) (by omega) (by first | exact hy0 | exact (hy0).sub (by omega) (by omega)) (by omega) (by omega) (by omega) (by omega)) (va_cwS 4 hts gX11_unlike_X11_areLike rfl rfl rfl (by decide +kernel) ⟨Nat.le_of_ble_eq_true rfl, Nat.le_of_ble_eq_true rfl⟩) (th_PS hK hH) rfl rfl hl.1 rfl (lv_room (Nat.le_of_ble_eq_true rfl)) dX11_unlike_38 ⟨Nat.le_of_ble_eq_true rfl, Nat.le_of_ble_eq_true rfl⟩) hS (fun z_47 σ_s_46 H locs rz_47 hw_45 hH hS => ?_)
        obtain ⟨e9, bhw_45, hw_45⟩ := hw_45
        replace e9 := e9.symm
        subst e9
        refine lv_if_ne (tgt := 48) hx hb dX11_unlike_41 (by decide) (fun c_48 => ?_) (fun c_48 => ?_)
        · replace c_48 := mt (I_eq (a := z_47) (b := 0) rz_47 (show rng 0 from ⟨by decide, by decide⟩)).mpr c_48
          refine lv_iconst (v := I 0) hx hb dX11_unlike_48 (by decide) ?_
          refine lv_istore_n (lv' := [(3, .int (I 0)), (0, .ref a), (1, .int (I v1q28)), (2, .int (I v2q28)), (4, .int (I v4q35))]) hx hb dX11_unlike_49 rfl hl (by decide) rfl (fun ls hl => ?_)
          refine lv_iinc (v := I (v4q35 + 1)) (lv' := [(4, .int (I (v4q35 + 1))), (3, .int (I 0)), (0, .ref a), (1, .int (I v1q28)), (2, .int (I v2q28))]) hx hb dX11_unlike_50 hl (k := 4) rfl (I_add _ _) (by decide) rfl (fun ls hl => ?_)
          refine lv_goto (tgt := 17) hx hb dX11_unlike_53 (by decide) ?_
          exact ihJ_36 (0, v4q35 + 1) σ _ _ _ (by first | (dsimp only; omega) | omega) ⟨rfl, hH, hS, lv_sub hl [2, 3, 4, 1, 0] rfl, (show rng 0 from ⟨by decide, by decide⟩), ⟨by first | (dsimp only; omega) | omega, by first | (dsimp only; omega) | omega⟩, by first | (dsimp only; omega) | omega, by first | (dsimp only; omega) | omega, by first | (dsimp only; omega) | omega, by first | (dsimp only; omega) | omega⟩
        · replace c_48 := (I_eq (a := z_47) (b := 0) rz_47 (show rng 0 from ⟨by decide, by decide⟩)).mp c_48
          refine lv_iconst (v := I 1) hx hb dX11_unlike_44 (by decide) ?_
          refine lv_goto (tgt := 49) hx hb dX11_unlike_45 (by decide) ?_
          refine lv_istore_n (lv' := [(3, .int (I 1)), (0, .ref a), (1, .int (I v1q28)), (2, .int (I v2q28)), (4, .int (I v4q35))]) hx hb dX11_unlike_49 rfl hl (by decide) rfl (fun ls hl => ?_)
          refine lv_iinc (v := I (v4q35 + 1)) (lv' := [(4, .int (I (v4q35 + 1))), (3, .int (I 1)), (0, .ref a), (1, .int (I v1q28)), (2, .int (I v2q28))]) hx hb dX11_unlike_50 hl (k := 4) rfl (I_add _ _) (by decide) rfl (fun ls hl => ?_)
          refine lv_goto (tgt := 17) hx hb dX11_unlike_53 (by decide) ?_
          exact ihJ_36 (1, v4q35 + 1) σ _ _ _ (by first | (dsimp only; omega) | omega) ⟨rfl, hH, hS, lv_sub hl [2, 3, 4, 1, 0] rfl, (show rng 1 from ⟨by decide, by decide⟩), ⟨by first | (dsimp only; omega) | omega, by first | (dsimp only; omega) | omega⟩, by first | (dsimp only; omega) | omega, by first | (dsimp only; omega) | omega, by first | (dsimp only; omega) | omega, by first | (dsimp only; omega) | omega⟩
