set_option maxHeartbeats 1000000 in
set_option maxRecDepth 100000 in
theorem w_isIn (l : Launch) (G : va_G) (y : Nat → ClassId) (b0 : Nat) (σ : th_M) (E : th_E) (hO : ok y E σ) (i : Int) (ri : rng i) (lo : Int) (rlo : rng lo) (hi : Int) (rhi : rng hi) : Met l yX11_isIn wsX11_isIn ({ frames := 0, cells := 0, slots := 0, locals := 0 }) (th_P G y b0 σ [.int (I i), .int (I lo), .int (I hi)]) (th_Qi G b0 (fun r σ1 => σ1 = σ ∧ (0 ≤ r ∧ r ≤ 1) ∧ ((r = 1 ∧ lo ≤ i ∧ i ≤ hi) ∨ (r = 0 ∧ ¬ (lo ≤ i ∧ i ≤ hi))))) 0 0 (th_A b0) := by
  refine Met.ofW (cc := cX11_isIn) (maxL := 3) (ret := (some .boolean)) (by decide) rfl ?_
  intro p e s m args below meth c s₁ B hml hv
  obtain ⟨rfl, hH, hK⟩ := hv
  have hx := B.exec
  have hb := B.bytes
  have hr := B.returns
  have hts := atoms_spec (ws := wsX11_isIn) B.pre
  have hown : s.vm.findClass RX11 = some m.cls := findClass_of_methodNamed B.named
  have hlocks := B.notSynchronized
  have h00 : b0 ≤ s.heap.size := hH.1
  have hS : va_S (th_A b0) s.heap s.heap [] := va_S.rf
  have hl := lv_entry ([.int (I i), .int (I lo), .int (I hi)]) (n := 3) (Nat.le_of_ble_eq_true rfl)
  rw [lg_entry_eq]
  generalize (lg_sl ([.int (I i), .int (I lo), .int (I hi)]) ++ List.replicate (3 - (lg_sl ([.int (I i), .int (I lo), .int (I hi)])).length) Slot.unset).toArray = ls at hl ⊢
  have hl : lv_has ls 3 [(0, .int (I i)), (1, .int (I lo)), (2, .int (I hi))] := hl
  refine lv_iload_n hx hb dX11_isIn_0 rfl (lv_at hl 0 rfl) ?_
  refine lv_iload_n hx hb dX11_isIn_1 rfl (lv_at hl 1 rfl) ?_
  refine lv_icmp_lt (tgt := 14) hx hb dX11_isIn_2 (by decide) (fun c_1 => ?_) (fun c_1 => ?_)
  · replace c_1 := (I_lt (a := i) (b := lo) ri rlo).mp c_1
    refine lv_iconst (v := I 0) hx hb dX11_isIn_14 (by decide) ?_
    exact th_zret hx hb hr hlocks hH hS (z := 0) (by omega) ⟨rfl, ⟨by omega, by omega⟩, by omega⟩ dX11_isIn_15
  · replace c_1 := mt (I_lt (a := i) (b := lo) ri rlo).mpr c_1
    refine lv_iload_n hx hb dX11_isIn_5 rfl (lv_at hl 0 rfl) ?_
    refine lv_iload_n hx hb dX11_isIn_6 rfl (lv_at hl 2 rfl) ?_
    refine lv_icmp_gt (tgt := 14) hx hb dX11_isIn_7 (by decide) (fun c_2 => ?_) (fun c_2 => ?_)
    · replace c_2 := (I_lt (a := hi) (b := i) rhi ri).mp c_2
      refine lv_iconst (v := I 0) hx hb dX11_isIn_14 (by decide) ?_
      exact th_zret hx hb hr hlocks hH hS (z := 0) (by omega) ⟨rfl, ⟨by omega, by omega⟩, by omega⟩ dX11_isIn_15
    · replace c_2 := mt (I_lt (a := hi) (b := i) rhi ri).mpr c_2
      refine lv_iconst (v := I 1) hx hb dX11_isIn_10 (by decide) ?_
      refine lv_goto (tgt := 15) hx hb dX11_isIn_11 (by decide) ?_
      exact th_zret hx hb hr hlocks hH hS (z := 1) (by omega) ⟨rfl, ⟨by omega, by omega⟩, by omega⟩ dX11_isIn_15

set_option maxHeartbeats 1000000 in
set_option maxRecDepth 100000 in
theorem w_kind (l : Launch) (G : va_G) (y : Nat → ClassId) (b0 : Nat) (σ : th_M) (E : th_E) (hO : ok y E σ) (b : Nat) (bn : Nat) (bf : Nat → Int32) (h_b : σ b = some (.inl (y 0, bn, .inl bf))) (i : Int) (ri : rng i) (l_i : 0 ≤ i) (u_i : i ≤ 4000) (hy0 : 4 * i + 4 ≤ bn) : Met l yX11_kind wsX11_kind ({ frames := 0, cells := 0, slots := 0, locals := 0 }) (th_P G y b0 σ [.ref b, .int (I i)]) (th_Qi G b0 (fun r σ1 => σ1 = σ ∧ (r = mK bf i))) 0 0 (th_A b0) := by
  refine Met.ofW (cc := cX11_kind) (maxL := 2) (ret := (some .int)) (by decide) rfl ?_
  intro p e s m args below meth c s₁ B hml hv
  obtain ⟨rfl, hH, hK⟩ := hv
  have hx := B.exec
  have hb := B.bytes
  have hr := B.returns
  have hts := atoms_spec (ws := wsX11_kind) B.pre
  have hown : s.vm.findClass RX11 = some m.cls := findClass_of_methodNamed B.named
  have hlocks := B.notSynchronized
  have h00 : b0 ≤ s.heap.size := hH.1
  have hS : va_S (th_A b0) s.heap s.heap [] := va_S.rf
  have hl := lv_entry ([.ref b, .int (I i)]) (n := 2) (Nat.le_of_ble_eq_true rfl)
  rw [lg_entry_eq]
  generalize (lg_sl ([.ref b, .int (I i)]) ++ List.replicate (2 - (lg_sl ([.ref b, .int (I i)])).length) Slot.unset).toArray = ls at hl ⊢
  have hl : lv_has ls 2 [(0, .ref b), (1, .int (I i))] := hl
  refine lv_aload_n hx hb dX11_kind_0 rfl (lv_at hl 0 rfl) ?_
  refine lv_iconst (v := I 4) hx hb dX11_kind_1 (by decide) ?_
  refine lv_iload_n hx hb dX11_kind_2 rfl (lv_at hl 1 rfl) ?_
  refine lv_imul hx hb dX11_kind_3 ?_
  refine nq_top (I_mul _ _) ?_
  refine w_iald hx hb hK hH h_b ⟨by omega, by omega⟩ (by omega) (by omega) dX11_kind_4 (fun z_1 ez_1 rz_1 => ?_)
  exact th_iret hx hb hr hlocks hH hS (z := z_1) rz_1 ⟨rfl, by unfold mK; omega⟩ dX11_kind_5

set_option maxHeartbeats 1000000 in
set_option maxRecDepth 100000 in
theorem w_size (l : Launch) (G : va_G) (y : Nat → ClassId) (b0 : Nat) (σ : th_M) (E : th_E) (hO : ok y E σ) (b : Nat) (bn : Nat) (bf : Nat → Int32) (h_b : σ b = some (.inl (y 0, bn, .inl bf))) (i : Int) (ri : rng i) (l_i : 0 ≤ i) (u_i : i ≤ 4000) (hy0 : 4 * i + 4 ≤ bn) : Met l yX11_size wsX11_size ({ frames := 0, cells := 0, slots := 0, locals := 0 }) (th_P G y b0 σ [.ref b, .int (I i)]) (th_Qi G b0 (fun r σ1 => σ1 = σ ∧ (r = mS bf i))) 0 0 (th_A b0) := by
  refine Met.ofW (cc := cX11_size) (maxL := 2) (ret := (some .int)) (by decide) rfl ?_
  intro p e s m args below meth c s₁ B hml hv
  obtain ⟨rfl, hH, hK⟩ := hv
  have hx := B.exec
  have hb := B.bytes
  have hr := B.returns
  have hts := atoms_spec (ws := wsX11_size) B.pre
  have hown : s.vm.findClass RX11 = some m.cls := findClass_of_methodNamed B.named
  have hlocks := B.notSynchronized
  have h00 : b0 ≤ s.heap.size := hH.1
  have hS : va_S (th_A b0) s.heap s.heap [] := va_S.rf
  have hl := lv_entry ([.ref b, .int (I i)]) (n := 2) (Nat.le_of_ble_eq_true rfl)
  rw [lg_entry_eq]
  generalize (lg_sl ([.ref b, .int (I i)]) ++ List.replicate (2 - (lg_sl ([.ref b, .int (I i)])).length) Slot.unset).toArray = ls at hl ⊢
  have hl : lv_has ls 2 [(0, .ref b), (1, .int (I i))] := hl
  refine lv_aload_n hx hb dX11_size_0 rfl (lv_at hl 0 rfl) ?_
  refine lv_iconst (v := I 4) hx hb dX11_size_1 (by decide) ?_
  refine lv_iload_n hx hb dX11_size_2 rfl (lv_at hl 1 rfl) ?_
  refine lv_imul hx hb dX11_size_3 ?_
  refine nq_top (I_mul _ _) ?_
  refine lv_iconst (v := I 3) hx hb dX11_size_4 (by decide) ?_
  refine lv_iadd hx hb dX11_size_5 ?_
  refine nq_top (I_add _ _) ?_
  refine w_iald hx hb hK hH h_b ⟨by omega, by omega⟩ (by omega) (by omega) dX11_size_6 (fun z_1 ez_1 rz_1 => ?_)
  exact th_iret hx hb hr hlocks hH hS (z := z_1) rz_1 ⟨rfl, by unfold mS; omega⟩ dX11_size_7

set_option maxHeartbeats 1000000 in
set_option maxRecDepth 100000 in
theorem w_holds (l : Launch) (G : va_G) (y : Nat → ClassId) (b0 : Nat) (σ : th_M) (E : th_E) (hO : ok y E σ) (b : Nat) (bn : Nat) (bf : Nat → Int32) (h_b : σ b = some (.inl (y 0, bn, .inl bf))) (i : Int) (ri : rng i) (l_i : 0 ≤ i) (u_i : i ≤ 4000) (hy0 : 4 * i + 4 ≤ bn) : Met l yX11_holds wsX11_holds ({ frames := 0, cells := 0, slots := 0, locals := 0 }) (th_P G y b0 σ [.ref b, .int (I i)]) (th_Qi G b0 (fun r σ1 => σ1 = σ ∧ (0 ≤ r ∧ r ≤ 1) ∧ ((r = 1 ∧ 2 ≤ mK bf i) ∨ (r = 0 ∧ ¬ 2 ≤ mK bf i)))) 0 0 (th_A b0) := by
  refine Met.ofW (cc := cX11_holds) (maxL := 2) (ret := (some .boolean)) (by decide) rfl ?_
  intro p e s m args below meth c s₁ B hml hv
  obtain ⟨rfl, hH, hK⟩ := hv
  have hx := B.exec
  have hb := B.bytes
  have hr := B.returns
  have hts := atoms_spec (ws := wsX11_holds) B.pre
  have hown : s.vm.findClass RX11 = some m.cls := findClass_of_methodNamed B.named
  have hlocks := B.notSynchronized
  have h00 : b0 ≤ s.heap.size := hH.1
  have hS : va_S (th_A b0) s.heap s.heap [] := va_S.rf
  have hl := lv_entry ([.ref b, .int (I i)]) (n := 2) (Nat.le_of_ble_eq_true rfl)
  rw [lg_entry_eq]
  generalize (lg_sl ([.ref b, .int (I i)]) ++ List.replicate (2 - (lg_sl ([.ref b, .int (I i)])).length) Slot.unset).toArray = ls at hl ⊢
  have hl : lv_has ls 2 [(0, .ref b), (1, .int (I i))] := hl
  refine lv_aload_n hx hb dX11_holds_0 rfl (lv_at hl 0 rfl) ?_
  refine lv_iconst (v := I 4) hx hb dX11_holds_1 (by decide) ?_
  refine lv_iload_n hx hb dX11_holds_2 rfl (lv_at hl 1 rfl) ?_
  refine lv_imul hx hb dX11_holds_3 ?_
  refine nq_top (I_mul _ _) ?_
  refine w_iald hx hb hK hH h_b ⟨by omega, by omega⟩ (by omega) (by omega) dX11_holds_4 (fun z_1 ez_1 rz_1 => ?_)
  refine lv_iconst (v := I 2) hx hb dX11_holds_5 (by decide) ?_
  refine lv_icmp_lt (tgt := 13) hx hb dX11_holds_6 (by decide) (fun c_2 => ?_) (fun c_2 => ?_)
  · replace c_2 := (I_lt (a := z_1) (b := 2) rz_1 (show rng 2 from ⟨by decide, by decide⟩)).mp c_2
    refine lv_iconst (v := I 0) hx hb dX11_holds_13 (by decide) ?_
    exact th_zret hx hb hr hlocks hH hS (z := 0) (by omega) ⟨rfl, ⟨by omega, by omega⟩, by unfold mK; omega⟩ dX11_holds_14
  · replace c_2 := mt (I_lt (a := z_1) (b := 2) rz_1 (show rng 2 from ⟨by decide, by decide⟩)).mpr c_2
    refine lv_iconst (v := I 1) hx hb dX11_holds_9 (by decide) ?_
    refine lv_goto (tgt := 14) hx hb dX11_holds_10 (by decide) ?_
    exact th_zret hx hb hr hlocks hH hS (z := 1) (by omega) ⟨rfl, ⟨by omega, by omega⟩, by unfold mK; omega⟩ dX11_holds_14

set_option maxHeartbeats 1000000 in
set_option maxRecDepth 100000 in
theorem w_many (l : Launch) (G : va_G) (y : Nat → ClassId) (b0 : Nat) (σ : th_M) (E : th_E) (hO : ok y E σ) (b : Nat) (bn : Nat) (bf : Nat → Int32) (h_b : σ b = some (.inl (y 0, bn, .inl bf))) (i : Int) (ri : rng i) (l_i : 0 ≤ i) (u_i : i ≤ 4000) (hy0 : wf bf i (i + mS bf i)) (hy1 : 1 ≤ mS bf i) (hy2 : 4 * (i + mS bf i) ≤ bn) (hy3 : bn ≤ 16000) : Met l yX11_many wsX11_many ({ frames := 1, cells := 0, slots := 0, locals := 25 }) (th_P G y b0 σ [.ref b, .int (I i)]) (th_Qi G b0 (fun r σ1 => σ1 = σ ∧ (chn bf (i + 1) r (i + mS bf i) ∧ 0 ≤ r ∧ r < mS bf i))) 0 0 (th_A b0) := by
  refine Met.ofW (cc := cX11_many) (maxL := 4) (ret := (some .int)) (by decide) rfl ?_
  intro p e s m args below meth c s₁ B hml hv
  obtain ⟨rfl, hH, hK⟩ := hv
  have hx := B.exec
  have hb := B.bytes
  have hr := B.returns
  have hts := atoms_spec (ws := wsX11_many) B.pre
  have hown : s.vm.findClass RX11 = some m.cls := findClass_of_methodNamed B.named
  have hlocks := B.notSynchronized
  have h00 : b0 ≤ s.heap.size := hH.1
  have hS : va_S (th_A b0) s.heap s.heap [] := va_S.rf
  have hl := lv_entry ([.ref b, .int (I i)]) (n := 4) (Nat.le_of_ble_eq_true rfl)
  rw [lg_entry_eq]
  generalize (lg_sl ([.ref b, .int (I i)]) ++ List.replicate (4 - (lg_sl ([.ref b, .int (I i)])).length) Slot.unset).toArray = ls at hl ⊢
  have hl : lv_has ls 4 [(0, .ref b), (1, .int (I i))] := hl
  refine lv_iconst (v := I 0) hx hb dX11_many_0 (by decide) ?_
  refine lv_istore_n (lv' := [(2, .int (I 0)), (0, .ref b), (1, .int (I i))]) hx hb dX11_many_1 rfl hl (by decide) rfl (fun ls hl => ?_)
  refine lv_iload_n hx hb dX11_many_2 rfl (lv_at hl 2 rfl) ?_
  refine lv_iconst (v := I 1) hx hb dX11_many_3 (by decide) ?_
  refine lv_iadd hx hb dX11_many_4 ?_
  refine nq_top (I_add _ _) ?_
  refine lv_istore_n (lv' := [(3, .int (I (i + 1))), (2, .int (I 0)), (0, .ref b), (1, .int (I i))]) hx hb dX11_many_5 rfl hl (by decide) rfl (fun ls hl => ?_)
  refine th_loop (α := Int × Int) (pc := 6) (fun x9 => (i + mS bf i - x9.2).toNat) (fun x9 σ9 H9 l9 ls9 => σ9 = σ ∧ th_H G b0 σ9 H9 ∧ va_S (th_A b0) s.heap H9 l9 ∧ lv_has ls9 4 [(0, .ref b), (1, .int (I i)), (2, .int (I x9.1)), (3, .int (I x9.2))] ∧ rng x9.1 ∧ rng x9.2 ∧ (0 ≤ x9.1) ∧ (x9.1 < x9.2 - i) ∧ (i + 1 ≤ x9.2) ∧ (x9.2 ≤ i + mS bf i) ∧ (chn bf (i + 1) x9.1 x9.2)) ?_ (0, i + 1) σ _ _ _ ⟨rfl, hH, hS, lv_sub hl [2, 3, 1, 0] rfl, (show rng 0 from ⟨by decide, by decide⟩), ⟨by first | omega | (dsimp only; omega), by first | omega | (dsimp only; omega)⟩, by first | omega | (dsimp only; omega), by first | omega | (dsimp only; omega), by first | omega | (dsimp only; omega), by first | omega | (dsimp only; omega), chn.zero⟩
  intro x9 σ_J_12 H locs ls hI9 ihJ_12
  obtain ⟨v2q11, v3q11⟩ := x9
  obtain ⟨eJ_12, hH, hS, hl, rv2q11, rv3q11, J_12_0, J_12_1, J_12_2, J_12_3, J_12_4⟩ := hI9
  replace eJ_12 := eJ_12.symm
  subst eJ_12
  have hl : lv_has ls 4 [(0, .ref b), (1, .int (I i)), (2, .int (I v2q11)), (3, .int (I v3q11))] := hl
  have rv2q11 : rng v2q11 := rv2q11
  have rv3q11 : rng v3q11 := rv3q11
  have J_12_0 : 0 ≤ v2q11 := J_12_0
  have J_12_1 : v2q11 < v3q11 - i := J_12_1
  have J_12_2 : i + 1 ≤ v3q11 := J_12_2
  have J_12_3 : v3q11 ≤ i + mS bf i := J_12_3
  have J_12_4 : chn bf (i + 1) v2q11 v3q11 := J_12_4
  refine lv_iload_n hx hb dX11_many_6 rfl (lv_at hl 3 rfl) ?_
  refine lv_iload_n hx hb dX11_many_7 rfl (lv_at hl 1 rfl) ?_
  refine lv_aload_n hx hb dX11_many_8 rfl (lv_at hl 0 rfl) ?_
  refine lv_iload_n hx hb dX11_many_9 rfl (lv_at hl 1 rfl) ?_
  refine th_calli (va_runS (As := [.ref b, .int (I i)]) (rest := [.int (I i), .int (I v3q11)]) ⟨hx, hb, hml, hown, hts⟩ (w_size l G y b0 σ E hO b bn bf h_b i (show rng i from ri) (by omega) (by omega) (by omega)) (va_cwS 2 hts gX11_many_X11_size rfl rfl rfl (by decide +kernel) ⟨Nat.le_of_ble_eq_true rfl, Nat.le_of_ble_eq_true rfl⟩) (th_PS hK hH) rfl rfl hl.1 rfl (lv_room (Nat.le_of_ble_eq_true rfl)) dX11_many_10 ⟨Nat.le_of_ble_eq_true rfl, Nat.le_of_ble_eq_true rfl⟩) hS (fun z_15 σ_s_14 H locs rz_15 hw_13 hH hS => ?_)
  obtain ⟨e9, hw_13⟩ := hw_13
  replace e9 := e9.symm
  subst e9
  have hw_13 : z_15 = mS bf i := hw_13
  refine lv_iadd hx hb dX11_many_13 ?_
  refine th_addo (fun z_16 rz_16 hz_16 => ?_)
  refine lv_icmp_ge (tgt := 31) hx hb dX11_many_14 (by decide) (fun c_17 => ?_) (fun c_17 => ?_)
  · replace c_17 := (I_le (a := z_16) (b := v3q11) rz_16 rv3q11).mp c_17
    refine lv_iload_n hx hb dX11_many_31 rfl (lv_at hl 2 rfl) ?_
    exact th_iret hx hb hr hlocks hH hS (z := v2q11) rv2q11 ⟨rfl, ⟨by rw [show i + mS bf i = v3q11 from by omega]; exact J_12_4, by omega, by omega⟩⟩ dX11_many_32
  · replace c_17 := mt (I_le (a := z_16) (b := v3q11) rz_16 rv3q11).mpr c_17
    have hk9 := hy0 v3q11 (by omega) (by omega)
    refine lv_iinc (v := I (v2q11 + 1)) (lv' := [(2, .int (I (v2q11 + 1))), (0, .ref b), (1, .int (I i)), (3, .int (I v3q11))]) hx hb dX11_many_17 hl (k := 2) rfl (I_add _ _) (by decide) rfl (fun ls hl => ?_)
    refine lv_iload_n hx hb dX11_many_20 rfl (lv_at hl 3 rfl) ?_
    refine lv_aload_n hx hb dX11_many_21 rfl (lv_at hl 1 rfl) ?_
    refine lv_iload_n hx hb dX11_many_22 rfl (lv_at hl 3 rfl) ?_
    refine th_calli (va_runS (As := [.ref b, .int (I v3q11)]) (rest := [.int (I v3q11)]) ⟨hx, hb, hml, hown, hts⟩ (w_size l G y b0 σ E hO b bn bf h_b v3q11 (show rng v3q11 from rv3q11) (by omega) (by omega) (by omega)) (va_cwS 2 hts gX11_many_X11_size rfl rfl rfl (by decide +kernel) ⟨Nat.le_of_ble_eq_true rfl, Nat.le_of_ble_eq_true rfl⟩) (th_PS hK hH) rfl rfl hl.1 rfl (lv_room (Nat.le_of_ble_eq_true rfl)) dX11_many_23 ⟨Nat.le_of_ble_eq_true rfl, Nat.le_of_ble_eq_true rfl⟩) hS (fun z_20 σ_s_19 H locs rz_20 hw_18 hH hS => ?_)
    obtain ⟨e9, hw_18⟩ := hw_18
    replace e9 := e9.symm
    subst e9
    have hw_18 : z_20 = mS bf v3q11 := hw_18
    refine lv_iadd hx hb dX11_many_26 ?_
    refine th_addo (fun z_21 rz_21 hz_21 => ?_)
    refine lv_istore_n (lv' := [(3, .int (I z_21)), (2, .int (I (v2q11 + 1))), (0, .ref b), (1, .int (I i))]) hx hb dX11_many_27 rfl hl (by decide) rfl (fun ls hl => ?_)
    refine lv_goto (tgt := 6) hx hb dX11_many_28 (by decide) ?_
    exact ihJ_12 (v2q11 + 1, z_21) σ _ _ _ (by first | omega | (dsimp only; omega)) ⟨rfl, hH, hS, lv_sub hl [2, 3, 1, 0] rfl, ⟨by first | omega | (dsimp only; omega), by first | omega | (dsimp only; omega)⟩, rz_21, by first | omega | (dsimp only; omega), by first | omega | (dsimp only; omega), by first | omega | (dsimp only; omega), by first | omega | (dsimp only; omega), (by rw [show z_21 = v3q11 + mS bf v3q11 by omega]; exact J_12_4.step hk9.1)⟩

set_option maxHeartbeats 1000000 in
set_option maxRecDepth 100000 in
theorem w_nth (l : Launch) (G : va_G) (y : Nat → ClassId) (b0 : Nat) (σ : th_M) (E : th_E) (hO : ok y E σ) (b : Nat) (bn : Nat) (bf : Nat → Int32) (h_b : σ b = some (.inl (y 0, bn, .inl bf))) (i : Int) (ri : rng i) (l_i : 0 ≤ i) (u_i : i ≤ 4000) (pp : Int) (rpp : rng pp) (hy0 : wf bf i (i + mS bf i)) (hy1 : 1 ≤ mS bf i) (hy2 : 4 * (i + mS bf i) ≤ bn) (hy3 : bn ≤ 16000) (hy4 : jin bf i pp) : Met l yX11_nth wsX11_nth ({ frames := 1, cells := 0, slots := 0, locals := 25 }) (th_P G y b0 σ [.ref b, .int (I i), .int (I pp)]) (th_Qi G b0 (fun r σ1 => σ1 = σ ∧ (chn bf (i + 1) pp r ∧ kid bf i r))) 0 0 (th_A b0) := by
  refine Met.ofW (cc := cX11_nth) (maxL := 5) (ret := (some .int)) (by decide) rfl ?_
  intro p e s m args below meth c s₁ B hml hv
  obtain ⟨rfl, hH, hK⟩ := hv
  have hx := B.exec
  have hb := B.bytes
  have hr := B.returns
  have hts := atoms_spec (ws := wsX11_nth) B.pre
  have hown : s.vm.findClass RX11 = some m.cls := findClass_of_methodNamed B.named
  have hlocks := B.notSynchronized
  have h00 : b0 ≤ s.heap.size := hH.1
  have hS : va_S (th_A b0) s.heap s.heap [] := va_S.rf
  obtain ⟨hj0, m9, hm9, hj9⟩ := hy4
  have hl := lv_entry ([.ref b, .int (I i), .int (I pp)]) (n := 5) (Nat.le_of_ble_eq_true rfl)
  rw [lg_entry_eq]
  generalize (lg_sl ([.ref b, .int (I i), .int (I pp)]) ++ List.replicate (5 - (lg_sl ([.ref b, .int (I i), .int (I pp)])).length) Slot.unset).toArray = ls at hl ⊢
  have hl : lv_has ls 5 [(0, .ref b), (1, .int (I i)), (2, .int (I pp))] := hl
  refine lv_iload_n hx hb dX11_nth_0 rfl (lv_at hl 1 rfl) ?_
  refine lv_iconst (v := I 1) hx hb dX11_nth_1 (by decide) ?_
  refine lv_iadd hx hb dX11_nth_2 ?_
  refine nq_top (I_add _ _) ?_
  refine lv_istore_n (lv' := [(3, .int (I (i + 1))), (0, .ref b), (1, .int (I i)), (2, .int (I pp))]) hx hb dX11_nth_3 rfl hl (by decide) rfl (fun ls hl => ?_)
  refine lv_iconst (v := I 0) hx hb dX11_nth_4 (by decide) ?_
  refine lv_istore (lv' := [(4, .int (I 0)), (3, .int (I (i + 1))), (0, .ref b), (1, .int (I i)), (2, .int (I pp))]) hx hb dX11_nth_5 hl (by decide) rfl (fun ls hl => ?_)
  replace hl : lv_has ls 5 [(4, .int (I 0)), (3, .int (I (i + 1))), (0, .ref b), (2, .int (I pp))] := lv_sub hl [0, 1, 2, 4] rfl
  refine th_loop (α := Int × Int) (pc := 7) (fun x9 => (pp - x9.2).toNat) (fun x9 σ9 H9 l9 ls9 => σ9 = σ ∧ th_H G b0 σ9 H9 ∧ va_S (th_A b0) s.heap H9 l9 ∧ lv_has ls9 5 [(0, .ref b), (2, .int (I pp)), (3, .int (I x9.1)), (4, .int (I x9.2))] ∧ rng x9.1 ∧ rng x9.2 ∧ (0 ≤ x9.2) ∧ (x9.2 ≤ pp) ∧ (i + 1 ≤ x9.1) ∧ (x9.1 ≤ i + mS bf i) ∧ (chn bf (i + 1) x9.2 x9.1)) ?_ (i + 1, 0) σ _ _ _ ⟨rfl, hH, hS, lv_sub hl [2, 3, 1, 0] rfl, ⟨by first | omega | (dsimp only; omega), by first | omega | (dsimp only; omega)⟩, (show rng 0 from ⟨by decide, by decide⟩), by first | omega | (dsimp only; omega), by first | omega | (dsimp only; omega), by first | omega | (dsimp only; omega), by first | omega | (dsimp only; omega), chn.zero⟩
  intro x9 σ_J_8 H locs ls hI9 ihJ_8
  obtain ⟨v3q7, v4q7⟩ := x9
  obtain ⟨eJ_8, hH, hS, hl, rv3q7, rv4q7, J_8_0, J_8_1, J_8_2, J_8_3, J_8_4⟩ := hI9
  replace eJ_8 := eJ_8.symm
  subst eJ_8
  have hl : lv_has ls 5 [(0, .ref b), (2, .int (I pp)), (3, .int (I v3q7)), (4, .int (I v4q7))] := hl
  have rv3q7 : rng v3q7 := rv3q7
  have rv4q7 : rng v4q7 := rv4q7
  have J_8_0 : 0 ≤ v4q7 := J_8_0
  have J_8_1 : v4q7 ≤ pp := J_8_1
  have J_8_2 : i + 1 ≤ v3q7 := J_8_2
  have J_8_3 : v3q7 ≤ i + mS bf i := J_8_3
  have J_8_4 : chn bf (i + 1) v4q7 v3q7 := J_8_4
  refine lv_iload hx hb dX11_nth_7 (lv_at hl 3 rfl) ?_
  refine lv_iload_n hx hb dX11_nth_9 rfl (lv_at hl 1 rfl) ?_
  refine lv_icmp_ge (tgt := 27) hx hb dX11_nth_10 (by decide) (fun c_9 => ?_) (fun c_9 => ?_)
  · replace c_9 := (I_le (a := pp) (b := v4q7) rpp rv4q7).mp c_9
    have ep9 : pp = v4q7 := by omega
    have hk9 := J_8_4.lt hm9 (by omega)
    refine lv_iload_n hx hb dX11_nth_27 rfl (lv_at hl 2 rfl) ?_
    exact th_iret hx hb hr hlocks hH hS (z := v3q7) rv3q7 ⟨rfl, ⟨by rw [ep9]; exact J_8_4, kid.mk1 (by omega) (by omega) J_8_4⟩⟩ dX11_nth_28
  · replace c_9 := mt (I_le (a := pp) (b := v4q7) rpp rv4q7).mpr c_9
    have hk9 := J_8_4.lt hm9 (by omega)
    refine lv_iload_n hx hb dX11_nth_13 rfl (lv_at hl 2 rfl) ?_
    refine lv_aload_n hx hb dX11_nth_14 rfl (lv_at hl 0 rfl) ?_
    refine lv_iload_n hx hb dX11_nth_15 rfl (lv_at hl 2 rfl) ?_
    refine th_calli (va_runS (As := [.ref b, .int (I v3q7)]) (rest := [.int (I v3q7)]) ⟨hx, hb, hml, hown, hts⟩ (w_size l G y b0 σ E hO b bn bf h_b v3q7 (show rng v3q7 from rv3q7) (by omega) (by omega) (by omega)) (va_cwS 2 hts gX11_nth_X11_size rfl rfl rfl (by decide +kernel) ⟨Nat.le_of_ble_eq_true rfl, Nat.le_of_ble_eq_true rfl⟩) (th_PS hK hH) rfl rfl hl.1 rfl (lv_room (Nat.le_of_ble_eq_true rfl)) dX11_nth_16 ⟨Nat.le_of_ble_eq_true rfl, Nat.le_of_ble_eq_true rfl⟩) hS (fun z_12 σ_s_11 H locs rz_12 hw_10 hH hS => ?_)
    obtain ⟨e9, hw_10⟩ := hw_10
    replace e9 := e9.symm
    subst e9
    have hw_10 : z_12 = mS bf v3q7 := hw_10
    refine lv_iadd hx hb dX11_nth_19 ?_
    refine th_addo (fun z_13 rz_13 hz_13 => ?_)
    refine lv_istore_n (lv' := [(3, .int (I z_13)), (0, .ref b), (2, .int (I pp)), (4, .int (I v4q7))]) hx hb dX11_nth_20 rfl hl (by decide) rfl (fun ls hl => ?_)
    refine lv_iinc (v := I (v4q7 + 1)) (lv' := [(4, .int (I (v4q7 + 1))), (3, .int (I z_13)), (0, .ref b), (2, .int (I pp))]) hx hb dX11_nth_21 hl (k := 3) rfl (I_add _ _) (by decide) rfl (fun ls hl => ?_)
    refine lv_goto (tgt := 7) hx hb dX11_nth_24 (by decide) ?_
    exact ihJ_8 (z_13, v4q7 + 1) σ _ _ _ (by first | omega | (dsimp only; omega)) ⟨rfl, hH, hS, lv_sub hl [2, 3, 1, 0] rfl, rz_13, ⟨by first | omega | (dsimp only; omega), by first | omega | (dsimp only; omega)⟩, by first | omega | (dsimp only; omega), by first | omega | (dsimp only; omega), by first | omega | (dsimp only; omega), by first | omega | (dsimp only; omega), (by rw [show z_13 = v3q7 + mS bf v3q7 by omega]; exact J_8_4.step hk9.2.1)⟩

set_option maxHeartbeats 1000000 in
set_option maxRecDepth 100000 in
theorem w_byKey (l : Launch) (G : va_G) (y : Nat → ClassId) (b0 : Nat) (σ : th_M) (E : th_E) (hO : ok y E σ) (b : Nat) (bn : Nat) (bf : Nat → Int32) (h_b : σ b = some (.inl (y 0, bn, .inl bf))) (i : Int) (ri : rng i) (l_i : 0 ≤ i) (u_i : i ≤ 4000) (ky : Int) (rky : rng ky) (hy0 : wf bf i (i + mS bf i)) (hy1 : 1 ≤ mS bf i) (hy2 : 4 * (i + mS bf i) ≤ bn) (hy3 : bn ≤ 16000) : Met l yX11_byKey wsX11_byKey ({ frames := 1, cells := 0, slots := 0, locals := 25 }) (th_P G y b0 σ [.ref b, .int (I i), .int (I ky)]) (th_Qi G b0 (fun r σ1 => σ1 = σ ∧ ((r = -1 ∧ nok bf (i + 1) (i + mS bf i) ky) ∨ (kid bf i r ∧ mY bf r = ky ∧ i < r ∧ r < i + mS bf i)))) 0 0 (th_A b0) := by
  refine Met.ofW (cc := cX11_byKey) (maxL := 4) (ret := (some .int)) (by decide) rfl ?_
  intro p e s m args below meth c s₁ B hml hv
  obtain ⟨rfl, hH, hK⟩ := hv
  have hx := B.exec
  have hb := B.bytes
  have hr := B.returns
  have hts := atoms_spec (ws := wsX11_byKey) B.pre
  have hown : s.vm.findClass RX11 = some m.cls := findClass_of_methodNamed B.named
  have hlocks := B.notSynchronized
  have h00 : b0 ≤ s.heap.size := hH.1
  have hS : va_S (th_A b0) s.heap s.heap [] := va_S.rf
  have hl := lv_entry ([.ref b, .int (I i), .int (I ky)]) (n := 4) (Nat.le_of_ble_eq_true rfl)
  rw [lg_entry_eq]
  generalize (lg_sl ([.ref b, .int (I i), .int (I ky)]) ++ List.replicate (4 - (lg_sl ([.ref b, .int (I i), .int (I ky)])).length) Slot.unset).toArray = ls at hl ⊢
  have hl : lv_has ls 4 [(0, .ref b), (1, .int (I i)), (2, .int (I ky))] := hl
  refine lv_iload_n hx hb dX11_byKey_0 rfl (lv_at hl 1 rfl) ?_
  refine lv_iconst (v := I 1) hx hb dX11_byKey_1 (by decide) ?_
  refine lv_iadd hx hb dX11_byKey_2 ?_
  refine nq_top (I_add _ _) ?_
  refine lv_istore_n (lv' := [(3, .int (I (i + 1))), (0, .ref b), (1, .int (I i)), (2, .int (I ky))]) hx hb dX11_byKey_3 rfl hl (by decide) rfl (fun ls hl => ?_)
  refine th_loop (α := Int) (pc := 4) (fun x9 => (i + mS bf i - x9).toNat) (fun x9 σ9 H9 l9 ls9 => σ9 = σ ∧ th_H G b0 σ9 H9 ∧ va_S (th_A b0) s.heap H9 l9 ∧ lv_has ls9 4 [(0, .ref b), (1, .int (I i)), (2, .int (I ky)), (3, .int (I x9))] ∧ rng x9 ∧ (i + 1 ≤ x9) ∧ (x9 ≤ i + mS bf i) ∧ (nok bf (i + 1) x9 ky) ∧ (0 ≤ x9) ∧ (x9 ≤ 4000)) ?_ (i + 1) σ _ _ _ ⟨rfl, hH, hS, lv_sub hl [1, 2, 3, 0] rfl, ⟨by first | omega | (dsimp only; omega), by first | omega | (dsimp only; omega)⟩, by first | omega | (dsimp only; omega), by first | omega | (dsimp only; omega), nok.zero, by first | omega | (dsimp only; omega), by first | omega | (dsimp only; omega)⟩
  intro x9 σ_J_14 H locs ls hI9 ihJ_14
  obtain ⟨v3q13, ex9⟩ : ∃ z, z = x9 := ⟨_, rfl⟩
  subst ex9
  obtain ⟨eJ_14, hH, hS, hl, rv3q13, J_14_0, J_14_1, J_14_2, J_14_3, J_14_4⟩ := hI9
  replace eJ_14 := eJ_14.symm
  subst eJ_14
  have hl : lv_has ls 4 [(0, .ref b), (1, .int (I i)), (2, .int (I ky)), (3, .int (I v3q13))] := hl
  have rv3q13 : rng v3q13 := rv3q13
  have J_14_0 : i + 1 ≤ v3q13 := J_14_0
  have J_14_1 : v3q13 ≤ i + mS bf i := J_14_1
  have J_14_2 : nok bf (i + 1) v3q13 ky := J_14_2
  have J_14_3 : 0 ≤ v3q13 := J_14_3
  have J_14_4 : v3q13 ≤ 4000 := J_14_4
  refine lv_iload_n hx hb dX11_byKey_4 rfl (lv_at hl 3 rfl) ?_
  refine lv_iload_n hx hb dX11_byKey_5 rfl (lv_at hl 1 rfl) ?_
  refine lv_aload_n hx hb dX11_byKey_6 rfl (lv_at hl 0 rfl) ?_
  refine lv_iload_n hx hb dX11_byKey_7 rfl (lv_at hl 1 rfl) ?_
  refine th_calli (va_runS (As := [.ref b, .int (I i)]) (rest := [.int (I i), .int (I v3q13)]) ⟨hx, hb, hml, hown, hts⟩ (w_size l G y b0 σ E hO b bn bf h_b i (show rng i from ri) (by omega) (by omega) (by omega)) (va_cwS 2 hts gX11_byKey_X11_size rfl rfl rfl (by decide +kernel) ⟨Nat.le_of_ble_eq_true rfl, Nat.le_of_ble_eq_true rfl⟩) (th_PS hK hH) rfl rfl hl.1 rfl (lv_room (Nat.le_of_ble_eq_true rfl)) dX11_byKey_8 ⟨Nat.le_of_ble_eq_true rfl, Nat.le_of_ble_eq_true rfl⟩) hS (fun z_17 σ_s_16 H locs rz_17 hw_15 hH hS => ?_)
  obtain ⟨e9, hw_15⟩ := hw_15
  replace e9 := e9.symm
  subst e9
  have hw_15 : z_17 = mS bf i := hw_15
  refine lv_iadd hx hb dX11_byKey_11 ?_
  refine th_addo (fun z_18 rz_18 hz_18 => ?_)
  refine lv_icmp_ge (tgt := 39) hx hb dX11_byKey_12 (by decide) (fun c_19 => ?_) (fun c_19 => ?_)
  · replace c_19 := (I_le (a := z_18) (b := v3q13) rz_18 rv3q13).mp c_19
    refine lv_iconst (v := I (-1)) hx hb dX11_byKey_39 (by decide) ?_
    exact th_iret hx hb hr hlocks hH hS (z := (-1)) (show rng (-1) from ⟨by decide, by decide⟩) ⟨rfl, Or.inl ⟨rfl, by rw [show i + mS bf i = v3q13 by omega]; exact J_14_2⟩⟩ dX11_byKey_40
  · replace c_19 := mt (I_le (a := z_18) (b := v3q13) rz_18 rv3q13).mpr c_19
    have hk9 := hy0 v3q13 (by omega) (by omega)
    refine lv_aload_n hx hb dX11_byKey_15 rfl (lv_at hl 0 rfl) ?_
    refine lv_iconst (v := I 4) hx hb dX11_byKey_16 (by decide) ?_
    refine lv_iload_n hx hb dX11_byKey_17 rfl (lv_at hl 3 rfl) ?_
    refine lv_imul hx hb dX11_byKey_18 ?_
    refine nq_top (I_mul _ _) ?_
    refine lv_iconst (v := I 2) hx hb dX11_byKey_19 (by decide) ?_
    refine lv_iadd hx hb dX11_byKey_20 ?_
    refine nq_top (I_add _ _) ?_
    refine w_iald hx hb hK hH h_b ⟨by omega, by omega⟩ (by omega) (by omega) dX11_byKey_21 (fun z_20 ez_20 rz_20 => ?_)
    refine lv_iload_n hx hb dX11_byKey_22 rfl (lv_at hl 2 rfl) ?_
    refine lv_icmp_ne (tgt := 28) hx hb dX11_byKey_23 (by decide) (fun c_21 => ?_) (fun c_21 => ?_)
    · replace c_21 := mt (I_eq (a := z_20) (b := ky) rz_20 rky).mpr c_21
      refine lv_iload_n hx hb dX11_byKey_28 rfl (lv_at hl 3 rfl) ?_
      refine lv_aload_n hx hb dX11_byKey_29 rfl (lv_at hl 0 rfl) ?_
      refine lv_iload_n hx hb dX11_byKey_30 rfl (lv_at hl 3 rfl) ?_
      refine th_calli (va_runS (As := [.ref b, .int (I v3q13)]) (rest := [.int (I v3q13)]) ⟨hx, hb, hml, hown, hts⟩ (w_size l G y b0 σ E hO b bn bf h_b v3q13 (show rng v3q13 from rv3q13) (by omega) (by omega) (by omega)) (va_cwS 2 hts gX11_byKey_X11_size rfl rfl rfl (by decide +kernel) ⟨Nat.le_of_ble_eq_true rfl, Nat.le_of_ble_eq_true rfl⟩) (th_PS hK hH) rfl rfl hl.1 rfl (lv_room (Nat.le_of_ble_eq_true rfl)) dX11_byKey_31 ⟨Nat.le_of_ble_eq_true rfl, Nat.le_of_ble_eq_true rfl⟩) hS (fun z_24 σ_s_23 H locs rz_24 hw_22 hH hS => ?_)
      obtain ⟨e9, hw_22⟩ := hw_22
      replace e9 := e9.symm
      subst e9
      have hw_22 : z_24 = mS bf v3q13 := hw_22
      refine lv_iadd hx hb dX11_byKey_34 ?_
      refine th_addo (fun z_25 rz_25 hz_25 => ?_)
      refine lv_istore_n (lv' := [(3, .int (I z_25)), (0, .ref b), (1, .int (I i)), (2, .int (I ky))]) hx hb dX11_byKey_35 rfl hl (by decide) rfl (fun ls hl => ?_)
      refine lv_goto (tgt := 4) hx hb dX11_byKey_36 (by decide) ?_
      exact ihJ_14 (z_25) σ _ _ _ (by first | omega | (dsimp only; omega)) ⟨rfl, hH, hS, lv_sub hl [1, 2, 3, 0] rfl, rz_25, by first | omega | (dsimp only; omega), by first | omega | (dsimp only; omega), (by rw [show z_25 = v3q13 + mS bf v3q13 by omega]; exact J_14_2.step hk9.1 (by unfold mY; omega)), by first | omega | (dsimp only; omega), by first | omega | (dsimp only; omega)⟩
    · replace c_21 := (I_eq (a := z_20) (b := ky) rz_20 rky).mp c_21
      refine lv_iload_n hx hb dX11_byKey_26 rfl (lv_at hl 3 rfl) ?_
      exact th_iret hx hb hr hlocks hH hS (z := v3q13) rv3q13 ⟨rfl, Or.inr ⟨kid.mk2 (by omega) (by omega) J_14_2, by unfold mY; omega, by omega, by omega⟩⟩ dX11_byKey_27

set_option maxHeartbeats 1000000 in
set_option maxRecDepth 100000 in
theorem w_byPlace (l : Launch) (G : va_G) (y : Nat → ClassId) (b0 : Nat) (σ : th_M) (E : th_E) (hO : ok y E σ) (b : Nat) (bn : Nat) (bf : Nat → Int32) (h_b : σ b = some (.inl (y 0, bn, .inl bf))) (i : Int) (ri : rng i) (l_i : 0 ≤ i) (u_i : i ≤ 4000) (pl : Int) (rpl : rng pl) (hy0 : wf bf i (i + mS bf i)) (hy1 : 1 ≤ mS bf i) (hy2 : 4 * (i + mS bf i) ≤ bn) (hy3 : bn ≤ 16000) : Met l yX11_byPlace wsX11_byPlace ({ frames := 2, cells := 0, slots := 0, locals := 53 }) (th_P G y b0 σ [.ref b, .int (I i), .int (I pl)]) (th_Qi G b0 (fun r σ1 => σ1 = σ ∧ (r = -1 ∨ (kid bf i r ∧ i < r ∧ r < i + mS bf i)))) 0 0 (th_A b0) := by
  refine Met.ofW (cc := cX11_byPlace) (maxL := 5) (ret := (some .int)) (by decide) rfl ?_
  intro p e s m args below meth c s₁ B hml hv
  obtain ⟨rfl, hH, hK⟩ := hv
  have hx := B.exec
  have hb := B.bytes
  have hr := B.returns
  have hts := atoms_spec (ws := wsX11_byPlace) B.pre
  have hown : s.vm.findClass RX11 = some m.cls := findClass_of_methodNamed B.named
  have hlocks := B.notSynchronized
  have h00 : b0 ≤ s.heap.size := hH.1
  have hS : va_S (th_A b0) s.heap s.heap [] := va_S.rf
  have hl := lv_entry ([.ref b, .int (I i), .int (I pl)]) (n := 5) (Nat.le_of_ble_eq_true rfl)
  rw [lg_entry_eq]
  generalize (lg_sl ([.ref b, .int (I i), .int (I pl)]) ++ List.replicate (5 - (lg_sl ([.ref b, .int (I i), .int (I pl)])).length) Slot.unset).toArray = ls at hl ⊢
  have hl : lv_has ls 5 [(0, .ref b), (1, .int (I i)), (2, .int (I pl))] := hl
  refine lv_aload_n hx hb dX11_byPlace_0 rfl (lv_at hl 0 rfl) ?_
  refine lv_iload_n hx hb dX11_byPlace_1 rfl (lv_at hl 1 rfl) ?_
  refine th_calli (va_runS (As := [.ref b, .int (I i)]) (rest := []) ⟨hx, hb, hml, hown, hts⟩ (w_many l G y b0 σ E hO b bn bf h_b i (show rng i from ri) (by omega) (by omega) (by first | exact hy0 | exact (hy0).sub (by omega) (by omega)) (by omega) (by omega) (by omega)) (va_cwS 2 hts gX11_byPlace_X11_many rfl rfl rfl (by decide +kernel) ⟨Nat.le_of_ble_eq_true rfl, Nat.le_of_ble_eq_true rfl⟩) (th_PS hK hH) rfl rfl hl.1 rfl (lv_room (Nat.le_of_ble_eq_true rfl)) dX11_byPlace_2 ⟨Nat.le_of_ble_eq_true rfl, Nat.le_of_ble_eq_true rfl⟩) hS (fun z_3 σ_s_2 H locs rz_3 hw_1 hH hS => ?_)
  obtain ⟨e9, hw_1⟩ := hw_1
  replace e9 := e9.symm
  subst e9
  have hw_1 : chn bf (i + 1) z_3 (i + mS bf i) ∧ 0 ≤ z_3 ∧ z_3 < mS bf i := hw_1
  refine lv_istore_n (lv' := [(3, .int (I z_3)), (0, .ref b), (1, .int (I i)), (2, .int (I pl))]) hx hb dX11_byPlace_5 rfl hl (by decide) rfl (fun ls hl => ?_)
  refine lv_iload_n hx hb dX11_byPlace_6 rfl (lv_at hl 3 rfl) ?_
  refine lv_if_ge (tgt := 16) hx hb dX11_byPlace_7 (by decide) (fun c_4 => ?_) (fun c_4 => ?_)
  · replace c_4 := (I_le (a := 0) (b := pl) (show rng 0 from ⟨by decide, by decide⟩) rpl).mp c_4
    refine lv_iload_n hx hb dX11_byPlace_16 rfl (lv_at hl 3 rfl) ?_
    refine lv_istore (lv' := [(4, .int (I pl)), (3, .int (I z_3)), (0, .ref b), (1, .int (I i)), (2, .int (I pl))]) hx hb dX11_byPlace_17 hl (by decide) rfl (fun ls hl => ?_)
    refine lv_iload hx hb dX11_byPlace_19 (lv_at hl 0 rfl) ?_
    refine lv_if_lt (tgt := 40) hx hb dX11_byPlace_21 (by decide) (fun c_5 => ?_) (fun c_5 => ?_)
    · replace c_5 := (I_lt (a := pl) (b := 0) rpl (show rng 0 from ⟨by decide, by decide⟩)).mp c_5
      refine lv_iconst (v := I (-1)) hx hb dX11_byPlace_40 (by decide) ?_
      exact th_iret hx hb hr hlocks hH hS (z := (-1)) (show rng (-1) from ⟨by decide, by decide⟩) ⟨rfl, Or.inl rfl⟩ dX11_byPlace_41
    · replace c_5 := mt (I_lt (a := pl) (b := 0) rpl (show rng 0 from ⟨by decide, by decide⟩)).mpr c_5
      refine lv_iload hx hb dX11_byPlace_24 (lv_at hl 0 rfl) ?_
      refine lv_iload_n hx hb dX11_byPlace_26 rfl (lv_at hl 1 rfl) ?_
      refine lv_icmp_ge (tgt := 40) hx hb dX11_byPlace_27 (by decide) (fun c_6 => ?_) (fun c_6 => ?_)
      · replace c_6 := (I_le (a := z_3) (b := pl) rz_3 rpl).mp c_6
        refine lv_iconst (v := I (-1)) hx hb dX11_byPlace_40 (by decide) ?_
        exact th_iret hx hb hr hlocks hH hS (z := (-1)) (show rng (-1) from ⟨by decide, by decide⟩) ⟨rfl, Or.inl rfl⟩ dX11_byPlace_41
      · replace c_6 := mt (I_le (a := z_3) (b := pl) rz_3 rpl).mpr c_6
        refine lv_aload_n hx hb dX11_byPlace_30 rfl (lv_at hl 2 rfl) ?_
        refine lv_iload_n hx hb dX11_byPlace_31 rfl (lv_at hl 3 rfl) ?_
        refine lv_iload hx hb dX11_byPlace_32 (lv_at hl 0 rfl) ?_
        refine th_calli (va_runS (As := [.ref b, .int (I i), .int (I pl)]) (rest := []) ⟨hx, hb, hml, hown, hts⟩ (w_nth l G y b0 σ E hO b bn bf h_b i (show rng i from ri) (by omega) (by omega) pl (show rng pl from rpl) (by first | exact hy0 | exact (hy0).sub (by omega) (by omega)) (by omega) (by omega) (by omega) (jin.mk1 (by omega) hw_1.1 (by omega))) (va_cwS 3 hts gX11_byPlace_X11_nth rfl rfl rfl (by decide +kernel) ⟨Nat.le_of_ble_eq_true rfl, Nat.le_of_ble_eq_true rfl⟩) (th_PS hK hH) rfl rfl hl.1 rfl (lv_room (Nat.le_of_ble_eq_true rfl)) dX11_byPlace_34 ⟨Nat.le_of_ble_eq_true rfl, Nat.le_of_ble_eq_true rfl⟩) hS (fun z_9 σ_s_8 H locs rz_9 hw_7 hH hS => ?_)
        obtain ⟨e9, hw_7⟩ := hw_7
        replace e9 := e9.symm
        subst e9
        have hw_7 : chn bf (i + 1) pl z_9 ∧ kid bf i z_9 := hw_7
        refine lv_goto (tgt := 41) hx hb dX11_byPlace_37 (by decide) ?_
        exact th_iret hx hb hr hlocks hH hS (z := z_9) rz_9 ⟨rfl, Or.inr ⟨hw_7.2, hw_7.2.1, hw_7.2.2.1⟩⟩ dX11_byPlace_41
  · replace c_4 := mt (I_le (a := 0) (b := pl) (show rng 0 from ⟨by decide, by decide⟩) rpl).mpr c_4
    refine lv_iload_n hx hb dX11_byPlace_10 rfl (lv_at hl 3 rfl) ?_
    refine lv_iload_n hx hb dX11_byPlace_11 rfl (lv_at hl 0 rfl) ?_
    refine lv_iadd hx hb dX11_byPlace_12 ?_
    refine th_addo (fun z_10 rz_10 hz_10 => ?_)
    refine lv_goto (tgt := 17) hx hb dX11_byPlace_13 (by decide) ?_
    refine lv_istore (lv' := [(4, .int (I z_10)), (3, .int (I z_3)), (0, .ref b), (1, .int (I i)), (2, .int (I pl))]) hx hb dX11_byPlace_17 hl (by decide) rfl (fun ls hl => ?_)
    refine lv_iload hx hb dX11_byPlace_19 (lv_at hl 0 rfl) ?_
    refine lv_if_lt (tgt := 40) hx hb dX11_byPlace_21 (by decide) (fun c_11 => ?_) (fun c_11 => ?_)
    · replace c_11 := (I_lt (a := z_10) (b := 0) rz_10 (show rng 0 from ⟨by decide, by decide⟩)).mp c_11
      refine lv_iconst (v := I (-1)) hx hb dX11_byPlace_40 (by decide) ?_
      exact th_iret hx hb hr hlocks hH hS (z := (-1)) (show rng (-1) from ⟨by decide, by decide⟩) ⟨rfl, Or.inl rfl⟩ dX11_byPlace_41
    · replace c_11 := mt (I_lt (a := z_10) (b := 0) rz_10 (show rng 0 from ⟨by decide, by decide⟩)).mpr c_11
      refine lv_iload hx hb dX11_byPlace_24 (lv_at hl 0 rfl) ?_
      refine lv_iload_n hx hb dX11_byPlace_26 rfl (lv_at hl 1 rfl) ?_
      refine lv_icmp_ge (tgt := 40) hx hb dX11_byPlace_27 (by decide) (fun c_12 => ?_) (fun c_12 => ?_)
      · replace c_12 := (I_le (a := z_3) (b := z_10) rz_3 rz_10).mp c_12
        refine lv_iconst (v := I (-1)) hx hb dX11_byPlace_40 (by decide) ?_
        exact th_iret hx hb hr hlocks hH hS (z := (-1)) (show rng (-1) from ⟨by decide, by decide⟩) ⟨rfl, Or.inl rfl⟩ dX11_byPlace_41
      · replace c_12 := mt (I_le (a := z_3) (b := z_10) rz_3 rz_10).mpr c_12
        refine lv_aload_n hx hb dX11_byPlace_30 rfl (lv_at hl 2 rfl) ?_
        refine lv_iload_n hx hb dX11_byPlace_31 rfl (lv_at hl 3 rfl) ?_
        refine lv_iload hx hb dX11_byPlace_32 (lv_at hl 0 rfl) ?_
        refine th_calli (va_runS (As := [.ref b, .int (I i), .int (I z_10)]) (rest := []) ⟨hx, hb, hml, hown, hts⟩ (w_nth l G y b0 σ E hO b bn bf h_b i (show rng i from ri) (by omega) (by omega) z_10 (show rng z_10 from rz_10) (by first | exact hy0 | exact (hy0).sub (by omega) (by omega)) (by omega) (by omega) (by omega) (jin.mk1 (by omega) hw_1.1 (by omega))) (va_cwS 3 hts gX11_byPlace_X11_nth rfl rfl rfl (by decide +kernel) ⟨Nat.le_of_ble_eq_true rfl, Nat.le_of_ble_eq_true rfl⟩) (th_PS hK hH) rfl rfl hl.1 rfl (lv_room (Nat.le_of_ble_eq_true rfl)) dX11_byPlace_34 ⟨Nat.le_of_ble_eq_true rfl, Nat.le_of_ble_eq_true rfl⟩) hS (fun z_15 σ_s_14 H locs rz_15 hw_13 hH hS => ?_)
        obtain ⟨e9, hw_13⟩ := hw_13
        replace e9 := e9.symm
        subst e9
        have hw_13 : chn bf (i + 1) z_10 z_15 ∧ kid bf i z_15 := hw_13
        refine lv_goto (tgt := 41) hx hb dX11_byPlace_37 (by decide) ?_
        exact th_iret hx hb hr hlocks hH hS (z := z_15) rz_15 ⟨rfl, Or.inr ⟨hw_13.2, hw_13.2.1, hw_13.2.2.1⟩⟩ dX11_byPlace_41
