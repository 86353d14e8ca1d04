set_option maxHeartbeats 20000000 in
set_option maxRecDepth 100000 in
theorem n9_lettersOf (l : Launch) (G : va_G) (y : Nat → ClassId) (b0 : Nat) (σ : th_M) (E : th_E) (hO : ok y E σ) (w : Int) (rw : rng w) : Met l yX11_lettersOf wsX11_lettersOf ({ frames := 0, cells := 0, slots := 0, locals := 0 }) (th_P G y b0 σ [.int (I w)]) (th_Qi G b0 (fun r σ1 => σ1 = σ ∧ ((0 ≤ r ∧ r ≤ 7) ∧ (r ≤ 6 → w < 1073741824) ∧ (¬ r ≤ 6 → 1073741824 ≤ w)))) 0 0 (th_A b0) := by
  refine Met.ofW (cc := cX11_lettersOf) (maxL := 3) (ret := (some .int)) (by decide) rfl ?_
  intro p e s m args below meth c s₁ B hml hv
  obtain ⟨rfl, hH, hK⟩ := hv
  have hx := B.exec
  have hb := B.bytes
  have hr := B.returns
  have hts := atoms_spec (ws := wsX11_lettersOf) B.pre
  have hown : s.vm.findClass RX11 = some m.cls := findClass_of_methodNamed B.named
  have hlocks := B.notSynchronized
  have h00 : b0 ≤ s.heap.size := hH.1
  have hS : va_S (th_A b0) s.heap s.heap [] := va_S.rf
  have hl := lv_entry ([.int (I w)]) (n := 3) (Nat.le_of_ble_eq_true rfl)
  rw [lg_entry_eq]
  generalize (lg_sl ([.int (I w)]) ++ List.replicate (3 - (lg_sl ([.int (I w)])).length) Slot.unset).toArray = ls at hl ⊢
  have hl : lv_has ls 3 [(0, .int (I w))] := hl
  refine lv_iconst (v := I 0) hx hb dX11_lettersOf_0 (by decide) ?_
  refine lv_istore_n (lv' := [(1, .int (I 0)), (0, .int (I w))]) hx hb dX11_lettersOf_1 rfl hl (by decide) rfl (fun ls hl => ?_)
  refine lv_iload_n hx hb dX11_lettersOf_2 rfl (lv_at hl 1 rfl) ?_
  refine lv_istore_n (lv' := [(2, .int (I w)), (1, .int (I 0)), (0, .int (I w))]) hx hb dX11_lettersOf_3 rfl hl (by decide) rfl (fun ls hl => ?_)
  replace hl : lv_has ls 3 [(2, .int (I w)), (1, .int (I 0))] := lv_sub hl [0, 1] rfl
  refine th_loop (α := Int × Int) (pc := 4) (fun x9 => (x9.2).toNat) (fun x9 σ9 H9 l9 ls9 => σ9 = σ ∧ th_H G b0 σ9 H9 ∧ va_S (th_A b0) s.heap H9 l9 ∧ lv_has ls9 3 [(1, .int (I x9.1)), (2, .int (I x9.2))] ∧ rng x9.1 ∧ rng x9.2 ∧ (0 ≤ x9.1) ∧ (x9.1 ≤ 7) ∧ ((x9.1 = 0 ∧ x9.2 ≤ 2147483647) ∨ (x9.1 = 1 ∧ x9.2 ≤ 67108863) ∨ (x9.1 = 2 ∧ x9.2 ≤ 2097151) ∨ (x9.1 = 3 ∧ x9.2 ≤ 65535) ∨ (x9.1 = 4 ∧ x9.2 ≤ 2047) ∨ (x9.1 = 5 ∧ x9.2 ≤ 63) ∨ (x9.1 = 6 ∧ x9.2 ≤ 1) ∨ (x9.1 = 7 ∧ x9.2 ≤ 0)) ∧ (lto w x9.2 x9.1)) ?_ (0, w) σ _ _ _ ⟨rfl, hH, hS, lv_sub hl [1, 0] rfl, (show rng 0 from ⟨by decide, by decide⟩), rw, by first | (dsimp only; omega) | omega, by first | (dsimp only; omega) | omega, by first | (dsimp only; omega) | omega, lto.start⟩
  intro x9 σ_J_5 H locs ls hI9 ihJ_5
  obtain ⟨v1q4, v2q4⟩ := x9
  obtain ⟨eJ_5, hH, hS, hl, rv1q4, rv2q4, J_5_0, J_5_1, J_5_2, J_5_3⟩ := hI9
  replace eJ_5 := eJ_5.symm
  subst eJ_5
  have hl : lv_has ls 3 [(1, .int (I v1q4)), (2, .int (I v2q4))] := hl
  have rv1q4 : rng v1q4 := rv1q4
  have rv2q4 : rng v2q4 := rv2q4
  replace J_5_0 : 0 ≤ v1q4 := J_5_0
  replace J_5_1 : v1q4 ≤ 7 := J_5_1
  replace J_5_2 : (v1q4 = 0 ∧ v2q4 ≤ 2147483647) ∨ (v1q4 = 1 ∧ v2q4 ≤ 67108863) ∨ (v1q4 = 2 ∧ v2q4 ≤ 2097151) ∨ (v1q4 = 3 ∧ v2q4 ≤ 65535) ∨ (v1q4 = 4 ∧ v2q4 ≤ 2047) ∨ (v1q4 = 5 ∧ v2q4 ≤ 63) ∨ (v1q4 = 6 ∧ v2q4 ≤ 1) ∨ (v1q4 = 7 ∧ v2q4 ≤ 0) := J_5_2
  replace J_5_3 : lto w v2q4 v1q4 := J_5_3
  refine lv_iload_n hx hb dX11_lettersOf_4 rfl (lv_at hl 1 rfl) ?_
  refine lv_if_le (tgt := 19) hx hb dX11_lettersOf_5 (by decide) (fun c_6 => ?_) (fun c_6 => ?_)
  · replace c_6 := (I_le (a := v2q4) (b := 0) rv2q4 (show rng 0 from ⟨by decide, by decide⟩)).mp c_6
    refine lv_iload_n hx hb dX11_lettersOf_19 rfl (lv_at hl 0 rfl) ?_
    exact th_iret hx hb hr hlocks hH hS (z := v1q4) rv1q4 ⟨rfl, ⟨by omega, lto.fin J_5_3 (by omega)⟩⟩ dX11_lettersOf_20
  · replace c_6 := mt (I_le (a := v2q4) (b := 0) rv2q4 (show rng 0 from ⟨by decide, by decide⟩)).mpr c_6
    refine lv_iinc (v := I (v1q4 + 1)) (lv' := [(1, .int (I (v1q4 + 1))), (2, .int (I v2q4))]) hx hb dX11_lettersOf_8 hl (k := 0) rfl (I_add _ _) (by decide) rfl (fun ls hl => ?_)
    refine lv_iload_n hx hb dX11_lettersOf_11 rfl (lv_at hl 1 rfl) ?_
    refine lv_bipush (v := I 32) hx hb dX11_lettersOf_12 (by decide) ?_
    refine lv_idiv hx hb dX11_lettersOf_14 (by decide) ?_
    refine th_div (n := 32) rv2q4 (by omega) (by decide) (fun z_7 rz_7 hz_7 => ?_)
    refine lv_istore_n (lv' := [(2, .int (I z_7)), (1, .int (I (v1q4 + 1)))]) hx hb dX11_lettersOf_15 rfl hl (by decide) rfl (fun ls hl => ?_)
    refine lv_goto (tgt := 4) hx hb dX11_lettersOf_16 (by decide) ?_
    exact ihJ_5 (v1q4 + 1, z_7) σ _ _ _ (by first | (dsimp only; omega) | omega) ⟨rfl, hH, hS, lv_sub hl [1, 0] rfl, ⟨by first | (dsimp only; omega) | omega, by first | (dsimp only; omega) | omega⟩, rz_7, by first | (dsimp only; omega) | omega, by first | (dsimp only; omega) | omega, by first | (dsimp only; omega) | omega, (lto.step J_5_3 (by omega) (by have := rw; have := this.2; omega) (by first | (dsimp only; omega) | omega) (by first | (dsimp only; omega) | omega))⟩

set_option maxHeartbeats 20000000 in
set_option maxRecDepth 100000 in
theorem n9_isKey (l : Launch) (G : va_G) (y : Nat → ClassId) (b0 : Nat) (σ : th_M) (E : th_E) (hO : ok y E σ) (ky : Int) (rky : rng ky) : Met l yX11_isKey wsX11_isKey ({ frames := 1, cells := 0, slots := 0, locals := 26 }) (th_P G y b0 σ [.int (I ky)]) (th_Qi G b0 (fun r σ1 => σ1 = σ ∧ (0 ≤ r ∧ r ≤ 1) ∧ ((r = 1 ∧ isW ky) ∨ (r = 0 ∧ ¬ isW ky)))) 0 0 (th_A b0) := by
  refine Met.ofW (cc := cX11_isKey) (maxL := 3) (ret := (some .boolean)) (by decide) rfl ?_
  intro p e s m args below meth c s₁ B hml hv
  obtain ⟨rfl, hH, hK⟩ := hv
  have hx := B.exec
  have hb := B.bytes
  have hr := B.returns
  have hts := atoms_spec (ws := wsX11_isKey) B.pre
  have hown : s.vm.findClass RX11 = some m.cls := findClass_of_methodNamed B.named
  have hlocks := B.notSynchronized
  have h00 : b0 ≤ s.heap.size := hH.1
  have hS : va_S (th_A b0) s.heap s.heap [] := va_S.rf
  have hl := lv_entry ([.int (I ky)]) (n := 3) (Nat.le_of_ble_eq_true rfl)
  rw [lg_entry_eq]
  generalize (lg_sl ([.int (I ky)]) ++ List.replicate (3 - (lg_sl ([.int (I ky)])).length) Slot.unset).toArray = ls at hl ⊢
  have hl : lv_has ls 3 [(0, .int (I ky))] := hl
  refine lv_iload_n hx hb dX11_isKey_0 rfl (lv_at hl 0 rfl) ?_
  refine lv_if_le (tgt := 17) hx hb dX11_isKey_1 (by decide) (fun c_1 => ?_) (fun c_1 => ?_)
  · replace c_1 := (I_le (a := ky) (b := 0) rky (show rng 0 from ⟨by decide, by decide⟩)).mp c_1
    refine lv_iconst (v := I 0) hx hb dX11_isKey_17 (by decide) ?_
    refine lv_istore_n (lv' := [(1, .int (I 0)), (0, .int (I ky))]) hx hb dX11_isKey_18 rfl hl (by decide) rfl (fun ls hl => ?_)
    refine lv_iload_n hx hb dX11_isKey_19 rfl (lv_at hl 1 rfl) ?_
    refine lv_istore_n (lv' := [(2, .int (I ky)), (1, .int (I 0)), (0, .int (I ky))]) hx hb dX11_isKey_20 rfl hl (by decide) rfl (fun ls hl => ?_)
    replace hl : lv_has ls 3 [(2, .int (I ky)), (1, .int (I 0))] := lv_sub hl [0, 1] rfl
    refine th_loop (α := Int × Int) (pc := 21) (fun x9 => (x9.2).toNat) (fun x9 σ9 H9 l9 ls9 => σ9 = σ ∧ th_H G b0 σ9 H9 ∧ va_S (th_A b0) s.heap H9 l9 ∧ lv_has ls9 3 [(1, .int (I x9.1)), (2, .int (I x9.2))] ∧ rng x9.1 ∧ rng x9.2 ∧ (0 ≤ x9.1) ∧ (x9.1 ≤ 1) ∧ (-2147483648 ≤ x9.2) ∧ (ki ky x9.2 x9.1)) ?_ (0, ky) σ _ _ _ ⟨rfl, hH, hS, lv_sub hl [1, 0] rfl, (show rng 0 from ⟨by decide, by decide⟩), rky, by first | (dsimp only; omega) | omega, by first | (dsimp only; omega) | omega, by first | (dsimp only; omega) | omega, (ki.no (by omega))⟩
    intro x9 σ_J_11 H locs ls hI9 ihJ_11
    obtain ⟨v1q10, v2q10⟩ := x9
    obtain ⟨eJ_11, hH, hS, hl, rv1q10, rv2q10, J_11_0, J_11_1, J_11_2, J_11_3⟩ := hI9
    replace eJ_11 := eJ_11.symm
    subst eJ_11
    have hl : lv_has ls 3 [(1, .int (I v1q10)), (2, .int (I v2q10))] := hl
    have rv1q10 : rng v1q10 := rv1q10
    have rv2q10 : rng v2q10 := rv2q10
    replace J_11_0 : 0 ≤ v1q10 := J_11_0
    replace J_11_1 : v1q10 ≤ 1 := J_11_1
    replace J_11_2 : -2147483648 ≤ v2q10 := J_11_2
    replace J_11_3 : ki ky v2q10 v1q10 := J_11_3
    refine lv_iload_n hx hb dX11_isKey_21 rfl (lv_at hl 1 rfl) ?_
    refine lv_if_le (tgt := 48) hx hb dX11_isKey_22 (by decide) (fun c_12 => ?_) (fun c_12 => ?_)
    · replace c_12 := (I_le (a := v2q10) (b := 0) rv2q10 (show rng 0 from ⟨by decide, by decide⟩)).mp c_12
      refine lv_iload_n hx hb dX11_isKey_48 rfl (lv_at hl 0 rfl) ?_
      exact th_zret hx hb hr hlocks hH hS (z := v1q10) (by omega) ⟨rfl, ⟨by omega, by omega⟩, (ki.fin J_11_3 (by omega))⟩ dX11_isKey_49
    · replace c_12 := mt (I_le (a := v2q10) (b := 0) rv2q10 (show rng 0 from ⟨by decide, by decide⟩)).mpr c_12
      refine lv_iload_n hx hb dX11_isKey_25 rfl (lv_at hl 0 rfl) ?_
      refine lv_if_eq (tgt := 48) hx hb dX11_isKey_26 (by decide) (fun c_13 => ?_) (fun c_13 => ?_)
      · replace c_13 := (I_eq (a := v1q10) (b := 0) rv1q10 (show rng 0 from ⟨by decide, by decide⟩)).mp c_13
        refine lv_iload_n hx hb dX11_isKey_48 rfl (lv_at hl 0 rfl) ?_
        exact th_zret hx hb hr hlocks hH hS (z := v1q10) (by omega) ⟨rfl, ⟨by omega, by omega⟩, (ki.fin J_11_3 (by omega))⟩ dX11_isKey_49
      · replace c_13 := mt (I_eq (a := v1q10) (b := 0) rv1q10 (show rng 0 from ⟨by decide, by decide⟩)).mpr c_13
        refine lv_iload_n hx hb dX11_isKey_29 rfl (lv_at hl 1 rfl) ?_
        refine lv_bipush (v := I 32) hx hb dX11_isKey_30 (by decide) ?_
        refine lv_irem hx hb dX11_isKey_32 (I_ne0 (show rng 32 from ⟨by decide, by decide⟩) (by omega)) ?_
        refine th_rem32 rv2q10 (by omega) (fun z_14 rz_14 hz_14 => ?_)
        refine lv_iconst (v := I 1) hx hb dX11_isKey_33 (by decide) ?_
        refine lv_bipush (v := I 26) hx hb dX11_isKey_34 (by decide) ?_
        refine th_calli (va_runS (As := [.int (I z_14), .int (I 1), .int (I 26)]) (rest := []) ⟨hx, hb, hml, hown, hts⟩ (w_isIn l G y b0 σ E hO z_14 (show rng z_14 from rz_14) 1 (show rng 1 from (show rng 1 from ⟨by decide, by decide⟩)) 26 (show rng 26 from (show rng 26 from ⟨by decide, by decide⟩))) (va_cwS 3 hts gX11_isKey_X11_isIn rfl rfl rfl (by decide +kernel) ⟨Nat.le_of_ble_eq_true rfl, Nat.le_of_ble_eq_true rfl⟩) (th_PS hK hH) rfl rfl hl.1 rfl (lv_room (Nat.le_of_ble_eq_true rfl)) dX11_isKey_36 ⟨Nat.le_of_ble_eq_true rfl, Nat.le_of_ble_eq_true rfl⟩) hS (fun z_17 σ_s_16 H locs rz_17 hw_15 hH hS => ?_)
        obtain ⟨e9, bhw_15, hw_15⟩ := hw_15
        replace e9 := e9.symm
        subst e9
        replace hw_15 : (z_17 = 1 ∧ 1 ≤ z_14 ∧ z_14 ≤ 26) ∨ (z_17 = 0 ∧ ¬ (1 ≤ z_14 ∧ z_14 ≤ 26)) := hw_15
        refine lv_istore_n (lv' := [(1, .int (I z_17)), (2, .int (I v2q10))]) hx hb dX11_isKey_39 rfl hl (by decide) rfl (fun ls hl => ?_)
        refine lv_iload_n hx hb dX11_isKey_40 rfl (lv_at hl 1 rfl) ?_
        refine lv_bipush (v := I 32) hx hb dX11_isKey_41 (by decide) ?_
        refine lv_idiv hx hb dX11_isKey_43 (by decide) ?_
        refine th_div (n := 32) rv2q10 (by omega) (by decide) (fun z_18 rz_18 hz_18 => ?_)
        refine lv_istore_n (lv' := [(2, .int (I z_18)), (1, .int (I z_17))]) hx hb dX11_isKey_44 rfl hl (by decide) rfl (fun ls hl => ?_)
        refine lv_goto (tgt := 21) hx hb dX11_isKey_45 (by decide) ?_
        exact ihJ_11 (z_17, z_18) σ _ _ _ (by first | (dsimp only; omega) | omega) ⟨rfl, hH, hS, lv_sub hl [1, 0] rfl, rz_17, rz_18, by first | (dsimp only; omega) | omega, by first | (dsimp only; omega) | omega, by first | (dsimp only; omega) | omega, (ki.step (z := z_14) J_11_3 (by omega) (by omega) (by omega) (by first | (dsimp only; omega) | omega) hw_15)⟩
  · replace c_1 := mt (I_le (a := ky) (b := 0) rky (show rng 0 from ⟨by decide, by decide⟩)).mpr c_1
    refine lv_iload_n hx hb dX11_isKey_4 rfl (lv_at hl 0 rfl) ?_
    refine th_calli (va_runS (As := [.int (I ky)]) (rest := []) ⟨hx, hb, hml, hown, hts⟩ (n9_lettersOf l G y b0 σ E hO ky (show rng ky from rky)) (va_cwS 1 hts gX11_isKey_X11_lettersOf rfl rfl rfl (by decide +kernel) ⟨Nat.le_of_ble_eq_true rfl, Nat.le_of_ble_eq_true rfl⟩) (th_PS hK hH) rfl rfl hl.1 rfl (lv_room (Nat.le_of_ble_eq_true rfl)) dX11_isKey_5 ⟨Nat.le_of_ble_eq_true rfl, Nat.le_of_ble_eq_true rfl⟩) hS (fun z_21 σ_s_20 H locs rz_21 hw_19 hH hS => ?_)
    obtain ⟨e9, hw_19⟩ := hw_19
    replace e9 := e9.symm
    subst e9
    replace hw_19 : (0 ≤ z_21 ∧ z_21 ≤ 7) ∧ (z_21 ≤ 6 → ky < 1073741824) ∧ (¬ z_21 ≤ 6 → 1073741824 ≤ ky) := hw_19
    refine lv_bipush (v := I 6) hx hb dX11_isKey_8 (by decide) ?_
    refine lv_icmp_gt (tgt := 17) hx hb dX11_isKey_10 (by decide) (fun c_22 => ?_) (fun c_22 => ?_)
    · replace c_22 := (I_lt (a := 6) (b := z_21) (show rng 6 from ⟨by decide, by decide⟩) rz_21).mp c_22
      refine lv_iconst (v := I 0) hx hb dX11_isKey_17 (by decide) ?_
      refine lv_istore_n (lv' := [(1, .int (I 0)), (0, .int (I ky))]) hx hb dX11_isKey_18 rfl hl (by decide) rfl (fun ls hl => ?_)
      refine lv_iload_n hx hb dX11_isKey_19 rfl (lv_at hl 1 rfl) ?_
      refine lv_istore_n (lv' := [(2, .int (I ky)), (1, .int (I 0)), (0, .int (I ky))]) hx hb dX11_isKey_20 rfl hl (by decide) rfl (fun ls hl => ?_)
      replace hl : lv_has ls 3 [(2, .int (I ky)), (1, .int (I 0))] := lv_sub hl [0, 1] rfl
      refine th_loop (α := Int × Int) (pc := 21) (fun x9 => (x9.2).toNat) (fun x9 σ9 H9 l9 ls9 => σ9 = σ ∧ th_H G b0 σ9 H9 ∧ va_S (th_A b0) s.heap H9 l9 ∧ lv_has ls9 3 [(1, .int (I x9.1)), (2, .int (I x9.2))] ∧ rng x9.1 ∧ rng x9.2 ∧ (0 ≤ x9.1) ∧ (x9.1 ≤ 1) ∧ (-2147483648 ≤ x9.2) ∧ (ki ky x9.2 x9.1)) ?_ (0, ky) σ _ _ _ ⟨rfl, hH, hS, lv_sub hl [1, 0] rfl, (show rng 0 from ⟨by decide, by decide⟩), rky, by first | (dsimp only; omega) | omega, by first | (dsimp only; omega) | omega, by first | (dsimp only; omega) | omega, (ki.no (by omega))⟩
      intro x9 σ_J_24 H locs ls hI9 ihJ_24
      obtain ⟨v1q23, v2q23⟩ := x9
      obtain ⟨eJ_24, hH, hS, hl, rv1q23, rv2q23, J_24_0, J_24_1, J_24_2, J_24_3⟩ := hI9
      replace eJ_24 := eJ_24.symm
      subst eJ_24
      have hl : lv_has ls 3 [(1, .int (I v1q23)), (2, .int (I v2q23))] := hl
      have rv1q23 : rng v1q23 := rv1q23
      have rv2q23 : rng v2q23 := rv2q23
      replace J_24_0 : 0 ≤ v1q23 := J_24_0
      replace J_24_1 : v1q23 ≤ 1 := J_24_1
      replace J_24_2 : -2147483648 ≤ v2q23 := J_24_2
      replace J_24_3 : ki ky v2q23 v1q23 := J_24_3
      refine lv_iload_n hx hb dX11_isKey_21 rfl (lv_at hl 1 rfl) ?_
      refine lv_if_le (tgt := 48) hx hb dX11_isKey_22 (by decide) (fun c_25 => ?_) (fun c_25 => ?_)
      · replace c_25 := (I_le (a := v2q23) (b := 0) rv2q23 (show rng 0 from ⟨by decide, by decide⟩)).mp c_25
        refine lv_iload_n hx hb dX11_isKey_48 rfl (lv_at hl 0 rfl) ?_
        exact th_zret hx hb hr hlocks hH hS (z := v1q23) (by omega) ⟨rfl, ⟨by omega, by omega⟩, (ki.fin J_24_3 (by omega))⟩ dX11_isKey_49
      · replace c_25 := mt (I_le (a := v2q23) (b := 0) rv2q23 (show rng 0 from ⟨by decide, by decide⟩)).mpr c_25
        refine lv_iload_n hx hb dX11_isKey_25 rfl (lv_at hl 0 rfl) ?_
        refine lv_if_eq (tgt := 48) hx hb dX11_isKey_26 (by decide) (fun c_26 => ?_) (fun c_26 => ?_)
        · replace c_26 := (I_eq (a := v1q23) (b := 0) rv1q23 (show rng 0 from ⟨by decide, by decide⟩)).mp c_26
          refine lv_iload_n hx hb dX11_isKey_48 rfl (lv_at hl 0 rfl) ?_
          exact th_zret hx hb hr hlocks hH hS (z := v1q23) (by omega) ⟨rfl, ⟨by omega, by omega⟩, (ki.fin J_24_3 (by omega))⟩ dX11_isKey_49
        · replace c_26 := mt (I_eq (a := v1q23) (b := 0) rv1q23 (show rng 0 from ⟨by decide, by decide⟩)).mpr c_26
          refine lv_iload_n hx hb dX11_isKey_29 rfl (lv_at hl 1 rfl) ?_
          refine lv_bipush (v := I 32) hx hb dX11_isKey_30 (by decide) ?_
          refine lv_irem hx hb dX11_isKey_32 (I_ne0 (show rng 32 from ⟨by decide, by decide⟩) (by omega)) ?_
          refine th_rem32 rv2q23 (by omega) (fun z_27 rz_27 hz_27 => ?_)
          refine lv_iconst (v := I 1) hx hb dX11_isKey_33 (by decide) ?_
          refine lv_bipush (v := I 26) hx hb dX11_isKey_34 (by decide) ?_
          refine th_calli (va_runS (As := [.int (I z_27), .int (I 1), .int (I 26)]) (rest := []) ⟨hx, hb, hml, hown, hts⟩ (w_isIn l G y b0 σ E hO z_27 (show rng z_27 from rz_27) 1 (show rng 1 from (show rng 1 from ⟨by decide, by decide⟩)) 26 (show rng 26 from (show rng 26 from ⟨by decide, by decide⟩))) (va_cwS 3 hts gX11_isKey_X11_isIn rfl rfl rfl (by decide +kernel) ⟨Nat.le_of_ble_eq_true rfl, Nat.le_of_ble_eq_true rfl⟩) (th_PS hK hH) rfl rfl hl.1 rfl (lv_room (Nat.le_of_ble_eq_true rfl)) dX11_isKey_36 ⟨Nat.le_of_ble_eq_true rfl, Nat.le_of_ble_eq_true rfl⟩) hS (fun z_30 σ_s_29 H locs rz_30 hw_28 hH hS => ?_)
          obtain ⟨e9, bhw_28, hw_28⟩ := hw_28
          replace e9 := e9.symm
          subst e9
          replace hw_28 : (z_30 = 1 ∧ 1 ≤ z_27 ∧ z_27 ≤ 26) ∨ (z_30 = 0 ∧ ¬ (1 ≤ z_27 ∧ z_27 ≤ 26)) := hw_28
          refine lv_istore_n (lv' := [(1, .int (I z_30)), (2, .int (I v2q23))]) hx hb dX11_isKey_39 rfl hl (by decide) rfl (fun ls hl => ?_)
          refine lv_iload_n hx hb dX11_isKey_40 rfl (lv_at hl 1 rfl) ?_
          refine lv_bipush (v := I 32) hx hb dX11_isKey_41 (by decide) ?_
          refine lv_idiv hx hb dX11_isKey_43 (by decide) ?_
          refine th_div (n := 32) rv2q23 (by omega) (by decide) (fun z_31 rz_31 hz_31 => ?_)
          refine lv_istore_n (lv' := [(2, .int (I z_31)), (1, .int (I z_30))]) hx hb dX11_isKey_44 rfl hl (by decide) rfl (fun ls hl => ?_)
          refine lv_goto (tgt := 21) hx hb dX11_isKey_45 (by decide) ?_
          exact ihJ_24 (z_30, z_31) σ _ _ _ (by first | (dsimp only; omega) | omega) ⟨rfl, hH, hS, lv_sub hl [1, 0] rfl, rz_30, rz_31, by first | (dsimp only; omega) | omega, by first | (dsimp only; omega) | omega, by first | (dsimp only; omega) | omega, (ki.step (z := z_27) J_24_3 (by omega) (by omega) (by omega) (by first | (dsimp only; omega) | omega) hw_28)⟩
    · replace c_22 := mt (I_lt (a := 6) (b := z_21) (show rng 6 from ⟨by decide, by decide⟩) rz_21).mpr c_22
      refine lv_iconst (v := I 1) hx hb dX11_isKey_13 (by decide) ?_
      refine lv_goto (tgt := 18) hx hb dX11_isKey_14 (by decide) ?_
      refine lv_istore_n (lv' := [(1, .int (I 1)), (0, .int (I ky))]) hx hb dX11_isKey_18 rfl hl (by decide) rfl (fun ls hl => ?_)
      refine lv_iload_n hx hb dX11_isKey_19 rfl (lv_at hl 1 rfl) ?_
      refine lv_istore_n (lv' := [(2, .int (I ky)), (1, .int (I 1)), (0, .int (I ky))]) hx hb dX11_isKey_20 rfl hl (by decide) rfl (fun ls hl => ?_)
      replace hl : lv_has ls 3 [(2, .int (I ky)), (1, .int (I 1))] := lv_sub hl [0, 1] rfl
      refine th_loop (α := Int × Int) (pc := 21) (fun x9 => (x9.2).toNat) (fun x9 σ9 H9 l9 ls9 => σ9 = σ ∧ th_H G b0 σ9 H9 ∧ va_S (th_A b0) s.heap H9 l9 ∧ lv_has ls9 3 [(1, .int (I x9.1)), (2, .int (I x9.2))] ∧ rng x9.1 ∧ rng x9.2 ∧ (0 ≤ x9.1) ∧ (x9.1 ≤ 1) ∧ (-2147483648 ≤ x9.2) ∧ (ki ky x9.2 x9.1)) ?_ (1, ky) σ _ _ _ ⟨rfl, hH, hS, lv_sub hl [1, 0] rfl, (show rng 1 from ⟨by decide, by decide⟩), rky, by first | (dsimp only; omega) | omega, by first | (dsimp only; omega) | omega, by first | (dsimp only; omega) | omega, (ki.start (by omega) (by omega))⟩
      intro x9 σ_J_33 H locs ls hI9 ihJ_33
      obtain ⟨v1q32, v2q32⟩ := x9
      obtain ⟨eJ_33, hH, hS, hl, rv1q32, rv2q32, J_33_0, J_33_1, J_33_2, J_33_3⟩ := hI9
      replace eJ_33 := eJ_33.symm
      subst eJ_33
      have hl : lv_has ls 3 [(1, .int (I v1q32)), (2, .int (I v2q32))] := hl
      have rv1q32 : rng v1q32 := rv1q32
      have rv2q32 : rng v2q32 := rv2q32
      replace J_33_0 : 0 ≤ v1q32 := J_33_0
      replace J_33_1 : v1q32 ≤ 1 := J_33_1
      replace J_33_2 : -2147483648 ≤ v2q32 := J_33_2
      replace J_33_3 : ki ky v2q32 v1q32 := J_33_3
      refine lv_iload_n hx hb dX11_isKey_21 rfl (lv_at hl 1 rfl) ?_
      refine lv_if_le (tgt := 48) hx hb dX11_isKey_22 (by decide) (fun c_34 => ?_) (fun c_34 => ?_)
      · replace c_34 := (I_le (a := v2q32) (b := 0) rv2q32 (show rng 0 from ⟨by decide, by decide⟩)).mp c_34
        refine lv_iload_n hx hb dX11_isKey_48 rfl (lv_at hl 0 rfl) ?_
        exact th_zret hx hb hr hlocks hH hS (z := v1q32) (by omega) ⟨rfl, ⟨by omega, by omega⟩, (ki.fin J_33_3 (by omega))⟩ dX11_isKey_49
      · replace c_34 := mt (I_le (a := v2q32) (b := 0) rv2q32 (show rng 0 from ⟨by decide, by decide⟩)).mpr c_34
        refine lv_iload_n hx hb dX11_isKey_25 rfl (lv_at hl 0 rfl) ?_
        refine lv_if_eq (tgt := 48) hx hb dX11_isKey_26 (by decide) (fun c_35 => ?_) (fun c_35 => ?_)
        · replace c_35 := (I_eq (a := v1q32) (b := 0) rv1q32 (show rng 0 from ⟨by decide, by decide⟩)).mp c_35
          refine lv_iload_n hx hb dX11_isKey_48 rfl (lv_at hl 0 rfl) ?_
          exact th_zret hx hb hr hlocks hH hS (z := v1q32) (by omega) ⟨rfl, ⟨by omega, by omega⟩, (ki.fin J_33_3 (by omega))⟩ dX11_isKey_49
        · replace c_35 := mt (I_eq (a := v1q32) (b := 0) rv1q32 (show rng 0 from ⟨by decide, by decide⟩)).mpr c_35
          refine lv_iload_n hx hb dX11_isKey_29 rfl (lv_at hl 1 rfl) ?_
          refine lv_bipush (v := I 32) hx hb dX11_isKey_30 (by decide) ?_
          refine lv_irem hx hb dX11_isKey_32 (I_ne0 (show rng 32 from ⟨by decide, by decide⟩) (by omega)) ?_
          refine th_rem32 rv2q32 (by omega) (fun z_36 rz_36 hz_36 => ?_)
          refine lv_iconst (v := I 1) hx hb dX11_isKey_33 (by decide) ?_
          refine lv_bipush (v := I 26) hx hb dX11_isKey_34 (by decide) ?_
          refine th_calli (va_runS (As := [.int (I z_36), .int (I 1), .int (I 26)]) (rest := []) ⟨hx, hb, hml, hown, hts⟩ (w_isIn l G y b0 σ E hO z_36 (show rng z_36 from rz_36) 1 (show rng 1 from (show rng 1 from ⟨by decide, by decide⟩)) 26 (show rng 26 from (show rng 26 from ⟨by decide, by decide⟩))) (va_cwS 3 hts gX11_isKey_X11_isIn rfl rfl rfl (by decide +kernel) ⟨Nat.le_of_ble_eq_true rfl, Nat.le_of_ble_eq_true rfl⟩) (th_PS hK hH) rfl rfl hl.1 rfl (lv_room (Nat.le_of_ble_eq_true rfl)) dX11_isKey_36 ⟨Nat.le_of_ble_eq_true rfl, Nat.le_of_ble_eq_true rfl⟩) hS (fun z_39 σ_s_38 H locs rz_39 hw_37 hH hS => ?_)
          obtain ⟨e9, bhw_37, hw_37⟩ := hw_37
          replace e9 := e9.symm
          subst e9
          replace hw_37 : (z_39 = 1 ∧ 1 ≤ z_36 ∧ z_36 ≤ 26) ∨ (z_39 = 0 ∧ ¬ (1 ≤ z_36 ∧ z_36 ≤ 26)) := hw_37
          refine lv_istore_n (lv' := [(1, .int (I z_39)), (2, .int (I v2q32))]) hx hb dX11_isKey_39 rfl hl (by decide) rfl (fun ls hl => ?_)
          refine lv_iload_n hx hb dX11_isKey_40 rfl (lv_at hl 1 rfl) ?_
          refine lv_bipush (v := I 32) hx hb dX11_isKey_41 (by decide) ?_
          refine lv_idiv hx hb dX11_isKey_43 (by decide) ?_
          refine th_div (n := 32) rv2q32 (by omega) (by decide) (fun z_40 rz_40 hz_40 => ?_)
          refine lv_istore_n (lv' := [(2, .int (I z_40)), (1, .int (I z_39))]) hx hb dX11_isKey_44 rfl hl (by decide) rfl (fun ls hl => ?_)
          refine lv_goto (tgt := 21) hx hb dX11_isKey_45 (by decide) ?_
          exact ihJ_33 (z_39, z_40) σ _ _ _ (by first | (dsimp only; omega) | omega) ⟨rfl, hH, hS, lv_sub hl [1, 0] rfl, rz_39, rz_40, by first | (dsimp only; omega) | omega, by first | (dsimp only; omega) | omega, by first | (dsimp only; omega) | omega, (ki.step (z := z_36) J_33_3 (by omega) (by omega) (by omega) (by first | (dsimp only; omega) | omega) hw_37)⟩

set_option maxHeartbeats 20000000 in
set_option maxRecDepth 100000 in
theorem n9_isPath (l : Launch) (G : va_G) (y : Nat → ClassId) (b0 : Nat) (σ : th_M) (E : th_E) (hO : ok y E σ) (a : Nat) (h_a : kd E a = 13) (i : Int) (ri : rng i) (f8 : Nat → Int32) (ef8 : aF σ (ad E a 8) = f8) : Met l yX11_isPath wsX11_isPath ({ frames := 1, cells := 0, slots := 0, locals := 26 }) (th_P G y b0 σ [.ref a, .int (I i)]) (th_Qi G b0 (fun r σ1 => σ1 = σ ∧ (0 ≤ r ∧ r ≤ 1) ∧ ((r = 1 ∧ (0 ≤ i ∧ i ≤ 3 ∧ 1 ≤ (f8 i.toNat).toInt)) ∨ (r = 0 ∧ ¬ (0 ≤ i ∧ i ≤ 3 ∧ 1 ≤ (f8 i.toNat).toInt))))) 0 0 (th_A b0) := by
  refine Met.ofW (cc := cX11_isPath) (maxL := 2) (ret := (some .boolean)) (by decide) rfl ?_
  intro p e s m args below meth c s₁ B hml hv
  obtain ⟨rfl, hH, hK⟩ := hv
  have hx := B.exec
  have hb := B.bytes
  have hr := B.returns
  have hts := atoms_spec (ws := wsX11_isPath) B.pre
  have hown : s.vm.findClass RX11 = some m.cls := findClass_of_methodNamed B.named
  have hlocks := B.notSynchronized
  have h00 : b0 ≤ s.heap.size := hH.1
  have hS : va_S (th_A b0) s.heap s.heap [] := va_S.rf
  have inX11 : ∀ w ∈ wsX110, w ∈ wsX11_isPath := by decide +kernel
  have fl0 := hts (.fieldLink RX11 28 "NestQueryModel" "pathSize" "[I") (by decide +kernel)
  have hl := lv_entry ([.ref a, .int (I i)]) (n := 2) (Nat.le_of_ble_eq_true rfl)
  rw [lg_entry_eq]
  generalize (lg_sl ([.ref a, .int (I i)]) ++ List.replicate (2 - (lg_sl ([.ref a, .int (I i)])).length) Slot.unset).toArray = ls at hl ⊢
  have hl : lv_has ls 2 [(0, .ref a), (1, .int (I i))] := hl
  refine lv_iload_n hx hb dX11_isPath_0 rfl (lv_at hl 1 rfl) ?_
  refine lv_iconst (v := I 0) hx hb dX11_isPath_1 (by decide) ?_
  refine lv_iconst (v := I 3) hx hb dX11_isPath_2 (by decide) ?_
  refine th_calli (va_runS (As := [.int (I i), .int (I 0), .int (I 3)]) (rest := []) ⟨hx, hb, hml, hown, hts⟩ (w_isIn l G y b0 σ E hO i (show rng i from ri) 0 (show rng 0 from (show rng 0 from ⟨by decide, by decide⟩)) 3 (show rng 3 from (show rng 3 from ⟨by decide, by decide⟩))) (va_cwS 3 hts gX11_isPath_X11_isIn rfl rfl rfl (by decide +kernel) ⟨Nat.le_of_ble_eq_true rfl, Nat.le_of_ble_eq_true rfl⟩) (th_PS hK hH) rfl rfl hl.1 rfl (lv_room (Nat.le_of_ble_eq_true rfl)) dX11_isPath_3 ⟨Nat.le_of_ble_eq_true rfl, Nat.le_of_ble_eq_true rfl⟩) hS (fun z_3 σ_s_2 H locs rz_3 hw_1 hH hS => ?_)
  obtain ⟨e9, bhw_1, hw_1⟩ := hw_1
  replace e9 := e9.symm
  subst e9
  replace hw_1 : (z_3 = 1 ∧ 0 ≤ i ∧ i ≤ 3) ∨ (z_3 = 0 ∧ ¬ (0 ≤ i ∧ i ≤ 3)) := hw_1
  refine lv_if_eq (tgt := 22) hx hb dX11_isPath_6 (by decide) (fun c_4 => ?_) (fun c_4 => ?_)
  · replace c_4 := (I_eq (a := z_3) (b := 0) rz_3 (show rng 0 from ⟨by decide, by decide⟩)).mp c_4
    refine lv_iconst (v := I 0) hx hb dX11_isPath_22 (by decide) ?_
    exact th_zret hx hb hr hlocks hH hS (z := 0) (by omega) ⟨rfl, ⟨by omega, by omega⟩, Or.inr ⟨rfl, by omega⟩⟩ dX11_isPath_23
  · replace c_4 := mt (I_eq (a := z_3) (b := 0) rz_3 (show rng 0 from ⟨by decide, by decide⟩)).mpr c_4
    refine lv_aload_n hx hb dX11_isPath_9 rfl (lv_at hl 0 rfl) ?_
    refine ok.getR hO h_a (by decide) k13_8 (by decide) (fun _ _ he hv kk => th_get (ci := 11) (C := RX11) (T := TX11) (N := 66) hx hb hts inX11 hown hK hH he rfl 8 (by decide) fl0 hv dX11_isPath_10 kk) ?_
    refine lv_iload_n hx hb dX11_isPath_13 rfl (lv_at hl 1 rfl) ?_
    refine m_iald hx hb hK hH hO h_a k13_8 isA9 ef8 ri (by omega) (by omega) dX11_isPath_14 (fun z_5 ez_5 rz_5 elx9 => ?_)
    have uz_5 := elx9.2.1 rfl
    refine lv_if_le (tgt := 22) hx hb dX11_isPath_15 (by decide) (fun c_6 => ?_) (fun c_6 => ?_)
    · replace c_6 := (I_le (a := z_5) (b := 0) rz_5 (show rng 0 from ⟨by decide, by decide⟩)).mp c_6
      refine lv_iconst (v := I 0) hx hb dX11_isPath_22 (by decide) ?_
      exact th_zret hx hb hr hlocks hH hS (z := 0) (by omega) ⟨rfl, ⟨by omega, by omega⟩, Or.inr ⟨rfl, by omega⟩⟩ dX11_isPath_23
    · replace c_6 := mt (I_le (a := z_5) (b := 0) rz_5 (show rng 0 from ⟨by decide, by decide⟩)).mpr c_6
      refine lv_iconst (v := I 1) hx hb dX11_isPath_18 (by decide) ?_
      refine lv_goto (tgt := 23) hx hb dX11_isPath_19 (by decide) ?_
      exact th_zret hx hb hr hlocks hH hS (z := 1) (by omega) ⟨rfl, ⟨by omega, by omega⟩, Or.inl ⟨rfl, by omega, by omega, by omega⟩⟩ dX11_isPath_23

set_option maxHeartbeats 20000000 in
set_option maxRecDepth 100000 in
theorem j9_tree (l : Launch) (G : va_G) (y : Nat → ClassId) (b0 : Nat) (σ : th_M) (E : th_E) (hO : ok y E σ) (a : Nat) (h_a : kd E a = 13) (nn : Int) (rnn : rng nn) (f1 : Nat → Int32) (ef1 : aF σ (ad E a 1) = f1) (f37 : Nat → Int32) (ef37 : aF σ (ad E a 37) = f37) (f61 : Nat → Int32) (ef61 : aF σ (ad E a 61) = f61) (f62 : Nat → Int32) (ef62 : aF σ (ad E a 62) = f62) (f39 : Nat → Int32) (ef39 : aF σ (ad E a 39) = f39) (f40 : Nat → Int32) (ef40 : aF σ (ad E a 40) = f40) (f42 : Nat → Int32) (ef42 : aF σ (ad E a 42) = f42) (f43 : Nat → Int32) (ef43 : aF σ (ad E a 43) = f43) (f44 : Nat → Int32) (ef44 : aF σ (ad E a 44) = f44) (f45 : Nat → Int32) (ef45 : aF σ (ad E a 45) = f45) (f46 : Nat → Int32) (ef46 : aF σ (ad E a 46) = f46) (f2 : Nat → Int32) (ef2 : aF σ (ad E a 2) = f2) (f6 : Nat → Int32) (ef6 : aF σ (ad E a 6) = f6) (T : tkT) (hSt : ((0 ≤ nn ∧ nn ≤ gI σ a 12) → tkSt (byf f6 nn) T)) (hy0 : jw f1 f37 f61 f62 f39 f40 f42 f43 f44 f45 f46 (gI σ a 36) (gI σ a 58) (gI σ a 59)) : Met l yX11_tree wsX11_tree ({ frames := 50, cells := 0, slots := 0, locals := 2033 }) (th_P G y b0 σ [.ref a, .int (I nn)]) (th_Qi G b0 (fun r σ1 => ok y E σ1 ∧ fr [13] E σ σ1 ∧ fm [0, 1, 2, 4, 9, 10, 11, 12, 13, 14, 15, 16, 17, 18, 19, 20, 21, 22, 36, 51, 58] E σ σ1 a ∧ ((jw (aF σ1 (ad E a 1)) (aF σ1 (ad E a 37)) (aF σ1 (ad E a 61)) (aF σ1 (ad E a 62)) (aF σ1 (ad E a 39)) (aF σ1 (ad E a 40)) (aF σ1 (ad E a 42)) (aF σ1 (ad E a 43)) (aF σ1 (ad E a 44)) (aF σ1 (ad E a 45)) (aF σ1 (ad E a 46)) (gI σ1 a 36) (gI σ1 a 58) (gI σ1 a 59) ∧ (((0 ≤ nn ∧ nn ≤ gI σ a 12) ∧ gI σ1 a 12 = 0) ∨ (¬ (0 ≤ nn ∧ nn ≤ gI σ a 12) ∧ gI σ1 a 12 = gI σ a 12))) ∧ ((0 ≤ nn ∧ nn ≤ gI σ a 12) → ∃ pp, TopR T r pp ∧ gI σ1 a 21 = pp) ∧ (¬ (0 ≤ nn ∧ nn ≤ gI σ a 12) → gI σ1 a 21 = gI σ a 21)))) 0 0 (th_A b0) := by
  refine Met.ofW (cc := cX11_tree) (maxL := 3) (ret := (some .int)) (by decide) rfl ?_
  intro p e s m args below meth c s₁ B hml hv
  obtain ⟨rfl, hH, hK⟩ := hv
  have hx := B.exec
  have hb := B.bytes
  have hr := B.returns
  have hts := atoms_spec (ws := wsX11_tree) B.pre
  have hown : s.vm.findClass RX11 = some m.cls := findClass_of_methodNamed B.named
  have hlocks := B.notSynchronized
  have h00 : b0 ≤ s.heap.size := hH.1
  have hS : va_S (th_A b0) s.heap s.heap [] := va_S.rf
  have hF : fr [13] E σ σ := fr.rf
  have hM : fm [0, 1, 2, 4, 9, 10, 11, 12, 13, 14, 15, 16, 17, 18, 19, 20, 21, 22, 36, 51, 58] E σ σ a := fm.rf
  have hj := hy0
  have hw1 := hj.1.1.1
  have hm1 := hj.1.2.1
  have hm2 := hj.1.2.2.1
  have hm3 := hj.2.2.2.2.1
  have hm4 := hj.2.2.2.2.2.1
  have inX11 : ∀ w ∈ wsX110, w ∈ wsX11_tree := by decide +kernel
  have fl0 := hts (.fieldLink RX11 111 "NestQueryModel" "code" "I") (by decide +kernel)
  have fl1 := hts (.fieldLink RX11 114 "NestQueryModel" "taped" "I") (by decide +kernel)
  have fl2 := hts (.fieldLink RX11 188 "NestQueryModel" "dataMany" "I") (by decide +kernel)
  have fl3 := hts (.fieldLink RX11 232 "NestQueryModel" "acts" "I") (by decide +kernel)
  have fl4 := hts (.fieldLink RX11 235 "NestQueryModel" "noted" "I") (by decide +kernel)
  have fl5 := hts (.fieldLink RX11 238 "NestQueryModel" "hasImage" "Z") (by decide +kernel)
  have fl6 := hts (.fieldLink RX11 9 "NestQueryModel" "tree" "[I") (by decide +kernel)
  have fl7 := hts (.fieldLink RX11 13 "NestQueryModel" "data" "[I") (by decide +kernel)
  have fl8 := hts (.fieldLink RX11 162 "NestQueryModel" "bad" "I") (by decide +kernel)
  have hl := lv_entry ([.ref a, .int (I nn)]) (n := 3) (Nat.le_of_ble_eq_true rfl)
  rw [lg_entry_eq]
  generalize (lg_sl ([.ref a, .int (I nn)]) ++ List.replicate (3 - (lg_sl ([.ref a, .int (I nn)])).length) Slot.unset).toArray = ls at hl ⊢
  have hl : lv_has ls 3 [(0, .ref a), (1, .int (I nn))] := hl
  obtain ⟨a360, ea360, ra360, la360, ua360⟩ := hO.gi h_a (by decide) k13_36
  obtain ⟨a580, ea580, ra580, la580, ua580⟩ := hO.gi h_a (by decide) k13_58
  obtain ⟨a590, ea590, ra590, la590, ua590⟩ := hO.gi h_a (by decide) k13_59
  obtain ⟨a120, ea120, ra120, la120, ua120⟩ := hO.gi h_a (by decide) k13_12
  obtain ⟨a210, ea210, ra210, la210, ua210⟩ := hO.gi h_a (by decide) k13_21
  refine lv_aload_n hx hb dX11_tree_0 rfl (lv_at hl 0 rfl) ?_
  refine lv_iconst (v := I 0) hx hb dX11_tree_1 (by decide) ?_
  obtain ⟨z_1, e_2, rz_1, lz_1, uz_1⟩ := hO.gi h_a (by decide) k13_19
  refine ok.putJ hO h_a k13_0 (show rng 0 from ⟨by decide, by decide⟩) (by omega) (by omega) (fun _ he hl9 kk => th_put (ci := 11) (v := .int (I 0)) (ty := .int) (C := RX11) (T := TX11) (N := 66) hx hb hts inX11 tyX11 tyX11_ok nmX11 hown hK hH hS h00 he rfl 0 (by decide) fl0 rfl (by decide +kernel) rfl rfl hl9 dX11_tree_2 kk) (fun σ_s_3 H locs hO hF9 hM9 hg9 ha9 hH hS => ?_)
  replace hM := hM.tu hM9 (by decide)
  replace hF := hF.tu hF9 (by decide)
  have e_4 : aF σ_s_3 (ad E a 1) = f1 := (hM9.a (by decide) (by decide)).trans ef1
  have e_5 : aF σ_s_3 (ad E a 37) = f37 := (hM9.a (by decide) (by decide)).trans ef37
  have e_6 : aF σ_s_3 (ad E a 61) = f61 := (hM9.a (by decide) (by decide)).trans ef61
  have e_7 : aF σ_s_3 (ad E a 62) = f62 := (hM9.a (by decide) (by decide)).trans ef62
  have e_8 : aF σ_s_3 (ad E a 39) = f39 := (hM9.a (by decide) (by decide)).trans ef39
  have e_9 : aF σ_s_3 (ad E a 40) = f40 := (hM9.a (by decide) (by decide)).trans ef40
  have e_10 : aF σ_s_3 (ad E a 42) = f42 := (hM9.a (by decide) (by decide)).trans ef42
  have e_11 : aF σ_s_3 (ad E a 43) = f43 := (hM9.a (by decide) (by decide)).trans ef43
  have e_12 : aF σ_s_3 (ad E a 44) = f44 := (hM9.a (by decide) (by decide)).trans ef44
  have e_13 : aF σ_s_3 (ad E a 45) = f45 := (hM9.a (by decide) (by decide)).trans ef45
  have e_14 : aF σ_s_3 (ad E a 46) = f46 := (hM9.a (by decide) (by decide)).trans ef46
  have e_15 : aF σ_s_3 (ad E a 2) = f2 := (hM9.a (by decide) (by decide)).trans ef2
  have e_16 : aF σ_s_3 (ad E a 6) = f6 := (hM9.a (by decide) (by decide)).trans ef6
  have e_17 : gI σ_s_3 a 36 = a360 := (hM9.i (by decide)).trans ea360
  have e_18 : gI σ_s_3 a 58 = a580 := (hM9.i (by decide)).trans ea580
  have e_19 : gI σ_s_3 a 59 = a590 := (hM9.i (by decide)).trans ea590
  have e_20 : gI σ_s_3 a 12 = a120 := (hM9.i (by decide)).trans ea120
  have e_21 : gI σ_s_3 a 21 = a210 := (hM9.i (by decide)).trans ea210
  have e_22 : gI σ_s_3 a 19 = z_1 := (hM9.i (by decide)).trans e_2
  have e_23 := hg9
  refine lv_aload_n hx hb dX11_tree_5 rfl (lv_at hl 0 rfl) ?_
  refine lv_iload_n hx hb dX11_tree_6 rfl (lv_at hl 1 rfl) ?_
  obtain ⟨_, hc_24⟩ := hO.cell h_a (by decide) (ci := 11) rfl
  refine th_calli (va_runV (As := [.int (I nn)]) (rest := []) ⟨hx, hb, hml, hown, hts⟩ (m_isTape l G y b0 σ_s_3 E hO a h_a nn (show rng nn from rnn)) (cwV 1 hts gX11_tree_X11_isTape rfl rfl rfl (by decide +kernel) ⟨Nat.le_of_ble_eq_true rfl, Nat.le_of_ble_eq_true rfl⟩) (th_PV hK hH rfl hc_24) rfl rfl hl.1 rfl (lv_room (Nat.le_of_ble_eq_true rfl)) dX11_tree_7 ⟨Nat.le_of_ble_eq_true rfl, Nat.le_of_ble_eq_true rfl⟩) hS (fun z_27 σ_s_26 H locs rz_27 hw_25 hH hS => ?_)
  obtain ⟨e9, bhw_25, hw_25⟩ := hw_25
  replace e9 := e9.symm
  subst e9
  replace hw_25 : (z_27 = 1 ∧ 0 ≤ nn ∧ nn ≤ gI σ_s_3 a 12) ∨ (z_27 = 0 ∧ ¬ (0 ≤ nn ∧ nn ≤ gI σ_s_3 a 12)) := hw_25
  refine lv_if_ne (tgt := 19) hx hb dX11_tree_10 (by decide) (fun c_28 => ?_) (fun c_28 => ?_)
  · replace c_28 := mt (I_eq (a := z_27) (b := 0) rz_27 (show rng 0 from ⟨by decide, by decide⟩)).mpr c_28
    refine lv_aload_n hx hb dX11_tree_19 rfl (lv_at hl 0 rfl) ?_
    refine lv_iconst (v := I 0) hx hb dX11_tree_20 (by decide) ?_
    refine ok.putJ hO h_a k13_12 (show rng 0 from ⟨by decide, by decide⟩) (by omega) (by omega) (fun _ he hl9 kk => th_put (ci := 11) (v := .int (I 0)) (ty := .int) (C := RX11) (T := TX11) (N := 66) hx hb hts inX11 tyX11 tyX11_ok nmX11 hown hK hH hS h00 he rfl 12 (by decide) fl1 rfl (by decide +kernel) rfl rfl hl9 dX11_tree_21 kk) (fun σ_s_29 H locs hO hF9 hM9 hg9 ha9 hH hS => ?_)
    replace hM := hM.tu hM9 (by decide)
    replace hF := hF.tu hF9 (by decide)
    have e_30 : aF σ_s_29 (ad E a 1) = f1 := (hM9.a (by decide) (by decide)).trans e_4
    have e_31 : aF σ_s_29 (ad E a 37) = f37 := (hM9.a (by decide) (by decide)).trans e_5
    have e_32 : aF σ_s_29 (ad E a 61) = f61 := (hM9.a (by decide) (by decide)).trans e_6
    have e_33 : aF σ_s_29 (ad E a 62) = f62 := (hM9.a (by decide) (by decide)).trans e_7
    have e_34 : aF σ_s_29 (ad E a 39) = f39 := (hM9.a (by decide) (by decide)).trans e_8
    have e_35 : aF σ_s_29 (ad E a 40) = f40 := (hM9.a (by decide) (by decide)).trans e_9
    have e_36 : aF σ_s_29 (ad E a 42) = f42 := (hM9.a (by decide) (by decide)).trans e_10
    have e_37 : aF σ_s_29 (ad E a 43) = f43 := (hM9.a (by decide) (by decide)).trans e_11
    have e_38 : aF σ_s_29 (ad E a 44) = f44 := (hM9.a (by decide) (by decide)).trans e_12
    have e_39 : aF σ_s_29 (ad E a 45) = f45 := (hM9.a (by decide) (by decide)).trans e_13
    have e_40 : aF σ_s_29 (ad E a 46) = f46 := (hM9.a (by decide) (by decide)).trans e_14
    have e_41 : aF σ_s_29 (ad E a 2) = f2 := (hM9.a (by decide) (by decide)).trans e_15
    have e_42 : aF σ_s_29 (ad E a 6) = f6 := (hM9.a (by decide) (by decide)).trans e_16
    have e_43 : gI σ_s_29 a 36 = a360 := (hM9.i (by decide)).trans e_17
    have e_44 : gI σ_s_29 a 58 = a580 := (hM9.i (by decide)).trans e_18
    have e_45 : gI σ_s_29 a 59 = a590 := (hM9.i (by decide)).trans e_19
    have e_46 : gI σ_s_29 a 21 = a210 := (hM9.i (by decide)).trans e_21
    have e_47 : gI σ_s_29 a 19 = z_1 := (hM9.i (by decide)).trans e_22
    have e_48 : gI σ_s_29 a 0 = 0 := (hM9.i (by decide)).trans e_23
    have e_49 := hg9
    refine lv_aload_n hx hb dX11_tree_24 rfl (lv_at hl 0 rfl) ?_
    refine lv_iload_n hx hb dX11_tree_25 rfl (lv_at hl 1 rfl) ?_
    obtain ⟨_, hc_50⟩ := hO.cell h_a (by decide) (ci := 11) rfl
    refine th_calli (va_runV (As := [.int (I nn)]) (rest := []) ⟨hx, hb, hml, hown, hts⟩ (n_readsData l G y b0 σ_s_29 E hO a h_a nn (show rng nn from rnn) (by omega) (by omega) f2 e_41 f6 e_42 T (hSt (by omega))) (cwV 1 hts gX11_tree_X11_readsData rfl rfl rfl (by decide +kernel) ⟨Nat.le_of_ble_eq_true rfl, Nat.le_of_ble_eq_true rfl⟩) (th_PV hK hH rfl hc_50) rfl rfl hl.1 rfl (lv_room (Nat.le_of_ble_eq_true rfl)) dX11_tree_26 ⟨Nat.le_of_ble_eq_true rfl, Nat.le_of_ble_eq_true rfl⟩) hS (fun z_53 σ_s_52 H locs rz_53 hw_51 hH hS => ?_)
    obtain ⟨hO9, hF9, hM9, bhw_51, hw_51⟩ := hw_51
    replace hM := hM.tu hM9 (by decide)
    replace hF := hF.tu hF9 (by decide)
    have e_54 : aF σ_s_52 (ad E a 1) = f1 := (hM9.a (by decide) (by decide)).trans e_30
    have e_55 : aF σ_s_52 (ad E a 37) = f37 := (hM9.a (by decide) (by decide)).trans e_31
    have e_56 : aF σ_s_52 (ad E a 61) = f61 := (hM9.a (by decide) (by decide)).trans e_32
    have e_57 : aF σ_s_52 (ad E a 62) = f62 := (hM9.a (by decide) (by decide)).trans e_33
    have e_58 : aF σ_s_52 (ad E a 39) = f39 := (hM9.a (by decide) (by decide)).trans e_34
    have e_59 : aF σ_s_52 (ad E a 40) = f40 := (hM9.a (by decide) (by decide)).trans e_35
    have e_60 : aF σ_s_52 (ad E a 42) = f42 := (hM9.a (by decide) (by decide)).trans e_36
    have e_61 : aF σ_s_52 (ad E a 43) = f43 := (hM9.a (by decide) (by decide)).trans e_37
    have e_62 : aF σ_s_52 (ad E a 44) = f44 := (hM9.a (by decide) (by decide)).trans e_38
    have e_63 : aF σ_s_52 (ad E a 45) = f45 := (hM9.a (by decide) (by decide)).trans e_39
    have e_64 : aF σ_s_52 (ad E a 46) = f46 := (hM9.a (by decide) (by decide)).trans e_40
    have e_65 : aF σ_s_52 (ad E a 6) = f6 := (hM9.a (by decide) (by decide)).trans e_42
    have e_66 : gI σ_s_52 a 36 = a360 := (hM9.i (by decide)).trans e_43
    have e_67 : gI σ_s_52 a 58 = a580 := (hM9.i (by decide)).trans e_44
    have e_68 : gI σ_s_52 a 59 = a590 := (hM9.i (by decide)).trans e_45
    have e_69 : gI σ_s_52 a 0 = 0 := (hM9.i (by decide)).trans e_48
    have e_70 : gI σ_s_52 a 12 = 0 := (hM9.i (by decide)).trans e_49
    replace hO := hO9
    generalize ef_72 : aF σ_s_52 (ad E a 2) = g_71 at hw_51
    replace hw_51 : ((z_53 = 1 ∧ tr g_71 ∧ mS g_71 0 = gI σ_s_52 a 22) ∨ z_53 = 0) ∧ ∃ rr pp, TopR T rr pp ∧ ((z_53 = 1 ∧ rr = 0) ∨ (z_53 = 0 ∧ rr ≠ 0)) ∧ gI σ_s_52 a 19 = rr ∧ gI σ_s_52 a 21 = pp := hw_51
    obtain ⟨z_73, e_74, rz_73, lz_73, uz_73⟩ := hO.gi h_a (by decide) k13_21
    obtain ⟨z_75, e_76, rz_75, lz_75, uz_75⟩ := hO.gi h_a (by decide) k13_19
    obtain ⟨hz_77, rr_78, pp_79, hT_80, hz_81⟩ := hw_51
    refine lv_if_ne (tgt := 37) hx hb dX11_tree_29 (by decide) (fun c_82 => ?_) (fun c_82 => ?_)
    · replace c_82 := mt (I_eq (a := z_53) (b := 0) rz_53 (show rng 0 from ⟨by decide, by decide⟩)).mpr c_82
      obtain ⟨z_83, e_84, rz_83, lz_83, uz_83⟩ := hO.gi h_a (by decide) k13_22
      have hq6 := (hz_77.resolve_right (by omega)).2.1.2.1
      have hq9 := (hz_77.resolve_right (by omega)).2.2
      have hq7 := (hz_77.resolve_right (by omega)).2.1.2.2.1
      refine lv_iconst (v := I 0) hx hb dX11_tree_37 (by decide) ?_
      refine lv_istore_n (lv' := [(2, .int (I 0)), (0, .ref a), (1, .int (I nn))]) hx hb dX11_tree_38 rfl hl (by decide) rfl (fun ls hl => ?_)
      replace hl : lv_has ls 3 [(2, .int (I 0)), (0, .ref a)] := lv_sub hl [0, 1] rfl
      refine th_loop (α := Int × (Nat → Int32)) (pc := 39) (fun x9 => (240 - x9.1).toNat) (fun x9 σ9 H9 l9 ls9 => ok y E σ9 ∧ fr [13] E σ σ9 ∧ fm [0, 1, 2, 4, 9, 10, 11, 12, 13, 14, 15, 16, 17, 18, 19, 20, 21, 22, 36, 51, 58] E σ σ9 a ∧ th_H G b0 σ9 H9 ∧ va_S (th_A b0) s.heap H9 l9 ∧ lv_has ls9 3 [(0, .ref a), (2, .int (I x9.1))] ∧ rng x9.1 ∧ (0 ≤ x9.1) ∧ (x9.1 ≤ 4 * mS g_71 0) ∧ (x9.1 ≤ 240) ∧ (cpd f1 x9.2 g_71 0 0 x9.1) ∧ (gI σ9 a 36 = a360) ∧ (gI σ9 a 58 = a580) ∧ (gI σ9 a 59 = a590) ∧ (gI σ9 a 0 = 0) ∧ (gI σ9 a 12 = 0) ∧ (gI σ9 a 21 = z_73) ∧ (gI σ9 a 19 = z_75) ∧ (gI σ9 a 22 = z_83) ∧ (aF σ9 (ad E a 37) = f37) ∧ (aF σ9 (ad E a 61) = f61) ∧ (aF σ9 (ad E a 62) = f62) ∧ (aF σ9 (ad E a 39) = f39) ∧ (aF σ9 (ad E a 40) = f40) ∧ (aF σ9 (ad E a 42) = f42) ∧ (aF σ9 (ad E a 43) = f43) ∧ (aF σ9 (ad E a 44) = f44) ∧ (aF σ9 (ad E a 45) = f45) ∧ (aF σ9 (ad E a 46) = f46) ∧ (aF σ9 (ad E a 6) = f6) ∧ (aF σ9 (ad E a 2) = g_71) ∧ (aF σ9 (ad E a 1) = x9.2)) ?_ (0, f1) σ_s_52 _ _ _ ⟨hO, hF, hM, hH, hS, lv_sub hl [1, 0] rfl, (show rng 0 from ⟨by decide, by decide⟩), by first | (dsimp only; omega) | omega, by first | (dsimp only; omega) | omega, by first | (dsimp only; omega) | omega, cpd.zero, e_66, e_67, e_68, e_69, e_70, e_74, e_76, e_84, e_55, e_56, e_57, e_58, e_59, e_60, e_61, e_62, e_63, e_64, e_65, ef_72, e_54⟩
      intro x9 σ_J_143 H locs ls hI9 ihJ_143
      obtain ⟨v2q142, F1q141⟩ := x9
      obtain ⟨hO, hF, hM, hH, hS, hl, rv2q142, J_143_0, J_143_1, J_143_2, J_143_3, J_143_4, J_143_5, J_143_6, J_143_7, J_143_8, J_143_9, J_143_10, J_143_11, J_143_12, J_143_13, J_143_14, J_143_15, J_143_16, J_143_17, J_143_18, J_143_19, J_143_20, J_143_21, J_143_22, J_143_23, J_143_24⟩ := hI9
      have hl : lv_has ls 3 [(0, .ref a), (2, .int (I v2q142))] := hl
      have rv2q142 : rng v2q142 := rv2q142
      replace J_143_0 : 0 ≤ v2q142 := J_143_0
      replace J_143_1 : v2q142 ≤ 4 * mS g_71 0 := J_143_1
      replace J_143_2 : v2q142 ≤ 240 := J_143_2
      replace J_143_3 : cpd f1 F1q141 g_71 0 0 v2q142 := J_143_3
      replace J_143_4 : gI σ_J_143 a 36 = a360 := J_143_4
      replace J_143_5 : gI σ_J_143 a 58 = a580 := J_143_5
      replace J_143_6 : gI σ_J_143 a 59 = a590 := J_143_6
      replace J_143_7 : gI σ_J_143 a 0 = 0 := J_143_7
      replace J_143_8 : gI σ_J_143 a 12 = 0 := J_143_8
      replace J_143_9 : gI σ_J_143 a 21 = z_73 := J_143_9
      replace J_143_10 : gI σ_J_143 a 19 = z_75 := J_143_10
      replace J_143_11 : gI σ_J_143 a 22 = z_83 := J_143_11
      replace J_143_12 : aF σ_J_143 (ad E a 37) = f37 := J_143_12
      replace J_143_13 : aF σ_J_143 (ad E a 61) = f61 := J_143_13
      replace J_143_14 : aF σ_J_143 (ad E a 62) = f62 := J_143_14
      replace J_143_15 : aF σ_J_143 (ad E a 39) = f39 := J_143_15
      replace J_143_16 : aF σ_J_143 (ad E a 40) = f40 := J_143_16
      replace J_143_17 : aF σ_J_143 (ad E a 42) = f42 := J_143_17
      replace J_143_18 : aF σ_J_143 (ad E a 43) = f43 := J_143_18
      replace J_143_19 : aF σ_J_143 (ad E a 44) = f44 := J_143_19
      replace J_143_20 : aF σ_J_143 (ad E a 45) = f45 := J_143_20
      replace J_143_21 : aF σ_J_143 (ad E a 46) = f46 := J_143_21
      replace J_143_22 : aF σ_J_143 (ad E a 6) = f6 := J_143_22
      replace J_143_23 : aF σ_J_143 (ad E a 2) = g_71 := J_143_23
      replace J_143_24 : aF σ_J_143 (ad E a 1) = F1q141 := J_143_24
      refine lv_iload_n hx hb dX11_tree_39 rfl (lv_at hl 1 rfl) ?_
      refine lv_iconst (v := I 4) hx hb dX11_tree_40 (by decide) ?_
      refine lv_aload_n hx hb dX11_tree_41 rfl (lv_at hl 0 rfl) ?_
      refine ok.getIc hO h_a (by decide) k13_22 J_143_11 (fun _ _ he hv kk => th_get (ci := 11) (C := RX11) (T := TX11) (N := 66) hx hb hts inX11 hown hK hH he rfl 22 (by decide) fl2 hv dX11_tree_42 kk) ?_
      refine lv_imul hx hb dX11_tree_45 ?_
      refine nq_top (I_mul _ _) ?_
      refine lv_icmp_ge (tgt := 67) hx hb dX11_tree_46 (by decide) (fun c_144 => ?_) (fun c_144 => ?_)
      · replace c_144 := (I_le (a := 4 * z_83) (b := v2q142) ⟨by omega, by omega⟩ rv2q142).mp c_144
        refine lv_aload_n hx hb dX11_tree_67 rfl (lv_at hl 0 rfl) ?_
        refine lv_iconst (v := I 0) hx hb dX11_tree_68 (by decide) ?_
        refine ok.putJ hO h_a k13_36 (show rng 0 from ⟨by decide, by decide⟩) (by omega) (by omega) (fun _ he hl9 kk => th_put (ci := 11) (v := .int (I 0)) (ty := .int) (C := RX11) (T := TX11) (N := 66) hx hb hts inX11 tyX11 tyX11_ok nmX11 hown hK hH hS h00 he rfl 36 (by decide) fl3 rfl (by decide +kernel) rfl rfl hl9 dX11_tree_69 kk) (fun σ_s_145 H locs hO hF9 hM9 hg9 ha9 hH hS => ?_)
        replace hM := hM.tu hM9 (by decide)
        replace hF := hF.tu hF9 (by decide)
        have e_146 : gI σ_s_145 a 58 = a580 := (hM9.i (by decide)).trans J_143_5
        have e_147 : gI σ_s_145 a 59 = a590 := (hM9.i (by decide)).trans J_143_6
        have e_148 : gI σ_s_145 a 0 = 0 := (hM9.i (by decide)).trans J_143_7
        have e_149 : gI σ_s_145 a 12 = 0 := (hM9.i (by decide)).trans J_143_8
        have e_150 : gI σ_s_145 a 21 = z_73 := (hM9.i (by decide)).trans J_143_9
        have e_151 : gI σ_s_145 a 19 = z_75 := (hM9.i (by decide)).trans J_143_10
        have e_152 : gI σ_s_145 a 22 = z_83 := (hM9.i (by decide)).trans J_143_11
        have e_153 : aF σ_s_145 (ad E a 37) = f37 := (hM9.a (by decide) (by decide)).trans J_143_12
        have e_154 : aF σ_s_145 (ad E a 61) = f61 := (hM9.a (by decide) (by decide)).trans J_143_13
        have e_155 : aF σ_s_145 (ad E a 62) = f62 := (hM9.a (by decide) (by decide)).trans J_143_14
        have e_156 : aF σ_s_145 (ad E a 39) = f39 := (hM9.a (by decide) (by decide)).trans J_143_15
        have e_157 : aF σ_s_145 (ad E a 40) = f40 := (hM9.a (by decide) (by decide)).trans J_143_16
        have e_158 : aF σ_s_145 (ad E a 42) = f42 := (hM9.a (by decide) (by decide)).trans J_143_17
        have e_159 : aF σ_s_145 (ad E a 43) = f43 := (hM9.a (by decide) (by decide)).trans J_143_18
        have e_160 : aF σ_s_145 (ad E a 44) = f44 := (hM9.a (by decide) (by decide)).trans J_143_19
        have e_161 : aF σ_s_145 (ad E a 45) = f45 := (hM9.a (by decide) (by decide)).trans J_143_20
        have e_162 : aF σ_s_145 (ad E a 46) = f46 := (hM9.a (by decide) (by decide)).trans J_143_21
        have e_163 : aF σ_s_145 (ad E a 6) = f6 := (hM9.a (by decide) (by decide)).trans J_143_22
        have e_164 : aF σ_s_145 (ad E a 2) = g_71 := (hM9.a (by decide) (by decide)).trans J_143_23
        have e_165 : aF σ_s_145 (ad E a 1) = F1q141 := (hM9.a (by decide) (by decide)).trans J_143_24
        have e_166 := hg9
        refine lv_aload_n hx hb dX11_tree_72 rfl (lv_at hl 0 rfl) ?_
        refine lv_iconst (v := I 0) hx hb dX11_tree_73 (by decide) ?_
        refine ok.putJ hO h_a k13_51 (show rng 0 from ⟨by decide, by decide⟩) (by omega) (by omega) (fun _ he hl9 kk => th_put (ci := 11) (v := .int (I 0)) (ty := .int) (C := RX11) (T := TX11) (N := 66) hx hb hts inX11 tyX11 tyX11_ok nmX11 hown hK hH hS h00 he rfl 51 (by decide) fl4 rfl (by decide +kernel) rfl rfl hl9 dX11_tree_74 kk) (fun σ_s_167 H locs hO hF9 hM9 hg9 ha9 hH hS => ?_)
        replace hM := hM.tu hM9 (by decide)
        replace hF := hF.tu hF9 (by decide)
        have e_168 : gI σ_s_167 a 58 = a580 := (hM9.i (by decide)).trans e_146
        have e_169 : gI σ_s_167 a 59 = a590 := (hM9.i (by decide)).trans e_147
        have e_170 : gI σ_s_167 a 0 = 0 := (hM9.i (by decide)).trans e_148
        have e_171 : gI σ_s_167 a 12 = 0 := (hM9.i (by decide)).trans e_149
        have e_172 : gI σ_s_167 a 21 = z_73 := (hM9.i (by decide)).trans e_150
        have e_173 : gI σ_s_167 a 19 = z_75 := (hM9.i (by decide)).trans e_151
        have e_174 : gI σ_s_167 a 22 = z_83 := (hM9.i (by decide)).trans e_152
        have e_175 : aF σ_s_167 (ad E a 37) = f37 := (hM9.a (by decide) (by decide)).trans e_153
        have e_176 : aF σ_s_167 (ad E a 61) = f61 := (hM9.a (by decide) (by decide)).trans e_154
        have e_177 : aF σ_s_167 (ad E a 62) = f62 := (hM9.a (by decide) (by decide)).trans e_155
        have e_178 : aF σ_s_167 (ad E a 39) = f39 := (hM9.a (by decide) (by decide)).trans e_156
        have e_179 : aF σ_s_167 (ad E a 40) = f40 := (hM9.a (by decide) (by decide)).trans e_157
        have e_180 : aF σ_s_167 (ad E a 42) = f42 := (hM9.a (by decide) (by decide)).trans e_158
        have e_181 : aF σ_s_167 (ad E a 43) = f43 := (hM9.a (by decide) (by decide)).trans e_159
        have e_182 : aF σ_s_167 (ad E a 44) = f44 := (hM9.a (by decide) (by decide)).trans e_160
        have e_183 : aF σ_s_167 (ad E a 45) = f45 := (hM9.a (by decide) (by decide)).trans e_161
        have e_184 : aF σ_s_167 (ad E a 46) = f46 := (hM9.a (by decide) (by decide)).trans e_162
        have e_185 : aF σ_s_167 (ad E a 6) = f6 := (hM9.a (by decide) (by decide)).trans e_163
        have e_186 : aF σ_s_167 (ad E a 2) = g_71 := (hM9.a (by decide) (by decide)).trans e_164
        have e_187 : aF σ_s_167 (ad E a 1) = F1q141 := (hM9.a (by decide) (by decide)).trans e_165
        have e_188 : gI σ_s_167 a 36 = 0 := (hM9.i (by decide)).trans e_166
        have e_189 := hg9
        refine lv_aload_n hx hb dX11_tree_77 rfl (lv_at hl 0 rfl) ?_
        refine lv_iconst (v := I 0) hx hb dX11_tree_78 (by decide) ?_
        refine ok.putJ hO h_a k13_58 (show rng 0 from ⟨by decide, by decide⟩) (by omega) (by omega) (fun _ he hl9 kk => th_put (ci := 11) (v := .int (I 0)) (ty := .boolean) (C := RX11) (T := TX11) (N := 66) hx hb hts inX11 tyX11 tyX11_ok nmX11 hown hK hH hS h00 he rfl 58 (by decide) fl5 rfl (by decide +kernel) (nar_z (by omega)) rfl hl9 dX11_tree_79 kk) (fun σ_s_190 H locs hO hF9 hM9 hg9 ha9 hH hS => ?_)
        replace hM := hM.tu hM9 (by decide)
        replace hF := hF.tu hF9 (by decide)
        have e_191 : gI σ_s_190 a 59 = a590 := (hM9.i (by decide)).trans e_169
        have e_192 : gI σ_s_190 a 0 = 0 := (hM9.i (by decide)).trans e_170
        have e_193 : gI σ_s_190 a 12 = 0 := (hM9.i (by decide)).trans e_171
        have e_194 : gI σ_s_190 a 21 = z_73 := (hM9.i (by decide)).trans e_172
        have e_195 : gI σ_s_190 a 19 = z_75 := (hM9.i (by decide)).trans e_173
        have e_196 : gI σ_s_190 a 22 = z_83 := (hM9.i (by decide)).trans e_174
        have e_197 : aF σ_s_190 (ad E a 37) = f37 := (hM9.a (by decide) (by decide)).trans e_175
        have e_198 : aF σ_s_190 (ad E a 61) = f61 := (hM9.a (by decide) (by decide)).trans e_176
        have e_199 : aF σ_s_190 (ad E a 62) = f62 := (hM9.a (by decide) (by decide)).trans e_177
        have e_200 : aF σ_s_190 (ad E a 39) = f39 := (hM9.a (by decide) (by decide)).trans e_178
        have e_201 : aF σ_s_190 (ad E a 40) = f40 := (hM9.a (by decide) (by decide)).trans e_179
        have e_202 : aF σ_s_190 (ad E a 42) = f42 := (hM9.a (by decide) (by decide)).trans e_180
        have e_203 : aF σ_s_190 (ad E a 43) = f43 := (hM9.a (by decide) (by decide)).trans e_181
        have e_204 : aF σ_s_190 (ad E a 44) = f44 := (hM9.a (by decide) (by decide)).trans e_182
        have e_205 : aF σ_s_190 (ad E a 45) = f45 := (hM9.a (by decide) (by decide)).trans e_183
        have e_206 : aF σ_s_190 (ad E a 46) = f46 := (hM9.a (by decide) (by decide)).trans e_184
        have e_207 : aF σ_s_190 (ad E a 6) = f6 := (hM9.a (by decide) (by decide)).trans e_185
        have e_208 : aF σ_s_190 (ad E a 2) = g_71 := (hM9.a (by decide) (by decide)).trans e_186
        have e_209 : aF σ_s_190 (ad E a 1) = F1q141 := (hM9.a (by decide) (by decide)).trans e_187
        have e_210 : gI σ_s_190 a 36 = 0 := (hM9.i (by decide)).trans e_188
        have e_211 : gI σ_s_190 a 51 = 0 := (hM9.i (by decide)).trans e_189
        have e_212 := hg9
        refine lv_iconst (v := I 0) hx hb dX11_tree_82 (by decide) ?_
        exact th_iret hx hb hr hlocks hH hS (z := 0) (show rng 0 from ⟨by decide, by decide⟩) ⟨hO, hF, hM, ⟨(by rw [show aF σ_s_190 (ad E a 1) = F1q141 from e_209, show aF σ_s_190 (ad E a 37) = f37 from e_197, show aF σ_s_190 (ad E a 61) = f61 from e_198, show aF σ_s_190 (ad E a 62) = f62 from e_199, show aF σ_s_190 (ad E a 39) = f39 from e_200, show aF σ_s_190 (ad E a 40) = f40 from e_201, show aF σ_s_190 (ad E a 42) = f42 from e_202, show aF σ_s_190 (ad E a 43) = f43 from e_203, show aF σ_s_190 (ad E a 44) = f44 from e_204, show aF σ_s_190 (ad E a 45) = f45 from e_205, show aF σ_s_190 (ad E a 46) = f46 from e_206]; have hq9 := (hz_77.resolve_right (by omega)).2; have h9 := (J_143_3.fin (n := mS g_71 0) (by omega) (by omega)).2; rw [Int.zero_add, Int.sub_zero] at h9; exact ⟨(hj.tree (hq9.1.cp h9) (show trs f37 0 from fun j h7 h8 => absurd h7 (by omega)) rfl rfl).gone (by omega) (by omega) (by omega), by omega⟩), fun _ => ⟨pp_79, (by rw [show (0 : Int) = rr_78 by omega]; exact hT_80), by omega⟩, fun h9 => absurd (show 0 ≤ nn ∧ nn ≤ gI σ a 12 by omega) h9⟩⟩ dX11_tree_83
      · replace c_144 := mt (I_le (a := 4 * z_83) (b := v2q142) ⟨by omega, by omega⟩ rv2q142).mpr c_144
        refine lv_aload_n hx hb dX11_tree_49 rfl (lv_at hl 0 rfl) ?_
        refine ok.getR hO h_a (by decide) k13_1 (by decide) (fun _ _ he hv kk => th_get (ci := 11) (C := RX11) (T := TX11) (N := 66) hx hb hts inX11 hown hK hH he rfl 1 (by decide) fl6 hv dX11_tree_50 kk) ?_
        refine lv_iload_n hx hb dX11_tree_53 rfl (lv_at hl 1 rfl) ?_
        refine lv_aload_n hx hb dX11_tree_54 rfl (lv_at hl 0 rfl) ?_
        refine ok.getR hO h_a (by decide) k13_2 (by decide) (fun _ _ he hv kk => th_get (ci := 11) (C := RX11) (T := TX11) (N := 66) hx hb hts inX11 hown hK hH he rfl 2 (by decide) fl7 hv dX11_tree_55 kk) ?_
        refine lv_iload_n hx hb dX11_tree_58 rfl (lv_at hl 1 rfl) ?_
        refine m_iald hx hb hK hH hO h_a k13_2 isA1 J_143_23 rv2q142 (by omega) (by omega) dX11_tree_59 (fun z_213 ez_213 rz_213 elx9 => ?_)
        refine m_iast hx hb hK hH hS h00 hO h_a k13_1 isA1 (by decide) J_143_24 rv2q142 (by omega) (by omega) rz_213 el1 dX11_tree_60 (fun σ_s_214 H locs hO hF9 hM9 ha9 hH hS => ?_)
        replace hM := hM.tu hM9 (by decide)
        replace hF := hF.tu hF9 (by decide)
        have e_215 : gI σ_s_214 a 36 = a360 := (hM9.i (by decide)).trans J_143_4
        have e_216 : gI σ_s_214 a 58 = a580 := (hM9.i (by decide)).trans J_143_5
        have e_217 : gI σ_s_214 a 59 = a590 := (hM9.i (by decide)).trans J_143_6
        have e_218 : gI σ_s_214 a 0 = 0 := (hM9.i (by decide)).trans J_143_7
        have e_219 : gI σ_s_214 a 12 = 0 := (hM9.i (by decide)).trans J_143_8
        have e_220 : gI σ_s_214 a 21 = z_73 := (hM9.i (by decide)).trans J_143_9
        have e_221 : gI σ_s_214 a 19 = z_75 := (hM9.i (by decide)).trans J_143_10
        have e_222 : gI σ_s_214 a 22 = z_83 := (hM9.i (by decide)).trans J_143_11
        have e_223 : aF σ_s_214 (ad E a 37) = f37 := (hM9.a (by decide) (by decide)).trans J_143_12
        have e_224 : aF σ_s_214 (ad E a 61) = f61 := (hM9.a (by decide) (by decide)).trans J_143_13
        have e_225 : aF σ_s_214 (ad E a 62) = f62 := (hM9.a (by decide) (by decide)).trans J_143_14
        have e_226 : aF σ_s_214 (ad E a 39) = f39 := (hM9.a (by decide) (by decide)).trans J_143_15
        have e_227 : aF σ_s_214 (ad E a 40) = f40 := (hM9.a (by decide) (by decide)).trans J_143_16
        have e_228 : aF σ_s_214 (ad E a 42) = f42 := (hM9.a (by decide) (by decide)).trans J_143_17
        have e_229 : aF σ_s_214 (ad E a 43) = f43 := (hM9.a (by decide) (by decide)).trans J_143_18
        have e_230 : aF σ_s_214 (ad E a 44) = f44 := (hM9.a (by decide) (by decide)).trans J_143_19
        have e_231 : aF σ_s_214 (ad E a 45) = f45 := (hM9.a (by decide) (by decide)).trans J_143_20
        have e_232 : aF σ_s_214 (ad E a 46) = f46 := (hM9.a (by decide) (by decide)).trans J_143_21
        have e_233 : aF σ_s_214 (ad E a 6) = f6 := (hM9.a (by decide) (by decide)).trans J_143_22
        have e_234 : aF σ_s_214 (ad E a 2) = g_71 := (hM9.a (by decide) (by decide)).trans J_143_23
        obtain ⟨g_235, dg_235⟩ : ∃ g9, g9 = upd F1q141 (v2q142).toNat (I z_213) := ⟨_, rfl⟩
        rw [← dg_235] at ha9
        have ef_236 := ha9
        refine lv_iinc (v := I (v2q142 + 1)) (lv' := [(2, .int (I (v2q142 + 1))), (0, .ref a)]) hx hb dX11_tree_61 hl (k := 1) rfl (I_add _ _) (by decide) rfl (fun ls hl => ?_)
        refine lv_goto (tgt := 39) hx hb dX11_tree_64 (by decide) ?_
        exact ihJ_143 (v2q142 + 1, g_235) σ_s_214 _ _ _ (by first | (dsimp only; omega) | omega) ⟨hO, hF, hM, hH, hS, lv_sub hl [1, 0] rfl, ⟨by first | (dsimp only; omega) | omega, by first | (dsimp only; omega) | omega⟩, by first | (dsimp only; omega) | omega, by first | (dsimp only; omega) | omega, by first | (dsimp only; omega) | omega, (J_143_3.step dg_235 (by first | (dsimp only; omega) | omega) ez_213 (by first | (dsimp only; omega) | omega) (by first | (dsimp only; omega) | omega) (by first | (dsimp only; omega) | omega)), e_215, e_216, e_217, e_218, e_219, e_220, e_221, e_222, e_223, e_224, e_225, e_226, e_227, e_228, e_229, e_230, e_231, e_232, e_233, e_234, ef_236⟩
    · replace c_82 := (I_eq (a := z_53) (b := 0) rz_53 (show rng 0 from ⟨by decide, by decide⟩)).mp c_82
      refine lv_aload_n hx hb dX11_tree_32 rfl (lv_at hl 0 rfl) ?_
      refine ok.getIc hO h_a (by decide) k13_19 e_76 (fun _ _ he hv kk => th_get (ci := 11) (C := RX11) (T := TX11) (N := 66) hx hb hts inX11 hown hK hH he rfl 19 (by decide) fl8 hv dX11_tree_33 kk) ?_
      exact th_iret hx hb hr hlocks hH hS (z := z_75) rz_75 ⟨hO, hF, hM, ⟨(by rw [show aF σ_s_52 (ad E a 1) = f1 from e_54, show aF σ_s_52 (ad E a 37) = f37 from e_55, show aF σ_s_52 (ad E a 61) = f61 from e_56, show aF σ_s_52 (ad E a 62) = f62 from e_57, show aF σ_s_52 (ad E a 39) = f39 from e_58, show aF σ_s_52 (ad E a 40) = f40 from e_59, show aF σ_s_52 (ad E a 42) = f42 from e_60, show aF σ_s_52 (ad E a 43) = f43 from e_61, show aF σ_s_52 (ad E a 44) = f44 from e_62, show aF σ_s_52 (ad E a 45) = f45 from e_63, show aF σ_s_52 (ad E a 46) = f46 from e_64]; exact ⟨hj.n (by omega) (by omega) (by omega), by omega⟩), fun _ => ⟨pp_79, (by rw [show z_75 = rr_78 by omega]; exact hT_80), by omega⟩, fun h9 => absurd (show 0 ≤ nn ∧ nn ≤ gI σ a 12 by omega) h9⟩⟩ dX11_tree_36
  · replace c_28 := (I_eq (a := z_27) (b := 0) rz_27 (show rng 0 from ⟨by decide, by decide⟩)).mp c_28
    refine lv_aload_n hx hb dX11_tree_13 rfl (lv_at hl 0 rfl) ?_
    refine lv_iconst (v := I 1) hx hb dX11_tree_14 (by decide) ?_
    obtain ⟨_, hc_237⟩ := hO.cell h_a (by decide) (ci := 11) rfl
    refine th_calli (va_runV (As := [.int (I 1)]) (rest := []) ⟨hx, hb, hml, hown, hts⟩ (n_fail l G y b0 σ_s_3 E hO a h_a 1 (show rng 1 from (show rng 1 from ⟨by decide, by decide⟩))) (cwV 1 hts gX11_tree_X11_fail rfl rfl rfl (by decide +kernel) ⟨Nat.le_of_ble_eq_true rfl, Nat.le_of_ble_eq_true rfl⟩) (th_PV hK hH rfl hc_237) rfl rfl hl.1 rfl (lv_room (Nat.le_of_ble_eq_true rfl)) dX11_tree_15 ⟨Nat.le_of_ble_eq_true rfl, Nat.le_of_ble_eq_true rfl⟩) hS (fun z_240 σ_s_239 H locs rz_240 hw_238 hH hS => ?_)
    obtain ⟨hO9, hF9, hM9, hw_238⟩ := hw_238
    replace hM := hM.tu hM9 (by decide)
    replace hF := hF.tu hF9 (by decide)
    have e_241 : aF σ_s_239 (ad E a 1) = f1 := (hM9.a (by decide) (by decide)).trans e_4
    have e_242 : aF σ_s_239 (ad E a 37) = f37 := (hM9.a (by decide) (by decide)).trans e_5
    have e_243 : aF σ_s_239 (ad E a 61) = f61 := (hM9.a (by decide) (by decide)).trans e_6
    have e_244 : aF σ_s_239 (ad E a 62) = f62 := (hM9.a (by decide) (by decide)).trans e_7
    have e_245 : aF σ_s_239 (ad E a 39) = f39 := (hM9.a (by decide) (by decide)).trans e_8
    have e_246 : aF σ_s_239 (ad E a 40) = f40 := (hM9.a (by decide) (by decide)).trans e_9
    have e_247 : aF σ_s_239 (ad E a 42) = f42 := (hM9.a (by decide) (by decide)).trans e_10
    have e_248 : aF σ_s_239 (ad E a 43) = f43 := (hM9.a (by decide) (by decide)).trans e_11
    have e_249 : aF σ_s_239 (ad E a 44) = f44 := (hM9.a (by decide) (by decide)).trans e_12
    have e_250 : aF σ_s_239 (ad E a 45) = f45 := (hM9.a (by decide) (by decide)).trans e_13
    have e_251 : aF σ_s_239 (ad E a 46) = f46 := (hM9.a (by decide) (by decide)).trans e_14
    have e_252 : aF σ_s_239 (ad E a 2) = f2 := (hM9.a (by decide) (by decide)).trans e_15
    have e_253 : aF σ_s_239 (ad E a 6) = f6 := (hM9.a (by decide) (by decide)).trans e_16
    have e_254 : gI σ_s_239 a 36 = a360 := (hM9.i (by decide)).trans e_17
    have e_255 : gI σ_s_239 a 58 = a580 := (hM9.i (by decide)).trans e_18
    have e_256 : gI σ_s_239 a 59 = a590 := (hM9.i (by decide)).trans e_19
    have e_257 : gI σ_s_239 a 12 = a120 := (hM9.i (by decide)).trans e_20
    have e_258 : gI σ_s_239 a 21 = a210 := (hM9.i (by decide)).trans e_21
    have e_259 : gI σ_s_239 a 19 = z_1 := (hM9.i (by decide)).trans e_22
    replace hO := hO9
    replace hw_238 : z_240 = 0 ∧ gI σ_s_239 a 0 = 1 := hw_238
    exact th_iret hx hb hr hlocks hH hS (z := z_240) rz_240 ⟨hO, hF, hM, ⟨(by rw [show aF σ_s_239 (ad E a 1) = f1 from e_241, show aF σ_s_239 (ad E a 37) = f37 from e_242, show aF σ_s_239 (ad E a 61) = f61 from e_243, show aF σ_s_239 (ad E a 62) = f62 from e_244, show aF σ_s_239 (ad E a 39) = f39 from e_245, show aF σ_s_239 (ad E a 40) = f40 from e_246, show aF σ_s_239 (ad E a 42) = f42 from e_247, show aF σ_s_239 (ad E a 43) = f43 from e_248, show aF σ_s_239 (ad E a 44) = f44 from e_249, show aF σ_s_239 (ad E a 45) = f45 from e_250, show aF σ_s_239 (ad E a 46) = f46 from e_251]; exact ⟨hj.n (by omega) (by omega) (by omega), by omega⟩), fun h9 => absurd h9 (by omega), fun _ => by omega⟩⟩ dX11_tree_18

set_option maxHeartbeats 20000000 in
set_option maxRecDepth 100000 in
theorem j9_fault (l : Launch) (G : va_G) (y : Nat → ClassId) (b0 : Nat) (σ : th_M) (E : th_E) (hO : ok y E σ) (a : Nat) (h_a : kd E a = 13) (f1 : Nat → Int32) (ef1 : aF σ (ad E a 1) = f1) (f37 : Nat → Int32) (ef37 : aF σ (ad E a 37) = f37) (f61 : Nat → Int32) (ef61 : aF σ (ad E a 61) = f61) (f62 : Nat → Int32) (ef62 : aF σ (ad E a 62) = f62) (f39 : Nat → Int32) (ef39 : aF σ (ad E a 39) = f39) (f40 : Nat → Int32) (ef40 : aF σ (ad E a 40) = f40) (f42 : Nat → Int32) (ef42 : aF σ (ad E a 42) = f42) (f43 : Nat → Int32) (ef43 : aF σ (ad E a 43) = f43) (f44 : Nat → Int32) (ef44 : aF σ (ad E a 44) = f44) (f45 : Nat → Int32) (ef45 : aF σ (ad E a 45) = f45) (f46 : Nat → Int32) (ef46 : aF σ (ad E a 46) = f46) (hy0 : jw f1 f37 f61 f62 f39 f40 f42 f43 f44 f45 f46 (gI σ a 36) (gI σ a 58) (gI σ a 59)) : Met l yX11_fault wsX11_fault ({ frames := 0, cells := 0, slots := 0, locals := 0 }) (th_P G y b0 σ [.ref a]) (th_Qi G b0 (fun r σ1 => ok y E σ1 ∧ fr [13] E σ σ1 ∧ fm [0] E σ σ1 a ∧ ((jw (aF σ1 (ad E a 1)) (aF σ1 (ad E a 37)) (aF σ1 (ad E a 61)) (aF σ1 (ad E a 62)) (aF σ1 (ad E a 39)) (aF σ1 (ad E a 40)) (aF σ1 (ad E a 42)) (aF σ1 (ad E a 43)) (aF σ1 (ad E a 44)) (aF σ1 (ad E a 45)) (aF σ1 (ad E a 46)) (gI σ1 a 36) (gI σ1 a 58) (gI σ1 a 59) ∧ (gI σ1 a 12 = gI σ a 12)) ∧ r = gI σ a 21))) 0 0 (th_A b0) := by
  refine Met.ofW (cc := cX11_fault) (maxL := 1) (ret := (some .int)) (by decide) rfl ?_
  intro p e s m args below meth c s₁ B hml hv
  obtain ⟨rfl, hH, hK⟩ := hv
  have hx := B.exec
  have hb := B.bytes
  have hr := B.returns
  have hts := atoms_spec (ws := wsX11_fault) B.pre
  have hown : s.vm.findClass RX11 = some m.cls := findClass_of_methodNamed B.named
  have hlocks := B.notSynchronized
  have h00 : b0 ≤ s.heap.size := hH.1
  have hS : va_S (th_A b0) s.heap s.heap [] := va_S.rf
  have hF : fr [13] E σ σ := fr.rf
  have hM : fm [0] E σ σ a := fm.rf
  have hj := hy0
  have hw1 := hj.1.1.1
  have hm1 := hj.1.2.1
  have hm2 := hj.1.2.2.1
  have hm3 := hj.2.2.2.2.1
  have hm4 := hj.2.2.2.2.2.1
  have inX11 : ∀ w ∈ wsX110, w ∈ wsX11_fault := by decide +kernel
  have fl0 := hts (.fieldLink RX11 111 "NestQueryModel" "code" "I") (by decide +kernel)
  have fl1 := hts (.fieldLink RX11 31 "NestQueryModel" "faultPlace" "I") (by decide +kernel)
  have hl := lv_entry ([.ref a]) (n := 1) (Nat.le_of_ble_eq_true rfl)
  rw [lg_entry_eq]
  generalize (lg_sl ([.ref a]) ++ List.replicate (1 - (lg_sl ([.ref a])).length) Slot.unset).toArray = ls at hl ⊢
  have hl : lv_has ls 1 [(0, .ref a)] := hl
  obtain ⟨a360, ea360, ra360, la360, ua360⟩ := hO.gi h_a (by decide) k13_36
  obtain ⟨a580, ea580, ra580, la580, ua580⟩ := hO.gi h_a (by decide) k13_58
  obtain ⟨a590, ea590, ra590, la590, ua590⟩ := hO.gi h_a (by decide) k13_59
  obtain ⟨a120, ea120, ra120, la120, ua120⟩ := hO.gi h_a (by decide) k13_12
  obtain ⟨a210, ea210, ra210, la210, ua210⟩ := hO.gi h_a (by decide) k13_21
  refine lv_aload_n hx hb dX11_fault_0 rfl (lv_at hl 0 rfl) ?_
  refine lv_iconst (v := I 0) hx hb dX11_fault_1 (by decide) ?_
  refine ok.putJ hO h_a k13_0 (show rng 0 from ⟨by decide, by decide⟩) (by omega) (by omega) (fun _ he hl9 kk => th_put (ci := 11) (v := .int (I 0)) (ty := .int) (C := RX11) (T := TX11) (N := 66) hx hb hts inX11 tyX11 tyX11_ok nmX11 hown hK hH hS h00 he rfl 0 (by decide) fl0 rfl (by decide +kernel) rfl rfl hl9 dX11_fault_2 kk) (fun σ_s_1 H locs hO hF9 hM9 hg9 ha9 hH hS => ?_)
  replace hM := hM.tu hM9 (by decide)
  replace hF := hF.tu hF9 (by decide)
  have e_2 : aF σ_s_1 (ad E a 1) = f1 := (hM9.a (by decide) (by decide)).trans ef1
  have e_3 : aF σ_s_1 (ad E a 37) = f37 := (hM9.a (by decide) (by decide)).trans ef37
  have e_4 : aF σ_s_1 (ad E a 61) = f61 := (hM9.a (by decide) (by decide)).trans ef61
  have e_5 : aF σ_s_1 (ad E a 62) = f62 := (hM9.a (by decide) (by decide)).trans ef62
  have e_6 : aF σ_s_1 (ad E a 39) = f39 := (hM9.a (by decide) (by decide)).trans ef39
  have e_7 : aF σ_s_1 (ad E a 40) = f40 := (hM9.a (by decide) (by decide)).trans ef40
  have e_8 : aF σ_s_1 (ad E a 42) = f42 := (hM9.a (by decide) (by decide)).trans ef42
  have e_9 : aF σ_s_1 (ad E a 43) = f43 := (hM9.a (by decide) (by decide)).trans ef43
  have e_10 : aF σ_s_1 (ad E a 44) = f44 := (hM9.a (by decide) (by decide)).trans ef44
  have e_11 : aF σ_s_1 (ad E a 45) = f45 := (hM9.a (by decide) (by decide)).trans ef45
  have e_12 : aF σ_s_1 (ad E a 46) = f46 := (hM9.a (by decide) (by decide)).trans ef46
  have e_13 : gI σ_s_1 a 36 = a360 := (hM9.i (by decide)).trans ea360
  have e_14 : gI σ_s_1 a 58 = a580 := (hM9.i (by decide)).trans ea580
  have e_15 : gI σ_s_1 a 59 = a590 := (hM9.i (by decide)).trans ea590
  have e_16 : gI σ_s_1 a 12 = a120 := (hM9.i (by decide)).trans ea120
  have e_17 : gI σ_s_1 a 21 = a210 := (hM9.i (by decide)).trans ea210
  have e_18 := hg9
  refine lv_aload_n hx hb dX11_fault_5 rfl (lv_at hl 0 rfl) ?_
  refine ok.getIc hO h_a (by decide) k13_21 e_17 (fun _ _ he hv kk => th_get (ci := 11) (C := RX11) (T := TX11) (N := 66) hx hb hts inX11 hown hK hH he rfl 21 (by decide) fl1 hv dX11_fault_6 kk) ?_
  exact th_iret hx hb hr hlocks hH hS (z := a210) ra210 ⟨hO, hF, hM, ⟨(by rw [show aF σ_s_1 (ad E a 1) = f1 from e_2, show aF σ_s_1 (ad E a 37) = f37 from e_3, show aF σ_s_1 (ad E a 61) = f61 from e_4, show aF σ_s_1 (ad E a 62) = f62 from e_5, show aF σ_s_1 (ad E a 39) = f39 from e_6, show aF σ_s_1 (ad E a 40) = f40 from e_7, show aF σ_s_1 (ad E a 42) = f42 from e_8, show aF σ_s_1 (ad E a 43) = f43 from e_9, show aF σ_s_1 (ad E a 44) = f44 from e_10, show aF σ_s_1 (ad E a 45) = f45 from e_11, show aF σ_s_1 (ad E a 46) = f46 from e_12]; exact ⟨hj.n (by omega) (by omega) (by omega), by omega⟩), by omega⟩⟩ dX11_fault_9

set_option maxHeartbeats 20000000 in
set_option maxRecDepth 100000 in
theorem j9_path (l : Launch) (G : va_G) (y : Nat → ClassId) (b0 : Nat) (σ : th_M) (E : th_E) (hO : ok y E σ) (a : Nat) (h_a : kd E a = 13) (slot : Int) (rslot : rng slot) (nn : Int) (rnn : rng nn) (f1 : Nat → Int32) (ef1 : aF σ (ad E a 1) = f1) (f37 : Nat → Int32) (ef37 : aF σ (ad E a 37) = f37) (f61 : Nat → Int32) (ef61 : aF σ (ad E a 61) = f61) (f62 : Nat → Int32) (ef62 : aF σ (ad E a 62) = f62) (f39 : Nat → Int32) (ef39 : aF σ (ad E a 39) = f39) (f40 : Nat → Int32) (ef40 : aF σ (ad E a 40) = f40) (f42 : Nat → Int32) (ef42 : aF σ (ad E a 42) = f42) (f43 : Nat → Int32) (ef43 : aF σ (ad E a 43) = f43) (f44 : Nat → Int32) (ef44 : aF σ (ad E a 44) = f44) (f45 : Nat → Int32) (ef45 : aF σ (ad E a 45) = f45) (f46 : Nat → Int32) (ef46 : aF σ (ad E a 46) = f46) (f6 : Nat → Int32) (ef6 : aF σ (ad E a 6) = f6) (f8 : Nat → Int32) (ef8 : aF σ (ad E a 8) = f8) (T : tkT) (hSt : (((0 ≤ slot ∧ slot ≤ 3) ∧ 0 ≤ nn ∧ nn ≤ gI σ a 12) → tkSt (byf f6 nn) T)) (hy0 : jw f1 f37 f61 f62 f39 f40 f42 f43 f44 f45 f46 (gI σ a 36) (gI σ a 58) (gI σ a 59)) : Met l yX11_path wsX11_path ({ frames := 50, cells := 0, slots := 0, locals := 1686 }) (th_P G y b0 σ [.ref a, .int (I slot), .int (I nn)]) (th_Qi G b0 (fun r σ1 => ok y E σ1 ∧ fr [13] E σ σ1 ∧ fm [0, 4, 7, 8, 9, 10, 11, 12, 13, 14, 15, 16, 17, 18, 19, 20, 21, 23, 24, 25, 26, 27, 28, 29, 30] E σ σ1 a ∧ ((jw (aF σ1 (ad E a 1)) (aF σ1 (ad E a 37)) (aF σ1 (ad E a 61)) (aF σ1 (ad E a 62)) (aF σ1 (ad E a 39)) (aF σ1 (ad E a 40)) (aF σ1 (ad E a 42)) (aF σ1 (ad E a 43)) (aF σ1 (ad E a 44)) (aF σ1 (ad E a 45)) (aF σ1 (ad E a 46)) (gI σ1 a 36) (gI σ1 a 58) (gI σ1 a 59) ∧ ((((0 ≤ slot ∧ slot ≤ 3) ∧ 0 ≤ nn ∧ nn ≤ gI σ a 12) ∧ gI σ1 a 12 = 0) ∨ (¬ ((0 ≤ slot ∧ slot ≤ 3) ∧ 0 ≤ nn ∧ nn ≤ gI σ a 12) ∧ gI σ1 a 12 = gI σ a 12))) ∧ (((0 ≤ slot ∧ slot ≤ 3) ∧ 0 ≤ nn ∧ nn ≤ gI σ a 12) → PthR T r (gI σ1 a 21) ∧ (r ≠ 0 → (aF σ1 (ad E a 8)) = f8) ∧ (r = 0 → (aF σ1 (ad E a 8)) = upd f8 slot.toNat (I (nn + 1)))) ∧ (¬ ((0 ≤ slot ∧ slot ≤ 3) ∧ 0 ≤ nn ∧ nn ≤ gI σ a 12) → gI σ1 a 21 = gI σ a 21 ∧ (aF σ1 (ad E a 8)) = f8)))) 0 0 (th_A b0) := by
  refine Met.ofW (cc := cX11_path) (maxL := 4) (ret := (some .int)) (by decide) rfl ?_
  intro p e s m args below meth c s₁ B hml hv
  obtain ⟨rfl, hH, hK⟩ := hv
  have hx := B.exec
  have hb := B.bytes
  have hr := B.returns
  have hts := atoms_spec (ws := wsX11_path) B.pre
  have hown : s.vm.findClass RX11 = some m.cls := findClass_of_methodNamed B.named
  have hlocks := B.notSynchronized
  have h00 : b0 ≤ s.heap.size := hH.1
  have hS : va_S (th_A b0) s.heap s.heap [] := va_S.rf
  have hF : fr [13] E σ σ := fr.rf
  have hM : fm [0, 4, 7, 8, 9, 10, 11, 12, 13, 14, 15, 16, 17, 18, 19, 20, 21, 23, 24, 25, 26, 27, 28, 29, 30] E σ σ a := fm.rf
  have hj := hy0
  have hw1 := hj.1.1.1
  have hm1 := hj.1.2.1
  have hm2 := hj.1.2.2.1
  have hm3 := hj.2.2.2.2.1
  have hm4 := hj.2.2.2.2.2.1
  have inX11 : ∀ w ∈ wsX110, w ∈ wsX11_path := by decide +kernel
  have fl0 := hts (.fieldLink RX11 111 "NestQueryModel" "code" "I") (by decide +kernel)
  have fl1 := hts (.fieldLink RX11 114 "NestQueryModel" "taped" "I") (by decide +kernel)
  have fl2 := hts (.fieldLink RX11 300 "NestQueryModel" "isGone" "Z") (by decide +kernel)
  have fl3 := hts (.fieldLink RX11 22 "NestQueryModel" "tape" "[I") (by decide +kernel)
  have fl4 := hts (.fieldLink RX11 28 "NestQueryModel" "pathSize" "[I") (by decide +kernel)
  have fl5 := hts (.fieldLink RX11 25 "NestQueryModel" "paths" "[I") (by decide +kernel)
  have fl6 := hts (.fieldLink RX11 162 "NestQueryModel" "bad" "I") (by decide +kernel)
  have hl := lv_entry ([.ref a, .int (I slot), .int (I nn)]) (n := 4) (Nat.le_of_ble_eq_true rfl)
  rw [lg_entry_eq]
  generalize (lg_sl ([.ref a, .int (I slot), .int (I nn)]) ++ List.replicate (4 - (lg_sl ([.ref a, .int (I slot), .int (I nn)])).length) Slot.unset).toArray = ls at hl ⊢
  have hl : lv_has ls 4 [(0, .ref a), (1, .int (I slot)), (2, .int (I nn))] := hl
  obtain ⟨a360, ea360, ra360, la360, ua360⟩ := hO.gi h_a (by decide) k13_36
  obtain ⟨a580, ea580, ra580, la580, ua580⟩ := hO.gi h_a (by decide) k13_58
  obtain ⟨a590, ea590, ra590, la590, ua590⟩ := hO.gi h_a (by decide) k13_59
  obtain ⟨a120, ea120, ra120, la120, ua120⟩ := hO.gi h_a (by decide) k13_12
  obtain ⟨a210, ea210, ra210, la210, ua210⟩ := hO.gi h_a (by decide) k13_21
  refine lv_aload_n hx hb dX11_path_0 rfl (lv_at hl 0 rfl) ?_
  refine lv_iconst (v := I 0) hx hb dX11_path_1 (by decide) ?_
  obtain ⟨z_1, e_2, rz_1, lz_1, uz_1⟩ := hO.gi h_a (by decide) k13_19
  obtain ⟨z_3, e_4, rz_3, lz_3, uz_3⟩ := hO.gi h_a (by decide) k13_20
  refine ok.putJ hO h_a k13_0 (show rng 0 from ⟨by decide, by decide⟩) (by omega) (by omega) (fun _ he hl9 kk => th_put (ci := 11) (v := .int (I 0)) (ty := .int) (C := RX11) (T := TX11) (N := 66) hx hb hts inX11 tyX11 tyX11_ok nmX11 hown hK hH hS h00 he rfl 0 (by decide) fl0 rfl (by decide +kernel) rfl rfl hl9 dX11_path_2 kk) (fun σ_s_5 H locs hO hF9 hM9 hg9 ha9 hH hS => ?_)
  replace hM := hM.tu hM9 (by decide)
  replace hF := hF.tu hF9 (by decide)
  have e_6 : aF σ_s_5 (ad E a 1) = f1 := (hM9.a (by decide) (by decide)).trans ef1
  have e_7 : aF σ_s_5 (ad E a 37) = f37 := (hM9.a (by decide) (by decide)).trans ef37
  have e_8 : aF σ_s_5 (ad E a 61) = f61 := (hM9.a (by decide) (by decide)).trans ef61
  have e_9 : aF σ_s_5 (ad E a 62) = f62 := (hM9.a (by decide) (by decide)).trans ef62
  have e_10 : aF σ_s_5 (ad E a 39) = f39 := (hM9.a (by decide) (by decide)).trans ef39
  have e_11 : aF σ_s_5 (ad E a 40) = f40 := (hM9.a (by decide) (by decide)).trans ef40
  have e_12 : aF σ_s_5 (ad E a 42) = f42 := (hM9.a (by decide) (by decide)).trans ef42
  have e_13 : aF σ_s_5 (ad E a 43) = f43 := (hM9.a (by decide) (by decide)).trans ef43
  have e_14 : aF σ_s_5 (ad E a 44) = f44 := (hM9.a (by decide) (by decide)).trans ef44
  have e_15 : aF σ_s_5 (ad E a 45) = f45 := (hM9.a (by decide) (by decide)).trans ef45
  have e_16 : aF σ_s_5 (ad E a 46) = f46 := (hM9.a (by decide) (by decide)).trans ef46
  have e_17 : aF σ_s_5 (ad E a 6) = f6 := (hM9.a (by decide) (by decide)).trans ef6
  have e_18 : aF σ_s_5 (ad E a 8) = f8 := (hM9.a (by decide) (by decide)).trans ef8
  have e_19 : gI σ_s_5 a 36 = a360 := (hM9.i (by decide)).trans ea360
  have e_20 : gI σ_s_5 a 58 = a580 := (hM9.i (by decide)).trans ea580
  have e_21 : gI σ_s_5 a 59 = a590 := (hM9.i (by decide)).trans ea590
  have e_22 : gI σ_s_5 a 12 = a120 := (hM9.i (by decide)).trans ea120
  have e_23 : gI σ_s_5 a 21 = a210 := (hM9.i (by decide)).trans ea210
  have e_24 : gI σ_s_5 a 19 = z_1 := (hM9.i (by decide)).trans e_2
  have e_25 : gI σ_s_5 a 20 = z_3 := (hM9.i (by decide)).trans e_4
  have e_26 := hg9
  refine lv_iload_n hx hb dX11_path_5 rfl (lv_at hl 1 rfl) ?_
  refine lv_iconst (v := I 0) hx hb dX11_path_6 (by decide) ?_
  refine lv_iconst (v := I 3) hx hb dX11_path_7 (by decide) ?_
  refine th_calli (va_runS (As := [.int (I slot), .int (I 0), .int (I 3)]) (rest := []) ⟨hx, hb, hml, hown, hts⟩ (w_isIn l G y b0 σ_s_5 E hO slot (show rng slot from rslot) 0 (show rng 0 from (show rng 0 from ⟨by decide, by decide⟩)) 3 (show rng 3 from (show rng 3 from ⟨by decide, by decide⟩))) (va_cwS 3 hts gX11_path_X11_isIn rfl rfl rfl (by decide +kernel) ⟨Nat.le_of_ble_eq_true rfl, Nat.le_of_ble_eq_true rfl⟩) (th_PS hK hH) rfl rfl hl.1 rfl (lv_room (Nat.le_of_ble_eq_true rfl)) dX11_path_8 ⟨Nat.le_of_ble_eq_true rfl, Nat.le_of_ble_eq_true rfl⟩) hS (fun z_29 σ_s_28 H locs rz_29 hw_27 hH hS => ?_)
  obtain ⟨e9, bhw_27, hw_27⟩ := hw_27
  replace e9 := e9.symm
  subst e9
  replace hw_27 : (z_29 = 1 ∧ 0 ≤ slot ∧ slot ≤ 3) ∨ (z_29 = 0 ∧ ¬ (0 ≤ slot ∧ slot ≤ 3)) := hw_27
  refine lv_if_ne (tgt := 20) hx hb dX11_path_11 (by decide) (fun c_30 => ?_) (fun c_30 => ?_)
  · replace c_30 := mt (I_eq (a := z_29) (b := 0) rz_29 (show rng 0 from ⟨by decide, by decide⟩)).mpr c_30
    refine lv_aload_n hx hb dX11_path_20 rfl (lv_at hl 0 rfl) ?_
    refine lv_iload_n hx hb dX11_path_21 rfl (lv_at hl 2 rfl) ?_
    obtain ⟨_, hc_31⟩ := hO.cell h_a (by decide) (ci := 11) rfl
    refine th_calli (va_runV (As := [.int (I nn)]) (rest := []) ⟨hx, hb, hml, hown, hts⟩ (m_isTape l G y b0 σ_s_5 E hO a h_a nn (show rng nn from rnn)) (cwV 1 hts gX11_path_X11_isTape rfl rfl rfl (by decide +kernel) ⟨Nat.le_of_ble_eq_true rfl, Nat.le_of_ble_eq_true rfl⟩) (th_PV hK hH rfl hc_31) rfl rfl hl.1 rfl (lv_room (Nat.le_of_ble_eq_true rfl)) dX11_path_22 ⟨Nat.le_of_ble_eq_true rfl, Nat.le_of_ble_eq_true rfl⟩) hS (fun z_34 σ_s_33 H locs rz_34 hw_32 hH hS => ?_)
    obtain ⟨e9, bhw_32, hw_32⟩ := hw_32
    replace e9 := e9.symm
    subst e9
    replace hw_32 : (z_34 = 1 ∧ 0 ≤ nn ∧ nn ≤ gI σ_s_5 a 12) ∨ (z_34 = 0 ∧ ¬ (0 ≤ nn ∧ nn ≤ gI σ_s_5 a 12)) := hw_32
    refine lv_if_ne (tgt := 34) hx hb dX11_path_25 (by decide) (fun c_35 => ?_) (fun c_35 => ?_)
    · replace c_35 := mt (I_eq (a := z_34) (b := 0) rz_34 (show rng 0 from ⟨by decide, by decide⟩)).mpr c_35
      refine lv_aload_n hx hb dX11_path_34 rfl (lv_at hl 0 rfl) ?_
      refine lv_iconst (v := I 0) hx hb dX11_path_35 (by decide) ?_
      refine ok.putJ hO h_a k13_12 (show rng 0 from ⟨by decide, by decide⟩) (by omega) (by omega) (fun _ he hl9 kk => th_put (ci := 11) (v := .int (I 0)) (ty := .int) (C := RX11) (T := TX11) (N := 66) hx hb hts inX11 tyX11 tyX11_ok nmX11 hown hK hH hS h00 he rfl 12 (by decide) fl1 rfl (by decide +kernel) rfl rfl hl9 dX11_path_36 kk) (fun σ_s_36 H locs hO hF9 hM9 hg9 ha9 hH hS => ?_)
      replace hM := hM.tu hM9 (by decide)
      replace hF := hF.tu hF9 (by decide)
      have e_37 : aF σ_s_36 (ad E a 1) = f1 := (hM9.a (by decide) (by decide)).trans e_6
      have e_38 : aF σ_s_36 (ad E a 37) = f37 := (hM9.a (by decide) (by decide)).trans e_7
      have e_39 : aF σ_s_36 (ad E a 61) = f61 := (hM9.a (by decide) (by decide)).trans e_8
      have e_40 : aF σ_s_36 (ad E a 62) = f62 := (hM9.a (by decide) (by decide)).trans e_9
      have e_41 : aF σ_s_36 (ad E a 39) = f39 := (hM9.a (by decide) (by decide)).trans e_10
      have e_42 : aF σ_s_36 (ad E a 40) = f40 := (hM9.a (by decide) (by decide)).trans e_11
      have e_43 : aF σ_s_36 (ad E a 42) = f42 := (hM9.a (by decide) (by decide)).trans e_12
      have e_44 : aF σ_s_36 (ad E a 43) = f43 := (hM9.a (by decide) (by decide)).trans e_13
      have e_45 : aF σ_s_36 (ad E a 44) = f44 := (hM9.a (by decide) (by decide)).trans e_14
      have e_46 : aF σ_s_36 (ad E a 45) = f45 := (hM9.a (by decide) (by decide)).trans e_15
      have e_47 : aF σ_s_36 (ad E a 46) = f46 := (hM9.a (by decide) (by decide)).trans e_16
      have e_48 : aF σ_s_36 (ad E a 6) = f6 := (hM9.a (by decide) (by decide)).trans e_17
      have e_49 : aF σ_s_36 (ad E a 8) = f8 := (hM9.a (by decide) (by decide)).trans e_18
      have e_50 : gI σ_s_36 a 36 = a360 := (hM9.i (by decide)).trans e_19
      have e_51 : gI σ_s_36 a 58 = a580 := (hM9.i (by decide)).trans e_20
      have e_52 : gI σ_s_36 a 59 = a590 := (hM9.i (by decide)).trans e_21
      have e_53 : gI σ_s_36 a 21 = a210 := (hM9.i (by decide)).trans e_23
      have e_54 : gI σ_s_36 a 19 = z_1 := (hM9.i (by decide)).trans e_24
      have e_55 : gI σ_s_36 a 20 = z_3 := (hM9.i (by decide)).trans e_25
      have e_56 : gI σ_s_36 a 0 = 0 := (hM9.i (by decide)).trans e_26
      have e_57 := hg9
      refine lv_aload_n hx hb dX11_path_39 rfl (lv_at hl 0 rfl) ?_
      refine lv_iconst (v := I 0) hx hb dX11_path_40 (by decide) ?_
      refine ok.putJ hO h_a k13_25 (show rng 0 from ⟨by decide, by decide⟩) (by omega) (by omega) (fun _ he hl9 kk => th_put (ci := 11) (v := .int (I 0)) (ty := .boolean) (C := RX11) (T := TX11) (N := 66) hx hb hts inX11 tyX11 tyX11_ok nmX11 hown hK hH hS h00 he rfl 25 (by decide) fl2 rfl (by decide +kernel) (nar_z (by omega)) rfl hl9 dX11_path_41 kk) (fun σ_s_58 H locs hO hF9 hM9 hg9 ha9 hH hS => ?_)
      replace hM := hM.tu hM9 (by decide)
      replace hF := hF.tu hF9 (by decide)
      have e_59 : aF σ_s_58 (ad E a 1) = f1 := (hM9.a (by decide) (by decide)).trans e_37
      have e_60 : aF σ_s_58 (ad E a 37) = f37 := (hM9.a (by decide) (by decide)).trans e_38
      have e_61 : aF σ_s_58 (ad E a 61) = f61 := (hM9.a (by decide) (by decide)).trans e_39
      have e_62 : aF σ_s_58 (ad E a 62) = f62 := (hM9.a (by decide) (by decide)).trans e_40
      have e_63 : aF σ_s_58 (ad E a 39) = f39 := (hM9.a (by decide) (by decide)).trans e_41
      have e_64 : aF σ_s_58 (ad E a 40) = f40 := (hM9.a (by decide) (by decide)).trans e_42
      have e_65 : aF σ_s_58 (ad E a 42) = f42 := (hM9.a (by decide) (by decide)).trans e_43
      have e_66 : aF σ_s_58 (ad E a 43) = f43 := (hM9.a (by decide) (by decide)).trans e_44
      have e_67 : aF σ_s_58 (ad E a 44) = f44 := (hM9.a (by decide) (by decide)).trans e_45
      have e_68 : aF σ_s_58 (ad E a 45) = f45 := (hM9.a (by decide) (by decide)).trans e_46
      have e_69 : aF σ_s_58 (ad E a 46) = f46 := (hM9.a (by decide) (by decide)).trans e_47
      have e_70 : aF σ_s_58 (ad E a 6) = f6 := (hM9.a (by decide) (by decide)).trans e_48
      have e_71 : aF σ_s_58 (ad E a 8) = f8 := (hM9.a (by decide) (by decide)).trans e_49
      have e_72 : gI σ_s_58 a 36 = a360 := (hM9.i (by decide)).trans e_50
      have e_73 : gI σ_s_58 a 58 = a580 := (hM9.i (by decide)).trans e_51
      have e_74 : gI σ_s_58 a 59 = a590 := (hM9.i (by decide)).trans e_52
      have e_75 : gI σ_s_58 a 21 = a210 := (hM9.i (by decide)).trans e_53
      have e_76 : gI σ_s_58 a 19 = z_1 := (hM9.i (by decide)).trans e_54
      have e_77 : gI σ_s_58 a 20 = z_3 := (hM9.i (by decide)).trans e_55
      have e_78 : gI σ_s_58 a 0 = 0 := (hM9.i (by decide)).trans e_56
      have e_79 : gI σ_s_58 a 12 = 0 := (hM9.i (by decide)).trans e_57
      have e_80 := hg9
      refine lv_aload_n hx hb dX11_path_44 rfl (lv_at hl 0 rfl) ?_
      refine lv_aload_n hx hb dX11_path_45 rfl (lv_at hl 0 rfl) ?_
      refine ok.getR hO h_a (by decide) k13_6 (by decide) (fun _ _ he hv kk => th_get (ci := 11) (C := RX11) (T := TX11) (N := 66) hx hb hts inX11 hown hK hH he rfl 6 (by decide) fl3 hv dX11_path_46 kk) ?_
      refine lv_iconst (v := I 0) hx hb dX11_path_49 (by decide) ?_
      refine lv_iload_n hx hb dX11_path_50 rfl (lv_at hl 2 rfl) ?_
      obtain ⟨_, hc_81⟩ := hO.cell h_a (by decide) (ci := 11) rfl
      refine th_callv (va_runV (As := [.ref (ad E a 6), .int (I 0), .int (I nn)]) (rest := []) ⟨hx, hb, hml, hown, hts⟩ (n_begin6 l G y b0 σ_s_58 E hO a h_a 0 (show rng 0 from (show rng 0 from ⟨by decide, by decide⟩)) (by omega) (by omega) nn (show rng nn from rnn) (by omega) (by omega) f6 e_70 T (hSt (by omega))) (cwV 3 hts gX11_path_X11_beginText rfl rfl rfl (by decide +kernel) ⟨Nat.le_of_ble_eq_true rfl, Nat.le_of_ble_eq_true rfl⟩) (th_PV hK hH rfl hc_81) rfl rfl hl.1 rfl (lv_room (Nat.le_of_ble_eq_true rfl)) dX11_path_51 ⟨Nat.le_of_ble_eq_true rfl, Nat.le_of_ble_eq_true rfl⟩) hS (fun σ_s_83 H locs hw_82 hH hS => ?_)
      obtain ⟨hO9, hF9, hM9, hw_82⟩ := hw_82
      replace hM := hM.tu hM9 (by decide)
      replace hF := hF.tu hF9 (by decide)
      have e_84 : aF σ_s_83 (ad E a 1) = f1 := (hM9.a (by decide) (by decide)).trans e_59
      have e_85 : aF σ_s_83 (ad E a 37) = f37 := (hM9.a (by decide) (by decide)).trans e_60
      have e_86 : aF σ_s_83 (ad E a 61) = f61 := (hM9.a (by decide) (by decide)).trans e_61
      have e_87 : aF σ_s_83 (ad E a 62) = f62 := (hM9.a (by decide) (by decide)).trans e_62
      have e_88 : aF σ_s_83 (ad E a 39) = f39 := (hM9.a (by decide) (by decide)).trans e_63
      have e_89 : aF σ_s_83 (ad E a 40) = f40 := (hM9.a (by decide) (by decide)).trans e_64
      have e_90 : aF σ_s_83 (ad E a 42) = f42 := (hM9.a (by decide) (by decide)).trans e_65
      have e_91 : aF σ_s_83 (ad E a 43) = f43 := (hM9.a (by decide) (by decide)).trans e_66
      have e_92 : aF σ_s_83 (ad E a 44) = f44 := (hM9.a (by decide) (by decide)).trans e_67
      have e_93 : aF σ_s_83 (ad E a 45) = f45 := (hM9.a (by decide) (by decide)).trans e_68
      have e_94 : aF σ_s_83 (ad E a 46) = f46 := (hM9.a (by decide) (by decide)).trans e_69
      have e_95 : aF σ_s_83 (ad E a 6) = f6 := (hM9.a (by decide) (by decide)).trans e_70
      have e_96 : aF σ_s_83 (ad E a 8) = f8 := (hM9.a (by decide) (by decide)).trans e_71
      have e_97 : gI σ_s_83 a 36 = a360 := (hM9.i (by decide)).trans e_72
      have e_98 : gI σ_s_83 a 58 = a580 := (hM9.i (by decide)).trans e_73
      have e_99 : gI σ_s_83 a 59 = a590 := (hM9.i (by decide)).trans e_74
      have e_100 : gI σ_s_83 a 21 = a210 := (hM9.i (by decide)).trans e_75
      have e_101 : gI σ_s_83 a 0 = 0 := (hM9.i (by decide)).trans e_78
      have e_102 : gI σ_s_83 a 12 = 0 := (hM9.i (by decide)).trans e_79
      have e_103 : gI σ_s_83 a 25 = 0 := (hM9.i (by decide)).trans e_80
      replace hO := hO9
      obtain ⟨Bf, hsr, hw_82⟩ := hw_82
      replace hw_82 : (gI σ_s_83 a 11 = nn ∧ 0 ≤ gI σ_s_83 a 17 ∧ gI σ_s_83 a 17 ≤ gI σ_s_83 a 13 ∧ gI σ_s_83 a 13 ≤ gI σ_s_83 a 11 ∧ gI σ_s_83 a 19 = 0) ∧ Bf = byf f6 nn ∧ RSt σ_s_83 a T 0 0 := hw_82
      obtain ⟨hq_104, hBe9, hR9⟩ := hw_82
      have hSt : tkSt Bf T := by rw [hBe9]; exact hSt (by omega)
      have hV9 := hR9.1
      refine lv_aload_n hx hb dX11_path_54 rfl (lv_at hl 0 rfl) ?_
      refine lv_iconst (v := I (-1)) hx hb dX11_path_55 (by decide) ?_
      obtain ⟨_, hc_105⟩ := hO.cell h_a (by decide) (ci := 11) rfl
      refine th_callv (va_runV (As := [.int (I (-1))]) (rest := []) ⟨hx, hb, hml, hown, hts⟩ (n_readPath l G y b0 σ_s_83 E hO a h_a (-1) (show rng (-1) from (show rng (-1) from ⟨by decide, by decide⟩)) f1 e_84 Bf hsr T hSt 0 0 hR9 (by omega) (by omega) (by omega) (by omega) (by omega)) (cwV 1 hts gX11_path_X11_readPath rfl rfl rfl (by decide +kernel) ⟨Nat.le_of_ble_eq_true rfl, Nat.le_of_ble_eq_true rfl⟩) (th_PV hK hH rfl hc_105) rfl rfl hl.1 rfl (lv_room (Nat.le_of_ble_eq_true rfl)) dX11_path_56 ⟨Nat.le_of_ble_eq_true rfl, Nat.le_of_ble_eq_true rfl⟩) hS (fun σ_s_107 H locs hw_106 hH hS => ?_)
      obtain ⟨hO9, hF9, hM9, hw_106⟩ := hw_106
      replace hM := hM.tu hM9 (by decide)
      replace hF := hF.tu hF9 (by decide)
      have e_108 : aF σ_s_107 (ad E a 1) = f1 := (hM9.a (by decide) (by decide)).trans e_84
      have e_109 : aF σ_s_107 (ad E a 37) = f37 := (hM9.a (by decide) (by decide)).trans e_85
      have e_110 : aF σ_s_107 (ad E a 61) = f61 := (hM9.a (by decide) (by decide)).trans e_86
      have e_111 : aF σ_s_107 (ad E a 62) = f62 := (hM9.a (by decide) (by decide)).trans e_87
      have e_112 : aF σ_s_107 (ad E a 39) = f39 := (hM9.a (by decide) (by decide)).trans e_88
      have e_113 : aF σ_s_107 (ad E a 40) = f40 := (hM9.a (by decide) (by decide)).trans e_89
      have e_114 : aF σ_s_107 (ad E a 42) = f42 := (hM9.a (by decide) (by decide)).trans e_90
      have e_115 : aF σ_s_107 (ad E a 43) = f43 := (hM9.a (by decide) (by decide)).trans e_91
      have e_116 : aF σ_s_107 (ad E a 44) = f44 := (hM9.a (by decide) (by decide)).trans e_92
      have e_117 : aF σ_s_107 (ad E a 45) = f45 := (hM9.a (by decide) (by decide)).trans e_93
      have e_118 : aF σ_s_107 (ad E a 46) = f46 := (hM9.a (by decide) (by decide)).trans e_94
      have e_119 : aF σ_s_107 (ad E a 6) = f6 := (hM9.a (by decide) (by decide)).trans e_95
      have e_120 : aF σ_s_107 (ad E a 8) = f8 := (hM9.a (by decide) (by decide)).trans e_96
      have e_121 : gI σ_s_107 a 36 = a360 := (hM9.i (by decide)).trans e_97
      have e_122 : gI σ_s_107 a 58 = a580 := (hM9.i (by decide)).trans e_98
      have e_123 : gI σ_s_107 a 59 = a590 := (hM9.i (by decide)).trans e_99
      have e_124 : gI σ_s_107 a 21 = a210 := (hM9.i (by decide)).trans e_100
      have e_125 : gI σ_s_107 a 0 = 0 := (hM9.i (by decide)).trans e_101
      have e_126 : gI σ_s_107 a 12 = 0 := (hM9.i (by decide)).trans e_102
      have e_127 : gI σ_s_107 a 25 = 0 := (hM9.i (by decide)).trans e_103
      replace hsr := hsr.mv hM9 (by decide) (by decide) (by decide) (by decide) (by decide)
      replace hO := hO9
      replace hw_106 : (0 ≤ gI σ_s_107 a 26 ∧ gI σ_s_107 a 26 ≤ 8) ∧ ∃ c1 j1, RSt σ_s_107 a T c1 j1 ∧ (c1 = 0 → tK T j1 = 259) ∧ GPe T c1 j1 := hw_106
      have hn_128 := hw_106.2
      replace hw_106 := hw_106.1
      obtain ⟨cc_129, jj_130, hR_131, hn_128⟩ := hn_128
      have hVhR_131 := hR_131.1
      obtain ⟨z_132, e_133, rz_132, lz_132, uz_132⟩ := hO.gi h_a (by decide) k13_19
      obtain ⟨z_134, e_135, rz_134, lz_134, uz_134⟩ := hO.gi h_a (by decide) k13_20
      refine lv_aload_n hx hb dX11_path_59 rfl (lv_at hl 0 rfl) ?_
      obtain ⟨_, hc_136⟩ := hO.cell h_a (by decide) (ci := 11) rfl
      refine th_calli (va_runV (As := []) (rest := []) ⟨hx, hb, hml, hown, hts⟩ (n_isRead l G y b0 σ_s_107 E hO a h_a) (cwV 0 hts gX11_path_X11_isRead rfl rfl rfl (by decide +kernel) ⟨Nat.le_of_ble_eq_true rfl, Nat.le_of_ble_eq_true rfl⟩) (th_PV hK hH rfl hc_136) rfl rfl hl.1 rfl (lv_room (Nat.le_of_ble_eq_true rfl)) dX11_path_60 ⟨Nat.le_of_ble_eq_true rfl, Nat.le_of_ble_eq_true rfl⟩) hS (fun z_139 σ_s_138 H locs rz_139 hw_137 hH hS => ?_)
      obtain ⟨hO9, hF9, hM9, bhw_137, hw_137⟩ := hw_137
      replace hM := hM.tu hM9 (by decide)
      replace hF := hF.tu hF9 (by decide)
      have e_140 : aF σ_s_138 (ad E a 1) = f1 := (hM9.a (by decide) (by decide)).trans e_108
      have e_141 : aF σ_s_138 (ad E a 37) = f37 := (hM9.a (by decide) (by decide)).trans e_109
      have e_142 : aF σ_s_138 (ad E a 61) = f61 := (hM9.a (by decide) (by decide)).trans e_110
      have e_143 : aF σ_s_138 (ad E a 62) = f62 := (hM9.a (by decide) (by decide)).trans e_111
      have e_144 : aF σ_s_138 (ad E a 39) = f39 := (hM9.a (by decide) (by decide)).trans e_112
      have e_145 : aF σ_s_138 (ad E a 40) = f40 := (hM9.a (by decide) (by decide)).trans e_113
      have e_146 : aF σ_s_138 (ad E a 42) = f42 := (hM9.a (by decide) (by decide)).trans e_114
      have e_147 : aF σ_s_138 (ad E a 43) = f43 := (hM9.a (by decide) (by decide)).trans e_115
      have e_148 : aF σ_s_138 (ad E a 44) = f44 := (hM9.a (by decide) (by decide)).trans e_116
      have e_149 : aF σ_s_138 (ad E a 45) = f45 := (hM9.a (by decide) (by decide)).trans e_117
      have e_150 : aF σ_s_138 (ad E a 46) = f46 := (hM9.a (by decide) (by decide)).trans e_118
      have e_151 : aF σ_s_138 (ad E a 6) = f6 := (hM9.a (by decide) (by decide)).trans e_119
      have e_152 : aF σ_s_138 (ad E a 8) = f8 := (hM9.a (by decide) (by decide)).trans e_120
      have e_153 : gI σ_s_138 a 36 = a360 := (hM9.i (by decide)).trans e_121
      have e_154 : gI σ_s_138 a 58 = a580 := (hM9.i (by decide)).trans e_122
      have e_155 : gI σ_s_138 a 59 = a590 := (hM9.i (by decide)).trans e_123
      have e_156 : gI σ_s_138 a 0 = 0 := (hM9.i (by decide)).trans e_125
      have e_157 : gI σ_s_138 a 12 = 0 := (hM9.i (by decide)).trans e_126
      have e_158 : gI σ_s_138 a 25 = 0 := (hM9.i (by decide)).trans e_127
      have e_159 : gI σ_s_138 a 19 = z_132 := (hM9.i (by decide)).trans e_133
      have e_160 : gI σ_s_138 a 20 = z_134 := (hM9.i (by decide)).trans e_135
      replace hsr := hsr.mv hM9 (by decide) (by decide) (by decide) (by decide) (by decide)
      replace hO := hO9
      replace hw_137 : ((z_139 = 1 ∧ gI σ_s_107 a 19 = 0) ∨ (z_139 = 0 ∧ ¬ gI σ_s_107 a 19 = 0)) ∧ ((gI σ_s_107 a 19 = 0 ∧ gI σ_s_138 a 21 = -1) ∨ (¬ gI σ_s_107 a 19 = 0 ∧ gI σ_s_138 a 21 = gI σ_s_107 a 20)) := hw_137
      obtain ⟨z_161, e_162, rz_161, lz_161, uz_161⟩ := hO.gi h_a (by decide) k13_21
      refine lv_if_ne (tgt := 71) hx hb dX11_path_63 (by decide) (fun c_163 => ?_) (fun c_163 => ?_)
      · replace c_163 := mt (I_eq (a := z_139) (b := 0) rz_139 (show rng 0 from ⟨by decide, by decide⟩)).mpr c_163
        refine lv_iconst (v := I 0) hx hb dX11_path_71 (by decide) ?_
        refine lv_istore_n (lv' := [(3, .int (I 0)), (0, .ref a), (1, .int (I slot)), (2, .int (I nn))]) hx hb dX11_path_72 rfl hl (by decide) rfl (fun ls hl => ?_)
        refine th_loop (α := Int) (pc := 73) (fun x9 => (nn - x9).toNat) (fun x9 σ9 H9 l9 ls9 => ok y E σ9 ∧ fr [13] E σ σ9 ∧ fm [0, 4, 7, 8, 9, 10, 11, 12, 13, 14, 15, 16, 17, 18, 19, 20, 21, 23, 24, 25, 26, 27, 28, 29, 30] E σ σ9 a ∧ th_H G b0 σ9 H9 ∧ va_S (th_A b0) s.heap H9 l9 ∧ lv_has ls9 4 [(0, .ref a), (1, .int (I slot)), (2, .int (I nn)), (3, .int (I x9))] ∧ rng x9 ∧ (0 ≤ x9) ∧ (x9 ≤ 400) ∧ (gI σ9 a 36 = a360) ∧ (gI σ9 a 58 = a580) ∧ (gI σ9 a 59 = a590) ∧ (gI σ9 a 0 = 0) ∧ (gI σ9 a 12 = 0) ∧ (gI σ9 a 25 = 0) ∧ (gI σ9 a 19 = z_132) ∧ (gI σ9 a 20 = z_134) ∧ (gI σ9 a 21 = z_161) ∧ (aF σ9 (ad E a 1) = f1) ∧ (aF σ9 (ad E a 37) = f37) ∧ (aF σ9 (ad E a 61) = f61) ∧ (aF σ9 (ad E a 62) = f62) ∧ (aF σ9 (ad E a 39) = f39) ∧ (aF σ9 (ad E a 40) = f40) ∧ (aF σ9 (ad E a 42) = f42) ∧ (aF σ9 (ad E a 43) = f43) ∧ (aF σ9 (ad E a 44) = f44) ∧ (aF σ9 (ad E a 45) = f45) ∧ (aF σ9 (ad E a 46) = f46) ∧ (aF σ9 (ad E a 6) = f6) ∧ (aF σ9 (ad E a 8) = f8)) ?_ (0) σ_s_138 _ _ _ ⟨hO, hF, hM, hH, hS, lv_sub hl [1, 2, 3, 0] rfl, (show rng 0 from ⟨by decide, by decide⟩), by first | (dsimp only; omega) | omega, by first | (dsimp only; omega) | omega, e_153, e_154, e_155, e_156, e_157, e_158, e_159, e_160, e_162, e_140, e_141, e_142, e_143, e_144, e_145, e_146, e_147, e_148, e_149, e_150, e_151, e_152⟩
        intro x9 σ_J_196 H locs ls hI9 ihJ_196
        obtain ⟨v3q195, ex9⟩ : ∃ z, z = x9 := ⟨_, rfl⟩
        subst ex9
        obtain ⟨hO, hF, hM, hH, hS, hl, rv3q195, J_196_0, J_196_1, J_196_2, J_196_3, J_196_4, J_196_5, J_196_6, J_196_7, J_196_8, J_196_9, J_196_10, J_196_11, J_196_12, J_196_13, J_196_14, J_196_15, J_196_16, J_196_17, J_196_18, J_196_19, J_196_20, J_196_21, J_196_22, J_196_23⟩ := hI9
        have hl : lv_has ls 4 [(0, .ref a), (1, .int (I slot)), (2, .int (I nn)), (3, .int (I v3q195))] := hl
        have rv3q195 : rng v3q195 := rv3q195
        replace J_196_0 : 0 ≤ v3q195 := J_196_0
        replace J_196_1 : v3q195 ≤ 400 := J_196_1
        replace J_196_2 : gI σ_J_196 a 36 = a360 := J_196_2
        replace J_196_3 : gI σ_J_196 a 58 = a580 := J_196_3
        replace J_196_4 : gI σ_J_196 a 59 = a590 := J_196_4
        replace J_196_5 : gI σ_J_196 a 0 = 0 := J_196_5
        replace J_196_6 : gI σ_J_196 a 12 = 0 := J_196_6
        replace J_196_7 : gI σ_J_196 a 25 = 0 := J_196_7
        replace J_196_8 : gI σ_J_196 a 19 = z_132 := J_196_8
        replace J_196_9 : gI σ_J_196 a 20 = z_134 := J_196_9
        replace J_196_10 : gI σ_J_196 a 21 = z_161 := J_196_10
        replace J_196_11 : aF σ_J_196 (ad E a 1) = f1 := J_196_11
        replace J_196_12 : aF σ_J_196 (ad E a 37) = f37 := J_196_12
        replace J_196_13 : aF σ_J_196 (ad E a 61) = f61 := J_196_13
        replace J_196_14 : aF σ_J_196 (ad E a 62) = f62 := J_196_14
        replace J_196_15 : aF σ_J_196 (ad E a 39) = f39 := J_196_15
        replace J_196_16 : aF σ_J_196 (ad E a 40) = f40 := J_196_16
        replace J_196_17 : aF σ_J_196 (ad E a 42) = f42 := J_196_17
        replace J_196_18 : aF σ_J_196 (ad E a 43) = f43 := J_196_18
        replace J_196_19 : aF σ_J_196 (ad E a 44) = f44 := J_196_19
        replace J_196_20 : aF σ_J_196 (ad E a 45) = f45 := J_196_20
        replace J_196_21 : aF σ_J_196 (ad E a 46) = f46 := J_196_21
        replace J_196_22 : aF σ_J_196 (ad E a 6) = f6 := J_196_22
        replace J_196_23 : aF σ_J_196 (ad E a 8) = f8 := J_196_23
        refine lv_iload_n hx hb dX11_path_73 rfl (lv_at hl 3 rfl) ?_
        refine lv_iload_n hx hb dX11_path_74 rfl (lv_at hl 2 rfl) ?_
        refine lv_icmp_ge (tgt := 102) hx hb dX11_path_75 (by decide) (fun c_197 => ?_) (fun c_197 => ?_)
        · replace c_197 := (I_le (a := nn) (b := v3q195) rnn rv3q195).mp c_197
          refine lv_aload_n hx hb dX11_path_102 rfl (lv_at hl 0 rfl) ?_
          refine ok.getR hO h_a (by decide) k13_8 (by decide) (fun _ _ he hv kk => th_get (ci := 11) (C := RX11) (T := TX11) (N := 66) hx hb hts inX11 hown hK hH he rfl 8 (by decide) fl4 hv dX11_path_103 kk) ?_
          refine lv_iload_n hx hb dX11_path_106 rfl (lv_at hl 1 rfl) ?_
          refine lv_iload_n hx hb dX11_path_107 rfl (lv_at hl 2 rfl) ?_
          refine lv_iconst (v := I 1) hx hb dX11_path_108 (by decide) ?_
          refine lv_iadd hx hb dX11_path_109 ?_
          refine th_addo (fun z_198 rz_198 hz_198 => ?_)
          refine m_iast hx hb hK hH hS h00 hO h_a k13_8 isA9 (by decide) J_196_23 rslot (by omega) (by omega) rz_198 (el9 (by omega) (by omega)) dX11_path_110 (fun σ_s_199 H locs hO hF9 hM9 ha9 hH hS => ?_)
          replace hM := hM.tu hM9 (by decide)
          replace hF := hF.tu hF9 (by decide)
          have e_200 : gI σ_s_199 a 36 = a360 := (hM9.i (by decide)).trans J_196_2
          have e_201 : gI σ_s_199 a 58 = a580 := (hM9.i (by decide)).trans J_196_3
          have e_202 : gI σ_s_199 a 59 = a590 := (hM9.i (by decide)).trans J_196_4
          have e_203 : gI σ_s_199 a 0 = 0 := (hM9.i (by decide)).trans J_196_5
          have e_204 : gI σ_s_199 a 12 = 0 := (hM9.i (by decide)).trans J_196_6
          have e_205 : gI σ_s_199 a 25 = 0 := (hM9.i (by decide)).trans J_196_7
          have e_206 : gI σ_s_199 a 19 = z_132 := (hM9.i (by decide)).trans J_196_8
          have e_207 : gI σ_s_199 a 20 = z_134 := (hM9.i (by decide)).trans J_196_9
          have e_208 : gI σ_s_199 a 21 = z_161 := (hM9.i (by decide)).trans J_196_10
          have e_209 : aF σ_s_199 (ad E a 1) = f1 := (hM9.a (by decide) (by decide)).trans J_196_11
          have e_210 : aF σ_s_199 (ad E a 37) = f37 := (hM9.a (by decide) (by decide)).trans J_196_12
          have e_211 : aF σ_s_199 (ad E a 61) = f61 := (hM9.a (by decide) (by decide)).trans J_196_13
          have e_212 : aF σ_s_199 (ad E a 62) = f62 := (hM9.a (by decide) (by decide)).trans J_196_14
          have e_213 : aF σ_s_199 (ad E a 39) = f39 := (hM9.a (by decide) (by decide)).trans J_196_15
          have e_214 : aF σ_s_199 (ad E a 40) = f40 := (hM9.a (by decide) (by decide)).trans J_196_16
          have e_215 : aF σ_s_199 (ad E a 42) = f42 := (hM9.a (by decide) (by decide)).trans J_196_17
          have e_216 : aF σ_s_199 (ad E a 43) = f43 := (hM9.a (by decide) (by decide)).trans J_196_18
          have e_217 : aF σ_s_199 (ad E a 44) = f44 := (hM9.a (by decide) (by decide)).trans J_196_19
          have e_218 : aF σ_s_199 (ad E a 45) = f45 := (hM9.a (by decide) (by decide)).trans J_196_20
          have e_219 : aF σ_s_199 (ad E a 46) = f46 := (hM9.a (by decide) (by decide)).trans J_196_21
          have e_220 : aF σ_s_199 (ad E a 6) = f6 := (hM9.a (by decide) (by decide)).trans J_196_22
          obtain ⟨g_221, dg_221⟩ : ∃ g9, g9 = upd f8 (slot).toNat (I z_198) := ⟨_, rfl⟩
          rw [← dg_221] at ha9
          have ef_222 := ha9
          refine lv_iconst (v := I 0) hx hb dX11_path_111 (by decide) ?_
          exact th_iret hx hb hr hlocks hH hS (z := 0) (show rng 0 from ⟨by decide, by decide⟩) ⟨hO, hF, hM, ⟨(by rw [show aF σ_s_199 (ad E a 1) = f1 from e_209, show aF σ_s_199 (ad E a 37) = f37 from e_210, show aF σ_s_199 (ad E a 61) = f61 from e_211, show aF σ_s_199 (ad E a 62) = f62 from e_212, show aF σ_s_199 (ad E a 39) = f39 from e_213, show aF σ_s_199 (ad E a 40) = f40 from e_214, show aF σ_s_199 (ad E a 42) = f42 from e_215, show aF σ_s_199 (ad E a 43) = f43 from e_216, show aF σ_s_199 (ad E a 44) = f44 from e_217, show aF σ_s_199 (ad E a 45) = f45 from e_218, show aF σ_s_199 (ad E a 46) = f46 from e_219]; exact ⟨hj.n (by omega) (by omega) (by omega), by omega⟩), fun _ => ⟨GPe.fin hn_128.2 hn_128.1 (show (0 : Int) = cc_129 by omega) (by omega), fun h9 => absurd (show (0 : Int) = 0 by omega) h9, fun _ => ef_222.trans (dg_221.trans (congrArg (fun q9 => upd f8 slot.toNat (I q9)) (show z_198 = nn + 1 by omega)))⟩, fun h9 => absurd (show ((0 ≤ slot ∧ slot ≤ 3) ∧ 0 ≤ nn ∧ nn ≤ gI σ a 12) by omega) h9⟩⟩ dX11_path_112
        · replace c_197 := mt (I_le (a := nn) (b := v3q195) rnn rv3q195).mpr c_197
          refine lv_aload_n hx hb dX11_path_78 rfl (lv_at hl 0 rfl) ?_
          refine ok.getR hO h_a (by decide) k13_7 (by decide) (fun _ _ he hv kk => th_get (ci := 11) (C := RX11) (T := TX11) (N := 66) hx hb hts inX11 hown hK hH he rfl 7 (by decide) fl5 hv dX11_path_79 kk) ?_
          refine lv_sipush (v := I 400) hx hb dX11_path_82 (by decide) ?_
          refine lv_iload_n hx hb dX11_path_85 rfl (lv_at hl 1 rfl) ?_
          refine lv_imul hx hb dX11_path_86 ?_
          refine nq_top (I_mul _ _) ?_
          refine lv_iload_n hx hb dX11_path_87 rfl (lv_at hl 3 rfl) ?_
          refine lv_iadd hx hb dX11_path_88 ?_
          refine th_addo (fun z_223 rz_223 hz_223 => ?_)
          refine lv_aload_n hx hb dX11_path_89 rfl (lv_at hl 0 rfl) ?_
          refine ok.getR hO h_a (by decide) k13_6 (by decide) (fun _ _ he hv kk => th_get (ci := 11) (C := RX11) (T := TX11) (N := 66) hx hb hts inX11 hown hK hH he rfl 6 (by decide) fl3 hv dX11_path_90 kk) ?_
          refine lv_iload_n hx hb dX11_path_93 rfl (lv_at hl 3 rfl) ?_
          refine m_iald hx hb hK hH hO h_a k13_6 isA1 J_196_22 rv3q195 (by omega) (by omega) dX11_path_94 (fun z_224 ez_224 rz_224 elx9 => ?_)
          obtain ⟨f_226, ef_227⟩ : ∃ f9, aF σ_J_196 (ad E a 7) = f9 := ⟨_, rfl⟩
          refine m_iast hx hb hK hH hS h00 hO h_a k13_7 isA1 (by decide) ef_227 rz_223 (by omega) (by omega) rz_224 el1 dX11_path_95 (fun σ_s_225 H locs hO hF9 hM9 ha9 hH hS => ?_)
          replace hM := hM.tu hM9 (by decide)
          replace hF := hF.tu hF9 (by decide)
          have e_228 : gI σ_s_225 a 36 = a360 := (hM9.i (by decide)).trans J_196_2
          have e_229 : gI σ_s_225 a 58 = a580 := (hM9.i (by decide)).trans J_196_3
          have e_230 : gI σ_s_225 a 59 = a590 := (hM9.i (by decide)).trans J_196_4
          have e_231 : gI σ_s_225 a 0 = 0 := (hM9.i (by decide)).trans J_196_5
          have e_232 : gI σ_s_225 a 12 = 0 := (hM9.i (by decide)).trans J_196_6
          have e_233 : gI σ_s_225 a 25 = 0 := (hM9.i (by decide)).trans J_196_7
          have e_234 : gI σ_s_225 a 19 = z_132 := (hM9.i (by decide)).trans J_196_8
          have e_235 : gI σ_s_225 a 20 = z_134 := (hM9.i (by decide)).trans J_196_9
          have e_236 : gI σ_s_225 a 21 = z_161 := (hM9.i (by decide)).trans J_196_10
          have e_237 : aF σ_s_225 (ad E a 1) = f1 := (hM9.a (by decide) (by decide)).trans J_196_11
          have e_238 : aF σ_s_225 (ad E a 37) = f37 := (hM9.a (by decide) (by decide)).trans J_196_12
          have e_239 : aF σ_s_225 (ad E a 61) = f61 := (hM9.a (by decide) (by decide)).trans J_196_13
          have e_240 : aF σ_s_225 (ad E a 62) = f62 := (hM9.a (by decide) (by decide)).trans J_196_14
          have e_241 : aF σ_s_225 (ad E a 39) = f39 := (hM9.a (by decide) (by decide)).trans J_196_15
          have e_242 : aF σ_s_225 (ad E a 40) = f40 := (hM9.a (by decide) (by decide)).trans J_196_16
          have e_243 : aF σ_s_225 (ad E a 42) = f42 := (hM9.a (by decide) (by decide)).trans J_196_17
          have e_244 : aF σ_s_225 (ad E a 43) = f43 := (hM9.a (by decide) (by decide)).trans J_196_18
          have e_245 : aF σ_s_225 (ad E a 44) = f44 := (hM9.a (by decide) (by decide)).trans J_196_19
          have e_246 : aF σ_s_225 (ad E a 45) = f45 := (hM9.a (by decide) (by decide)).trans J_196_20
          have e_247 : aF σ_s_225 (ad E a 46) = f46 := (hM9.a (by decide) (by decide)).trans J_196_21
          have e_248 : aF σ_s_225 (ad E a 6) = f6 := (hM9.a (by decide) (by decide)).trans J_196_22
          have e_249 : aF σ_s_225 (ad E a 8) = f8 := (hM9.a (by decide) (by decide)).trans J_196_23
          obtain ⟨g_250, dg_250⟩ : ∃ g9, g9 = upd f_226 (z_223).toNat (I z_224) := ⟨_, rfl⟩
          rw [← dg_250] at ha9
          have ef_251 := ha9
          refine lv_iinc (v := I (v3q195 + 1)) (lv' := [(3, .int (I (v3q195 + 1))), (0, .ref a), (1, .int (I slot)), (2, .int (I nn))]) hx hb dX11_path_96 hl (k := 3) rfl (I_add _ _) (by decide) rfl (fun ls hl => ?_)
          refine lv_goto (tgt := 73) hx hb dX11_path_99 (by decide) ?_
          exact ihJ_196 (v3q195 + 1) σ_s_225 _ _ _ (by first | (dsimp only; omega) | omega) ⟨hO, hF, hM, hH, hS, lv_sub hl [1, 2, 3, 0] rfl, ⟨by first | (dsimp only; omega) | omega, by first | (dsimp only; omega) | omega⟩, by first | (dsimp only; omega) | omega, by first | (dsimp only; omega) | omega, e_228, e_229, e_230, e_231, e_232, e_233, e_234, e_235, e_236, e_237, e_238, e_239, e_240, e_241, e_242, e_243, e_244, e_245, e_246, e_247, e_248, e_249⟩
      · replace c_163 := (I_eq (a := z_139) (b := 0) rz_139 (show rng 0 from ⟨by decide, by decide⟩)).mp c_163
        refine lv_aload_n hx hb dX11_path_66 rfl (lv_at hl 0 rfl) ?_
        refine ok.getIc hO h_a (by decide) k13_19 e_159 (fun _ _ he hv kk => th_get (ci := 11) (C := RX11) (T := TX11) (N := 66) hx hb hts inX11 hown hK hH he rfl 19 (by decide) fl6 hv dX11_path_67 kk) ?_
        exact th_iret hx hb hr hlocks hH hS (z := z_132) rz_132 ⟨hO, hF, hM, ⟨(by rw [show aF σ_s_138 (ad E a 1) = f1 from e_140, show aF σ_s_138 (ad E a 37) = f37 from e_141, show aF σ_s_138 (ad E a 61) = f61 from e_142, show aF σ_s_138 (ad E a 62) = f62 from e_143, show aF σ_s_138 (ad E a 39) = f39 from e_144, show aF σ_s_138 (ad E a 40) = f40 from e_145, show aF σ_s_138 (ad E a 42) = f42 from e_146, show aF σ_s_138 (ad E a 43) = f43 from e_147, show aF σ_s_138 (ad E a 44) = f44 from e_148, show aF σ_s_138 (ad E a 45) = f45 from e_149, show aF σ_s_138 (ad E a 46) = f46 from e_150]; exact ⟨hj.n (by omega) (by omega) (by omega), by omega⟩), fun _ => ⟨GPe.fin hn_128.2 hn_128.1 (show z_132 = cc_129 by omega) (by omega), fun _ => e_152, fun h9 => absurd h9 (by omega)⟩, fun h9 => absurd (show ((0 ≤ slot ∧ slot ≤ 3) ∧ 0 ≤ nn ∧ nn ≤ gI σ a 12) by omega) h9⟩⟩ dX11_path_70
    · replace c_35 := (I_eq (a := z_34) (b := 0) rz_34 (show rng 0 from ⟨by decide, by decide⟩)).mp c_35
      refine lv_aload_n hx hb dX11_path_28 rfl (lv_at hl 0 rfl) ?_
      refine lv_iconst (v := I 2) hx hb dX11_path_29 (by decide) ?_
      obtain ⟨_, hc_252⟩ := hO.cell h_a (by decide) (ci := 11) rfl
      refine th_calli (va_runV (As := [.int (I 2)]) (rest := []) ⟨hx, hb, hml, hown, hts⟩ (n_fail l G y b0 σ_s_5 E hO a h_a 2 (show rng 2 from (show rng 2 from ⟨by decide, by decide⟩))) (cwV 1 hts gX11_path_X11_fail rfl rfl rfl (by decide +kernel) ⟨Nat.le_of_ble_eq_true rfl, Nat.le_of_ble_eq_true rfl⟩) (th_PV hK hH rfl hc_252) rfl rfl hl.1 rfl (lv_room (Nat.le_of_ble_eq_true rfl)) dX11_path_30 ⟨Nat.le_of_ble_eq_true rfl, Nat.le_of_ble_eq_true rfl⟩) hS (fun z_255 σ_s_254 H locs rz_255 hw_253 hH hS => ?_)
      obtain ⟨hO9, hF9, hM9, hw_253⟩ := hw_253
      replace hM := hM.tu hM9 (by decide)
      replace hF := hF.tu hF9 (by decide)
      have e_256 : aF σ_s_254 (ad E a 1) = f1 := (hM9.a (by decide) (by decide)).trans e_6
      have e_257 : aF σ_s_254 (ad E a 37) = f37 := (hM9.a (by decide) (by decide)).trans e_7
      have e_258 : aF σ_s_254 (ad E a 61) = f61 := (hM9.a (by decide) (by decide)).trans e_8
      have e_259 : aF σ_s_254 (ad E a 62) = f62 := (hM9.a (by decide) (by decide)).trans e_9
      have e_260 : aF σ_s_254 (ad E a 39) = f39 := (hM9.a (by decide) (by decide)).trans e_10
      have e_261 : aF σ_s_254 (ad E a 40) = f40 := (hM9.a (by decide) (by decide)).trans e_11
      have e_262 : aF σ_s_254 (ad E a 42) = f42 := (hM9.a (by decide) (by decide)).trans e_12
      have e_263 : aF σ_s_254 (ad E a 43) = f43 := (hM9.a (by decide) (by decide)).trans e_13
      have e_264 : aF σ_s_254 (ad E a 44) = f44 := (hM9.a (by decide) (by decide)).trans e_14
      have e_265 : aF σ_s_254 (ad E a 45) = f45 := (hM9.a (by decide) (by decide)).trans e_15
      have e_266 : aF σ_s_254 (ad E a 46) = f46 := (hM9.a (by decide) (by decide)).trans e_16
      have e_267 : aF σ_s_254 (ad E a 6) = f6 := (hM9.a (by decide) (by decide)).trans e_17
      have e_268 : aF σ_s_254 (ad E a 8) = f8 := (hM9.a (by decide) (by decide)).trans e_18
      have e_269 : gI σ_s_254 a 36 = a360 := (hM9.i (by decide)).trans e_19
      have e_270 : gI σ_s_254 a 58 = a580 := (hM9.i (by decide)).trans e_20
      have e_271 : gI σ_s_254 a 59 = a590 := (hM9.i (by decide)).trans e_21
      have e_272 : gI σ_s_254 a 12 = a120 := (hM9.i (by decide)).trans e_22
      have e_273 : gI σ_s_254 a 21 = a210 := (hM9.i (by decide)).trans e_23
      have e_274 : gI σ_s_254 a 19 = z_1 := (hM9.i (by decide)).trans e_24
      have e_275 : gI σ_s_254 a 20 = z_3 := (hM9.i (by decide)).trans e_25
      replace hO := hO9
      replace hw_253 : z_255 = 0 ∧ gI σ_s_254 a 0 = 2 := hw_253
      exact th_iret hx hb hr hlocks hH hS (z := z_255) rz_255 ⟨hO, hF, hM, ⟨(by rw [show aF σ_s_254 (ad E a 1) = f1 from e_256, show aF σ_s_254 (ad E a 37) = f37 from e_257, show aF σ_s_254 (ad E a 61) = f61 from e_258, show aF σ_s_254 (ad E a 62) = f62 from e_259, show aF σ_s_254 (ad E a 39) = f39 from e_260, show aF σ_s_254 (ad E a 40) = f40 from e_261, show aF σ_s_254 (ad E a 42) = f42 from e_262, show aF σ_s_254 (ad E a 43) = f43 from e_263, show aF σ_s_254 (ad E a 44) = f44 from e_264, show aF σ_s_254 (ad E a 45) = f45 from e_265, show aF σ_s_254 (ad E a 46) = f46 from e_266]; exact ⟨hj.n (by omega) (by omega) (by omega), by omega⟩), fun h9 => absurd h9 (by omega), fun _ => ⟨by omega, e_268⟩⟩⟩ dX11_path_33
  · replace c_30 := (I_eq (a := z_29) (b := 0) rz_29 (show rng 0 from ⟨by decide, by decide⟩)).mp c_30
    refine lv_aload_n hx hb dX11_path_14 rfl (lv_at hl 0 rfl) ?_
    refine lv_iconst (v := I 1) hx hb dX11_path_15 (by decide) ?_
    obtain ⟨_, hc_276⟩ := hO.cell h_a (by decide) (ci := 11) rfl
    refine th_calli (va_runV (As := [.int (I 1)]) (rest := []) ⟨hx, hb, hml, hown, hts⟩ (n_fail l G y b0 σ_s_5 E hO a h_a 1 (show rng 1 from (show rng 1 from ⟨by decide, by decide⟩))) (cwV 1 hts gX11_path_X11_fail rfl rfl rfl (by decide +kernel) ⟨Nat.le_of_ble_eq_true rfl, Nat.le_of_ble_eq_true rfl⟩) (th_PV hK hH rfl hc_276) rfl rfl hl.1 rfl (lv_room (Nat.le_of_ble_eq_true rfl)) dX11_path_16 ⟨Nat.le_of_ble_eq_true rfl, Nat.le_of_ble_eq_true rfl⟩) hS (fun z_279 σ_s_278 H locs rz_279 hw_277 hH hS => ?_)
    obtain ⟨hO9, hF9, hM9, hw_277⟩ := hw_277
    replace hM := hM.tu hM9 (by decide)
    replace hF := hF.tu hF9 (by decide)
    have e_280 : aF σ_s_278 (ad E a 1) = f1 := (hM9.a (by decide) (by decide)).trans e_6
    have e_281 : aF σ_s_278 (ad E a 37) = f37 := (hM9.a (by decide) (by decide)).trans e_7
    have e_282 : aF σ_s_278 (ad E a 61) = f61 := (hM9.a (by decide) (by decide)).trans e_8
    have e_283 : aF σ_s_278 (ad E a 62) = f62 := (hM9.a (by decide) (by decide)).trans e_9
    have e_284 : aF σ_s_278 (ad E a 39) = f39 := (hM9.a (by decide) (by decide)).trans e_10
    have e_285 : aF σ_s_278 (ad E a 40) = f40 := (hM9.a (by decide) (by decide)).trans e_11
    have e_286 : aF σ_s_278 (ad E a 42) = f42 := (hM9.a (by decide) (by decide)).trans e_12
    have e_287 : aF σ_s_278 (ad E a 43) = f43 := (hM9.a (by decide) (by decide)).trans e_13
    have e_288 : aF σ_s_278 (ad E a 44) = f44 := (hM9.a (by decide) (by decide)).trans e_14
    have e_289 : aF σ_s_278 (ad E a 45) = f45 := (hM9.a (by decide) (by decide)).trans e_15
    have e_290 : aF σ_s_278 (ad E a 46) = f46 := (hM9.a (by decide) (by decide)).trans e_16
    have e_291 : aF σ_s_278 (ad E a 6) = f6 := (hM9.a (by decide) (by decide)).trans e_17
    have e_292 : aF σ_s_278 (ad E a 8) = f8 := (hM9.a (by decide) (by decide)).trans e_18
    have e_293 : gI σ_s_278 a 36 = a360 := (hM9.i (by decide)).trans e_19
    have e_294 : gI σ_s_278 a 58 = a580 := (hM9.i (by decide)).trans e_20
    have e_295 : gI σ_s_278 a 59 = a590 := (hM9.i (by decide)).trans e_21
    have e_296 : gI σ_s_278 a 12 = a120 := (hM9.i (by decide)).trans e_22
    have e_297 : gI σ_s_278 a 21 = a210 := (hM9.i (by decide)).trans e_23
    have e_298 : gI σ_s_278 a 19 = z_1 := (hM9.i (by decide)).trans e_24
    have e_299 : gI σ_s_278 a 20 = z_3 := (hM9.i (by decide)).trans e_25
    replace hO := hO9
    replace hw_277 : z_279 = 0 ∧ gI σ_s_278 a 0 = 1 := hw_277
    exact th_iret hx hb hr hlocks hH hS (z := z_279) rz_279 ⟨hO, hF, hM, ⟨(by rw [show aF σ_s_278 (ad E a 1) = f1 from e_280, show aF σ_s_278 (ad E a 37) = f37 from e_281, show aF σ_s_278 (ad E a 61) = f61 from e_282, show aF σ_s_278 (ad E a 62) = f62 from e_283, show aF σ_s_278 (ad E a 39) = f39 from e_284, show aF σ_s_278 (ad E a 40) = f40 from e_285, show aF σ_s_278 (ad E a 42) = f42 from e_286, show aF σ_s_278 (ad E a 43) = f43 from e_287, show aF σ_s_278 (ad E a 44) = f44 from e_288, show aF σ_s_278 (ad E a 45) = f45 from e_289, show aF σ_s_278 (ad E a 46) = f46 from e_290]; exact ⟨hj.n (by omega) (by omega) (by omega), by omega⟩), fun h9 => absurd h9 (by omega), fun _ => ⟨by omega, e_292⟩⟩⟩ dX11_path_19

set_option maxHeartbeats 20000000 in
set_option maxRecDepth 100000 in
theorem j9_withText (l : Launch) (G : va_G) (y : Nat → ClassId) (b0 : Nat) (σ : th_M) (E : th_E) (hO : ok y E σ) (a : Nat) (h_a : kd E a = 13) (slot : Int) (rslot : rng slot) (wh : Int) (rwh : rng wh) (l_wh : 0 ≤ wh) (u_wh : wh ≤ 2) (ky : Int) (rky : rng ky) (nn : Int) (rnn : rng nn) (f1 : Nat → Int32) (ef1 : aF σ (ad E a 1) = f1) (f37 : Nat → Int32) (ef37 : aF σ (ad E a 37) = f37) (f61 : Nat → Int32) (ef61 : aF σ (ad E a 61) = f61) (f62 : Nat → Int32) (ef62 : aF σ (ad E a 62) = f62) (f39 : Nat → Int32) (ef39 : aF σ (ad E a 39) = f39) (f40 : Nat → Int32) (ef40 : aF σ (ad E a 40) = f40) (f42 : Nat → Int32) (ef42 : aF σ (ad E a 42) = f42) (f43 : Nat → Int32) (ef43 : aF σ (ad E a 43) = f43) (f44 : Nat → Int32) (ef44 : aF σ (ad E a 44) = f44) (f45 : Nat → Int32) (ef45 : aF σ (ad E a 45) = f45) (f46 : Nat → Int32) (ef46 : aF σ (ad E a 46) = f46) (f2 : Nat → Int32) (ef2 : aF σ (ad E a 2) = f2) (f3 : Nat → Int32) (ef3 : aF σ (ad E a 3) = f3) (f6 : Nat → Int32) (ef6 : aF σ (ad E a 6) = f6) (f8 : Nat → Int32) (ef8 : aF σ (ad E a 8) = f8) (f35 : Nat → Int32) (ef35 : aF σ (ad E a 35) = f35) (T : tkT) (hSt : (((0 ≤ nn ∧ nn ≤ gI σ a 12) ∧ ((0 ≤ slot ∧ slot ≤ 3 ∧ 1 ≤ (f8 slot.toNat).toInt) ∧ ((wh : Int) = 2 → isW ky))) → tkSt (byf f6 nn) T)) (hy0 : jw f1 f37 f61 f62 f39 f40 f42 f43 f44 f45 f46 (gI σ a 36) (gI σ a 58) (gI σ a 59)) : Met l yX11_withText wsX11_withText ({ frames := 52, cells := 0, slots := 0, locals := 2033 }) (th_P G y b0 σ [.ref a, .int (I slot), .int (I wh), .int (I ky), .int (I nn)]) (th_Qi G b0 (fun r σ1 => ok y E σ1 ∧ fr [13] E σ σ1 ∧ fm [0, 1, 2, 3, 4, 5, 9, 10, 11, 12, 13, 14, 15, 16, 17, 18, 19, 20, 21, 22, 23, 24, 25, 26, 27, 28, 29, 30, 32, 33, 34, 35, 36, 37] E σ σ1 a ∧ ((jw (aF σ1 (ad E a 1)) (aF σ1 (ad E a 37)) (aF σ1 (ad E a 61)) (aF σ1 (ad E a 62)) (aF σ1 (ad E a 39)) (aF σ1 (ad E a 40)) (aF σ1 (ad E a 42)) (aF σ1 (ad E a 43)) (aF σ1 (ad E a 44)) (aF σ1 (ad E a 45)) (aF σ1 (ad E a 46)) (gI σ1 a 36) (gI σ1 a 58) (gI σ1 a 59) ∧ (((0 ≤ nn ∧ nn ≤ gI σ a 12) ∧ gI σ1 a 12 = 0) ∨ (¬ (0 ≤ nn ∧ nn ≤ gI σ a 12) ∧ gI σ1 a 12 = gI σ a 12))) ∧ ((0 ≤ nn ∧ nn ≤ gI σ a 12) → (((0 ≤ slot ∧ slot ≤ 3 ∧ 1 ≤ (f8 slot.toNat).toInt) ∧ ((wh : Int) = 2 → isW ky)) → ∃ rr, TopR T rr (gI σ1 a 21)) ∧ (¬ ((0 ≤ slot ∧ slot ≤ 3 ∧ 1 ≤ (f8 slot.toNat).toInt) ∧ ((wh : Int) = 2 → isW ky)) → gI σ1 a 21 = gI σ a 21)) ∧ (¬ (0 ≤ nn ∧ nn ≤ gI σ a 12) → gI σ1 a 21 = gI σ a 21)))) 0 0 (th_A b0) := by
  refine Met.ofW (cc := cX11_withText) (maxL := 6) (ret := (some .int)) (by decide) rfl ?_
  intro p e s m args below meth c s₁ B hml hv
  obtain ⟨rfl, hH, hK⟩ := hv
  have hx := B.exec
  have hb := B.bytes
  have hr := B.returns
  have hts := atoms_spec (ws := wsX11_withText) B.pre
  have hown : s.vm.findClass RX11 = some m.cls := findClass_of_methodNamed B.named
  have hlocks := B.notSynchronized
  have h00 : b0 ≤ s.heap.size := hH.1
  have hS : va_S (th_A b0) s.heap s.heap [] := va_S.rf
  have hF : fr [13] E σ σ := fr.rf
  have hM : fm [0, 1, 2, 3, 4, 5, 9, 10, 11, 12, 13, 14, 15, 16, 17, 18, 19, 20, 21, 22, 23, 24, 25, 26, 27, 28, 29, 30, 32, 33, 34, 35, 36, 37] E σ σ a := fm.rf
  have hj := hy0
  have hw1 := hj.1.1.1
  have hm1 := hj.1.2.1
  have hm2 := hj.1.2.2.1
  have hm3 := hj.2.2.2.2.1
  have hm4 := hj.2.2.2.2.2.1
  have inX11 : ∀ w ∈ wsX110, w ∈ wsX11_withText := by decide +kernel
  have fl0 := hts (.fieldLink RX11 111 "NestQueryModel" "code" "I") (by decide +kernel)
  have fl1 := hts (.fieldLink RX11 114 "NestQueryModel" "taped" "I") (by decide +kernel)
  have fl2 := hts (.fieldLink RX11 385 "NestQueryModel" "changeKey" "I") (by decide +kernel)
  have hl := lv_entry ([.ref a, .int (I slot), .int (I wh), .int (I ky), .int (I nn)]) (n := 6) (Nat.le_of_ble_eq_true rfl)
  rw [lg_entry_eq]
  generalize (lg_sl ([.ref a, .int (I slot), .int (I wh), .int (I ky), .int (I nn)]) ++ List.replicate (6 - (lg_sl ([.ref a, .int (I slot), .int (I wh), .int (I ky), .int (I nn)])).length) Slot.unset).toArray = ls at hl ⊢
  have hl : lv_has ls 6 [(0, .ref a), (1, .int (I slot)), (2, .int (I wh)), (3, .int (I ky)), (4, .int (I nn))] := hl
  obtain ⟨a360, ea360, ra360, la360, ua360⟩ := hO.gi h_a (by decide) k13_36
  obtain ⟨a580, ea580, ra580, la580, ua580⟩ := hO.gi h_a (by decide) k13_58
  obtain ⟨a590, ea590, ra590, la590, ua590⟩ := hO.gi h_a (by decide) k13_59
  obtain ⟨a120, ea120, ra120, la120, ua120⟩ := hO.gi h_a (by decide) k13_12
  obtain ⟨a210, ea210, ra210, la210, ua210⟩ := hO.gi h_a (by decide) k13_21
  refine lv_aload_n hx hb dX11_withText_0 rfl (lv_at hl 0 rfl) ?_
  refine lv_iconst (v := I 0) hx hb dX11_withText_1 (by decide) ?_
  obtain ⟨z_1, e_2, rz_1, lz_1, uz_1⟩ := hO.gi h_a (by decide) k13_19
  refine ok.putJ hO h_a k13_0 (show rng 0 from ⟨by decide, by decide⟩) (by omega) (by omega) (fun _ he hl9 kk => th_put (ci := 11) (v := .int (I 0)) (ty := .int) (C := RX11) (T := TX11) (N := 66) hx hb hts inX11 tyX11 tyX11_ok nmX11 hown hK hH hS h00 he rfl 0 (by decide) fl0 rfl (by decide +kernel) rfl rfl hl9 dX11_withText_2 kk) (fun σ_s_3 H locs hO hF9 hM9 hg9 ha9 hH hS => ?_)
  replace hM := hM.tu hM9 (by decide)
  replace hF := hF.tu hF9 (by decide)
  have e_4 : aF σ_s_3 (ad E a 1) = f1 := (hM9.a (by decide) (by decide)).trans ef1
  have e_5 : aF σ_s_3 (ad E a 37) = f37 := (hM9.a (by decide) (by decide)).trans ef37
  have e_6 : aF σ_s_3 (ad E a 61) = f61 := (hM9.a (by decide) (by decide)).trans ef61
  have e_7 : aF σ_s_3 (ad E a 62) = f62 := (hM9.a (by decide) (by decide)).trans ef62
  have e_8 : aF σ_s_3 (ad E a 39) = f39 := (hM9.a (by decide) (by decide)).trans ef39
  have e_9 : aF σ_s_3 (ad E a 40) = f40 := (hM9.a (by decide) (by decide)).trans ef40
  have e_10 : aF σ_s_3 (ad E a 42) = f42 := (hM9.a (by decide) (by decide)).trans ef42
  have e_11 : aF σ_s_3 (ad E a 43) = f43 := (hM9.a (by decide) (by decide)).trans ef43
  have e_12 : aF σ_s_3 (ad E a 44) = f44 := (hM9.a (by decide) (by decide)).trans ef44
  have e_13 : aF σ_s_3 (ad E a 45) = f45 := (hM9.a (by decide) (by decide)).trans ef45
  have e_14 : aF σ_s_3 (ad E a 46) = f46 := (hM9.a (by decide) (by decide)).trans ef46
  have e_15 : aF σ_s_3 (ad E a 2) = f2 := (hM9.a (by decide) (by decide)).trans ef2
  have e_16 : aF σ_s_3 (ad E a 3) = f3 := (hM9.a (by decide) (by decide)).trans ef3
  have e_17 : aF σ_s_3 (ad E a 6) = f6 := (hM9.a (by decide) (by decide)).trans ef6
  have e_18 : aF σ_s_3 (ad E a 8) = f8 := (hM9.a (by decide) (by decide)).trans ef8
  have e_19 : aF σ_s_3 (ad E a 35) = f35 := (hM9.a (by decide) (by decide)).trans ef35
  have e_20 : gI σ_s_3 a 36 = a360 := (hM9.i (by decide)).trans ea360
  have e_21 : gI σ_s_3 a 58 = a580 := (hM9.i (by decide)).trans ea580
  have e_22 : gI σ_s_3 a 59 = a590 := (hM9.i (by decide)).trans ea590
  have e_23 : gI σ_s_3 a 12 = a120 := (hM9.i (by decide)).trans ea120
  have e_24 : gI σ_s_3 a 21 = a210 := (hM9.i (by decide)).trans ea210
  have e_25 : gI σ_s_3 a 19 = z_1 := (hM9.i (by decide)).trans e_2
  have e_26 := hg9
  refine lv_aload_n hx hb dX11_withText_5 rfl (lv_at hl 0 rfl) ?_
  refine lv_iload hx hb dX11_withText_6 (lv_at hl 4 rfl) ?_
  obtain ⟨_, hc_27⟩ := hO.cell h_a (by decide) (ci := 11) rfl
  refine th_calli (va_runV (As := [.int (I nn)]) (rest := []) ⟨hx, hb, hml, hown, hts⟩ (m_isTape l G y b0 σ_s_3 E hO a h_a nn (show rng nn from rnn)) (cwV 1 hts gX11_withText_X11_isTape rfl rfl rfl (by decide +kernel) ⟨Nat.le_of_ble_eq_true rfl, Nat.le_of_ble_eq_true rfl⟩) (th_PV hK hH rfl hc_27) rfl rfl hl.1 rfl (lv_room (Nat.le_of_ble_eq_true rfl)) dX11_withText_8 ⟨Nat.le_of_ble_eq_true rfl, Nat.le_of_ble_eq_true rfl⟩) hS (fun z_30 σ_s_29 H locs rz_30 hw_28 hH hS => ?_)
  obtain ⟨e9, bhw_28, hw_28⟩ := hw_28
  replace e9 := e9.symm
  subst e9
  replace hw_28 : (z_30 = 1 ∧ 0 ≤ nn ∧ nn ≤ gI σ_s_3 a 12) ∨ (z_30 = 0 ∧ ¬ (0 ≤ nn ∧ nn ≤ gI σ_s_3 a 12)) := hw_28
  refine lv_if_ne (tgt := 20) hx hb dX11_withText_11 (by decide) (fun c_31 => ?_) (fun c_31 => ?_)
  · replace c_31 := mt (I_eq (a := z_30) (b := 0) rz_30 (show rng 0 from ⟨by decide, by decide⟩)).mpr c_31
    refine lv_aload_n hx hb dX11_withText_20 rfl (lv_at hl 0 rfl) ?_
    refine lv_iconst (v := I 0) hx hb dX11_withText_21 (by decide) ?_
    refine ok.putJ hO h_a k13_12 (show rng 0 from ⟨by decide, by decide⟩) (by omega) (by omega) (fun _ he hl9 kk => th_put (ci := 11) (v := .int (I 0)) (ty := .int) (C := RX11) (T := TX11) (N := 66) hx hb hts inX11 tyX11 tyX11_ok nmX11 hown hK hH hS h00 he rfl 12 (by decide) fl1 rfl (by decide +kernel) rfl rfl hl9 dX11_withText_22 kk) (fun σ_s_32 H locs hO hF9 hM9 hg9 ha9 hH hS => ?_)
    replace hM := hM.tu hM9 (by decide)
    replace hF := hF.tu hF9 (by decide)
    have e_33 : aF σ_s_32 (ad E a 1) = f1 := (hM9.a (by decide) (by decide)).trans e_4
    have e_34 : aF σ_s_32 (ad E a 37) = f37 := (hM9.a (by decide) (by decide)).trans e_5
    have e_35 : aF σ_s_32 (ad E a 61) = f61 := (hM9.a (by decide) (by decide)).trans e_6
    have e_36 : aF σ_s_32 (ad E a 62) = f62 := (hM9.a (by decide) (by decide)).trans e_7
    have e_37 : aF σ_s_32 (ad E a 39) = f39 := (hM9.a (by decide) (by decide)).trans e_8
    have e_38 : aF σ_s_32 (ad E a 40) = f40 := (hM9.a (by decide) (by decide)).trans e_9
    have e_39 : aF σ_s_32 (ad E a 42) = f42 := (hM9.a (by decide) (by decide)).trans e_10
    have e_40 : aF σ_s_32 (ad E a 43) = f43 := (hM9.a (by decide) (by decide)).trans e_11
    have e_41 : aF σ_s_32 (ad E a 44) = f44 := (hM9.a (by decide) (by decide)).trans e_12
    have e_42 : aF σ_s_32 (ad E a 45) = f45 := (hM9.a (by decide) (by decide)).trans e_13
    have e_43 : aF σ_s_32 (ad E a 46) = f46 := (hM9.a (by decide) (by decide)).trans e_14
    have e_44 : aF σ_s_32 (ad E a 2) = f2 := (hM9.a (by decide) (by decide)).trans e_15
    have e_45 : aF σ_s_32 (ad E a 3) = f3 := (hM9.a (by decide) (by decide)).trans e_16
    have e_46 : aF σ_s_32 (ad E a 6) = f6 := (hM9.a (by decide) (by decide)).trans e_17
    have e_47 : aF σ_s_32 (ad E a 8) = f8 := (hM9.a (by decide) (by decide)).trans e_18
    have e_48 : aF σ_s_32 (ad E a 35) = f35 := (hM9.a (by decide) (by decide)).trans e_19
    have e_49 : gI σ_s_32 a 36 = a360 := (hM9.i (by decide)).trans e_20
    have e_50 : gI σ_s_32 a 58 = a580 := (hM9.i (by decide)).trans e_21
    have e_51 : gI σ_s_32 a 59 = a590 := (hM9.i (by decide)).trans e_22
    have e_52 : gI σ_s_32 a 21 = a210 := (hM9.i (by decide)).trans e_24
    have e_53 : gI σ_s_32 a 19 = z_1 := (hM9.i (by decide)).trans e_25
    have e_54 : gI σ_s_32 a 0 = 0 := (hM9.i (by decide)).trans e_26
    have e_55 := hg9
    refine lv_aload_n hx hb dX11_withText_25 rfl (lv_at hl 0 rfl) ?_
    refine lv_iload_n hx hb dX11_withText_26 rfl (lv_at hl 1 rfl) ?_
    obtain ⟨_, hc_56⟩ := hO.cell h_a (by decide) (ci := 11) rfl
    refine th_calli (va_runV (As := [.int (I slot)]) (rest := []) ⟨hx, hb, hml, hown, hts⟩ (n9_isPath l G y b0 σ_s_32 E hO a h_a slot (show rng slot from rslot) f8 e_47) (cwV 1 hts gX11_withText_X11_isPath rfl rfl rfl (by decide +kernel) ⟨Nat.le_of_ble_eq_true rfl, Nat.le_of_ble_eq_true rfl⟩) (th_PV hK hH rfl hc_56) rfl rfl hl.1 rfl (lv_room (Nat.le_of_ble_eq_true rfl)) dX11_withText_27 ⟨Nat.le_of_ble_eq_true rfl, Nat.le_of_ble_eq_true rfl⟩) hS (fun z_59 σ_s_58 H locs rz_59 hw_57 hH hS => ?_)
    obtain ⟨e9, bhw_57, hw_57⟩ := hw_57
    replace e9 := e9.symm
    subst e9
    replace hw_57 : (z_59 = 1 ∧ (0 ≤ slot ∧ slot ≤ 3 ∧ 1 ≤ (f8 slot.toNat).toInt)) ∨ (z_59 = 0 ∧ ¬ (0 ≤ slot ∧ slot ≤ 3 ∧ 1 ≤ (f8 slot.toNat).toInt)) := hw_57
    refine lv_if_eq (tgt := 45) hx hb dX11_withText_30 (by decide) (fun c_60 => ?_) (fun c_60 => ?_)
    · replace c_60 := (I_eq (a := z_59) (b := 0) rz_59 (show rng 0 from ⟨by decide, by decide⟩)).mp c_60
      refine lv_aload_n hx hb dX11_withText_45 rfl (lv_at hl 0 rfl) ?_
      refine lv_iconst (v := I 1) hx hb dX11_withText_46 (by decide) ?_
      obtain ⟨_, hc_61⟩ := hO.cell h_a (by decide) (ci := 11) rfl
      refine th_calli (va_runV (As := [.int (I 1)]) (rest := []) ⟨hx, hb, hml, hown, hts⟩ (m_refuse l G y b0 σ_s_32 E hO a h_a 1 (show rng 1 from (show rng 1 from ⟨by decide, by decide⟩)) (by omega) (by omega)) (cwV 1 hts gX11_withText_X11_refuse rfl rfl rfl (by decide +kernel) ⟨Nat.le_of_ble_eq_true rfl, Nat.le_of_ble_eq_true rfl⟩) (th_PV hK hH rfl hc_61) rfl rfl hl.1 rfl (lv_room (Nat.le_of_ble_eq_true rfl)) dX11_withText_47 ⟨Nat.le_of_ble_eq_true rfl, Nat.le_of_ble_eq_true rfl⟩) hS (fun z_64 σ_s_63 H locs rz_64 hw_62 hH hS => ?_)
      obtain ⟨hO9, hF9, hM9, hw_62⟩ := hw_62
      replace hM := hM.tu hM9 (by decide)
      replace hF := hF.tu hF9 (by decide)
      have e_65 : aF σ_s_63 (ad E a 1) = f1 := (hM9.a (by decide) (by decide)).trans e_33
      have e_66 : aF σ_s_63 (ad E a 37) = f37 := (hM9.a (by decide) (by decide)).trans e_34
      have e_67 : aF σ_s_63 (ad E a 61) = f61 := (hM9.a (by decide) (by decide)).trans e_35
      have e_68 : aF σ_s_63 (ad E a 62) = f62 := (hM9.a (by decide) (by decide)).trans e_36
      have e_69 : aF σ_s_63 (ad E a 39) = f39 := (hM9.a (by decide) (by decide)).trans e_37
      have e_70 : aF σ_s_63 (ad E a 40) = f40 := (hM9.a (by decide) (by decide)).trans e_38
      have e_71 : aF σ_s_63 (ad E a 42) = f42 := (hM9.a (by decide) (by decide)).trans e_39
      have e_72 : aF σ_s_63 (ad E a 43) = f43 := (hM9.a (by decide) (by decide)).trans e_40
      have e_73 : aF σ_s_63 (ad E a 44) = f44 := (hM9.a (by decide) (by decide)).trans e_41
      have e_74 : aF σ_s_63 (ad E a 45) = f45 := (hM9.a (by decide) (by decide)).trans e_42
      have e_75 : aF σ_s_63 (ad E a 46) = f46 := (hM9.a (by decide) (by decide)).trans e_43
      have e_76 : aF σ_s_63 (ad E a 2) = f2 := (hM9.a (by decide) (by decide)).trans e_44
      have e_77 : aF σ_s_63 (ad E a 3) = f3 := (hM9.a (by decide) (by decide)).trans e_45
      have e_78 : aF σ_s_63 (ad E a 6) = f6 := (hM9.a (by decide) (by decide)).trans e_46
      have e_79 : aF σ_s_63 (ad E a 8) = f8 := (hM9.a (by decide) (by decide)).trans e_47
      have e_80 : aF σ_s_63 (ad E a 35) = f35 := (hM9.a (by decide) (by decide)).trans e_48
      have e_81 : gI σ_s_63 a 36 = a360 := (hM9.i (by decide)).trans e_49
      have e_82 : gI σ_s_63 a 58 = a580 := (hM9.i (by decide)).trans e_50
      have e_83 : gI σ_s_63 a 59 = a590 := (hM9.i (by decide)).trans e_51
      have e_84 : gI σ_s_63 a 21 = a210 := (hM9.i (by decide)).trans e_52
      have e_85 : gI σ_s_63 a 19 = z_1 := (hM9.i (by decide)).trans e_53
      have e_86 : gI σ_s_63 a 0 = 0 := (hM9.i (by decide)).trans e_54
      have e_87 : gI σ_s_63 a 12 = 0 := (hM9.i (by decide)).trans e_55
      replace hO := hO9
      replace hw_62 : z_64 = -1 := hw_62
      exact th_iret hx hb hr hlocks hH hS (z := z_64) rz_64 ⟨hO, hF, hM, ⟨(by rw [show aF σ_s_63 (ad E a 1) = f1 from e_65, show aF σ_s_63 (ad E a 37) = f37 from e_66, show aF σ_s_63 (ad E a 61) = f61 from e_67, show aF σ_s_63 (ad E a 62) = f62 from e_68, show aF σ_s_63 (ad E a 39) = f39 from e_69, show aF σ_s_63 (ad E a 40) = f40 from e_70, show aF σ_s_63 (ad E a 42) = f42 from e_71, show aF σ_s_63 (ad E a 43) = f43 from e_72, show aF σ_s_63 (ad E a 44) = f44 from e_73, show aF σ_s_63 (ad E a 45) = f45 from e_74, show aF σ_s_63 (ad E a 46) = f46 from e_75]; exact ⟨hj.n (by omega) (by omega) (by omega), by omega⟩), fun _ => ⟨fun h9 => absurd h9.1 (hw_57.resolve_left (fun h8 => absurd h8.1 (by omega))).2, fun _ => by omega⟩, fun h9 => absurd (show (0 ≤ nn ∧ nn ≤ gI σ a 12) by omega) h9⟩⟩ dX11_withText_50
    · replace c_60 := mt (I_eq (a := z_59) (b := 0) rz_59 (show rng 0 from ⟨by decide, by decide⟩)).mpr c_60
      refine lv_iload_n hx hb dX11_withText_33 rfl (lv_at hl 2 rfl) ?_
      refine lv_iconst (v := I 2) hx hb dX11_withText_34 (by decide) ?_
      refine lv_icmp_ne (tgt := 51) hx hb dX11_withText_35 (by decide) (fun c_88 => ?_) (fun c_88 => ?_)
      · replace c_88 := mt (I_eq (a := wh) (b := 2) rwh (show rng 2 from ⟨by decide, by decide⟩)).mpr c_88
        refine lv_aload_n hx hb dX11_withText_51 rfl (lv_at hl 0 rfl) ?_
        refine lv_iload hx hb dX11_withText_52 (lv_at hl 4 rfl) ?_
        obtain ⟨_, hc_89⟩ := hO.cell h_a (by decide) (ci := 11) rfl
        refine th_calli (va_runV (As := [.int (I nn)]) (rest := []) ⟨hx, hb, hml, hown, hts⟩ (n_readsData l G y b0 σ_s_32 E hO a h_a nn (show rng nn from rnn) (by omega) (by omega) f2 e_44 f6 e_46 T (hSt ⟨by omega, (hw_57.resolve_right (fun h8 => absurd h8.1 (by omega))).2, fun h8 => absurd h8 (by omega)⟩)) (cwV 1 hts gX11_withText_X11_readsData rfl rfl rfl (by decide +kernel) ⟨Nat.le_of_ble_eq_true rfl, Nat.le_of_ble_eq_true rfl⟩) (th_PV hK hH rfl hc_89) rfl rfl hl.1 rfl (lv_room (Nat.le_of_ble_eq_true rfl)) dX11_withText_54 ⟨Nat.le_of_ble_eq_true rfl, Nat.le_of_ble_eq_true rfl⟩) hS (fun z_92 σ_s_91 H locs rz_92 hw_90 hH hS => ?_)
        obtain ⟨hO9, hF9, hM9, bhw_90, hw_90⟩ := hw_90
        replace hM := hM.tu hM9 (by decide)
        replace hF := hF.tu hF9 (by decide)
        have e_93 : aF σ_s_91 (ad E a 1) = f1 := (hM9.a (by decide) (by decide)).trans e_33
        have e_94 : aF σ_s_91 (ad E a 37) = f37 := (hM9.a (by decide) (by decide)).trans e_34
        have e_95 : aF σ_s_91 (ad E a 61) = f61 := (hM9.a (by decide) (by decide)).trans e_35
        have e_96 : aF σ_s_91 (ad E a 62) = f62 := (hM9.a (by decide) (by decide)).trans e_36
        have e_97 : aF σ_s_91 (ad E a 39) = f39 := (hM9.a (by decide) (by decide)).trans e_37
        have e_98 : aF σ_s_91 (ad E a 40) = f40 := (hM9.a (by decide) (by decide)).trans e_38
        have e_99 : aF σ_s_91 (ad E a 42) = f42 := (hM9.a (by decide) (by decide)).trans e_39
        have e_100 : aF σ_s_91 (ad E a 43) = f43 := (hM9.a (by decide) (by decide)).trans e_40
        have e_101 : aF σ_s_91 (ad E a 44) = f44 := (hM9.a (by decide) (by decide)).trans e_41
        have e_102 : aF σ_s_91 (ad E a 45) = f45 := (hM9.a (by decide) (by decide)).trans e_42
        have e_103 : aF σ_s_91 (ad E a 46) = f46 := (hM9.a (by decide) (by decide)).trans e_43
        have e_104 : aF σ_s_91 (ad E a 3) = f3 := (hM9.a (by decide) (by decide)).trans e_45
        have e_105 : aF σ_s_91 (ad E a 6) = f6 := (hM9.a (by decide) (by decide)).trans e_46
        have e_106 : aF σ_s_91 (ad E a 8) = f8 := (hM9.a (by decide) (by decide)).trans e_47
        have e_107 : aF σ_s_91 (ad E a 35) = f35 := (hM9.a (by decide) (by decide)).trans e_48
        have e_108 : gI σ_s_91 a 36 = a360 := (hM9.i (by decide)).trans e_49
        have e_109 : gI σ_s_91 a 58 = a580 := (hM9.i (by decide)).trans e_50
        have e_110 : gI σ_s_91 a 59 = a590 := (hM9.i (by decide)).trans e_51
        have e_111 : gI σ_s_91 a 0 = 0 := (hM9.i (by decide)).trans e_54
        have e_112 : gI σ_s_91 a 12 = 0 := (hM9.i (by decide)).trans e_55
        replace hO := hO9
        generalize ef_114 : aF σ_s_91 (ad E a 2) = g_113 at hw_90
        replace hw_90 : ((z_92 = 1 ∧ tr g_113 ∧ mS g_113 0 = gI σ_s_91 a 22) ∨ z_92 = 0) ∧ ∃ rr pp, TopR T rr pp ∧ ((z_92 = 1 ∧ rr = 0) ∨ (z_92 = 0 ∧ rr ≠ 0)) ∧ gI σ_s_91 a 19 = rr ∧ gI σ_s_91 a 21 = pp := hw_90
        obtain ⟨z_115, e_116, rz_115, lz_115, uz_115⟩ := hO.gi h_a (by decide) k13_21
        obtain ⟨z_117, e_118, rz_117, lz_117, uz_117⟩ := hO.gi h_a (by decide) k13_19
        obtain ⟨hz_119, rr_120, pp_121, hT_122, hz_123⟩ := hw_90
        refine lv_if_ne (tgt := 63) hx hb dX11_withText_57 (by decide) (fun c_124 => ?_) (fun c_124 => ?_)
        · replace c_124 := mt (I_eq (a := z_92) (b := 0) rz_92 (show rng 0 from ⟨by decide, by decide⟩)).mpr c_124
          refine lv_aload_n hx hb dX11_withText_63 rfl (lv_at hl 0 rfl) ?_
          refine lv_iload_n hx hb dX11_withText_64 rfl (lv_at hl 3 rfl) ?_
          refine ok.putJ hO h_a k13_33 rky (by omega) (by omega) (fun _ he hl9 kk => th_put (ci := 11) (v := .int (I ky)) (ty := .int) (C := RX11) (T := TX11) (N := 66) hx hb hts inX11 tyX11 tyX11_ok nmX11 hown hK hH hS h00 he rfl 33 (by decide) fl2 rfl (by decide +kernel) rfl rfl hl9 dX11_withText_65 kk) (fun σ_s_125 H locs hO hF9 hM9 hg9 ha9 hH hS => ?_)
          replace hM := hM.tu hM9 (by decide)
          replace hF := hF.tu hF9 (by decide)
          have e_126 : aF σ_s_125 (ad E a 1) = f1 := (hM9.a (by decide) (by decide)).trans e_93
          have e_127 : aF σ_s_125 (ad E a 37) = f37 := (hM9.a (by decide) (by decide)).trans e_94
          have e_128 : aF σ_s_125 (ad E a 61) = f61 := (hM9.a (by decide) (by decide)).trans e_95
          have e_129 : aF σ_s_125 (ad E a 62) = f62 := (hM9.a (by decide) (by decide)).trans e_96
          have e_130 : aF σ_s_125 (ad E a 39) = f39 := (hM9.a (by decide) (by decide)).trans e_97
          have e_131 : aF σ_s_125 (ad E a 40) = f40 := (hM9.a (by decide) (by decide)).trans e_98
          have e_132 : aF σ_s_125 (ad E a 42) = f42 := (hM9.a (by decide) (by decide)).trans e_99
          have e_133 : aF σ_s_125 (ad E a 43) = f43 := (hM9.a (by decide) (by decide)).trans e_100
          have e_134 : aF σ_s_125 (ad E a 44) = f44 := (hM9.a (by decide) (by decide)).trans e_101
          have e_135 : aF σ_s_125 (ad E a 45) = f45 := (hM9.a (by decide) (by decide)).trans e_102
          have e_136 : aF σ_s_125 (ad E a 46) = f46 := (hM9.a (by decide) (by decide)).trans e_103
          have e_137 : aF σ_s_125 (ad E a 3) = f3 := (hM9.a (by decide) (by decide)).trans e_104
          have e_138 : aF σ_s_125 (ad E a 6) = f6 := (hM9.a (by decide) (by decide)).trans e_105
          have e_139 : aF σ_s_125 (ad E a 8) = f8 := (hM9.a (by decide) (by decide)).trans e_106
          have e_140 : aF σ_s_125 (ad E a 35) = f35 := (hM9.a (by decide) (by decide)).trans e_107
          have e_141 : gI σ_s_125 a 36 = a360 := (hM9.i (by decide)).trans e_108
          have e_142 : gI σ_s_125 a 58 = a580 := (hM9.i (by decide)).trans e_109
          have e_143 : gI σ_s_125 a 59 = a590 := (hM9.i (by decide)).trans e_110
          have e_144 : gI σ_s_125 a 0 = 0 := (hM9.i (by decide)).trans e_111
          have e_145 : gI σ_s_125 a 12 = 0 := (hM9.i (by decide)).trans e_112
          have e_146 : aF σ_s_125 (ad E a 2) = g_113 := (hM9.a (by decide) (by decide)).trans ef_114
          have e_147 : gI σ_s_125 a 21 = z_115 := (hM9.i (by decide)).trans e_116
          have e_148 : gI σ_s_125 a 19 = z_117 := (hM9.i (by decide)).trans e_118
          have e_149 := hg9
          refine lv_aload_n hx hb dX11_withText_68 rfl (lv_at hl 0 rfl) ?_
          refine lv_iload_n hx hb dX11_withText_69 rfl (lv_at hl 1 rfl) ?_
          refine lv_iload_n hx hb dX11_withText_70 rfl (lv_at hl 2 rfl) ?_
          refine lv_iconst (v := I 0) hx hb dX11_withText_71 (by decide) ?_
          obtain ⟨_, hc_150⟩ := hO.cell h_a (by decide) (ci := 11) rfl
          refine th_calli (va_runV (As := [.int (I slot), .int (I wh), .int (I 0)]) (rest := []) ⟨hx, hb, hml, hown, hts⟩ (m_changes l G y b0 σ_s_125 E hO a h_a slot (show rng slot from rslot) (by omega) (by omega) wh (show rng wh from rwh) (by omega) (by omega) 0 (show rng 0 from (show rng 0 from ⟨by decide, by decide⟩)) f1 e_126 g_113 e_146 f3 e_137 f8 e_139 f35 e_140 f37 e_127 (hw1) (by omega) (hj.1) ((hj.2.1.le (by omega))) ((by omega)) ((fun _ => ((hz_119.resolve_right (by omega)).2.1).td))) (cwV 3 hts gX11_withText_X11_changes rfl rfl rfl (by decide +kernel) ⟨Nat.le_of_ble_eq_true rfl, Nat.le_of_ble_eq_true rfl⟩) (th_PV hK hH rfl hc_150) rfl rfl hl.1 rfl (lv_room (Nat.le_of_ble_eq_true rfl)) dX11_withText_72 ⟨Nat.le_of_ble_eq_true rfl, Nat.le_of_ble_eq_true rfl⟩) hS (fun z_153 σ_s_152 H locs rz_153 hw_151 hH hS => ?_)
          obtain ⟨hO9, hF9, hM9, hw_151⟩ := hw_151
          replace hM := hM.tu hM9 (by decide)
          replace hF := hF.tu hF9 (by decide)
          have e_154 : aF σ_s_152 (ad E a 61) = f61 := (hM9.a (by decide) (by decide)).trans e_128
          have e_155 : aF σ_s_152 (ad E a 62) = f62 := (hM9.a (by decide) (by decide)).trans e_129
          have e_156 : aF σ_s_152 (ad E a 39) = f39 := (hM9.a (by decide) (by decide)).trans e_130
          have e_157 : aF σ_s_152 (ad E a 40) = f40 := (hM9.a (by decide) (by decide)).trans e_131
          have e_158 : aF σ_s_152 (ad E a 42) = f42 := (hM9.a (by decide) (by decide)).trans e_132
          have e_159 : aF σ_s_152 (ad E a 43) = f43 := (hM9.a (by decide) (by decide)).trans e_133
          have e_160 : aF σ_s_152 (ad E a 44) = f44 := (hM9.a (by decide) (by decide)).trans e_134
          have e_161 : aF σ_s_152 (ad E a 45) = f45 := (hM9.a (by decide) (by decide)).trans e_135
          have e_162 : aF σ_s_152 (ad E a 46) = f46 := (hM9.a (by decide) (by decide)).trans e_136
          have e_163 : aF σ_s_152 (ad E a 6) = f6 := (hM9.a (by decide) (by decide)).trans e_138
          have e_164 : aF σ_s_152 (ad E a 8) = f8 := (hM9.a (by decide) (by decide)).trans e_139
          have e_165 : gI σ_s_152 a 58 = a580 := (hM9.i (by decide)).trans e_142
          have e_166 : gI σ_s_152 a 59 = a590 := (hM9.i (by decide)).trans e_143
          have e_167 : gI σ_s_152 a 0 = 0 := (hM9.i (by decide)).trans e_144
          have e_168 : gI σ_s_152 a 12 = 0 := (hM9.i (by decide)).trans e_145
          have e_169 : aF σ_s_152 (ad E a 2) = g_113 := (hM9.a (by decide) (by decide)).trans e_146
          have e_170 : gI σ_s_152 a 21 = z_115 := (hM9.i (by decide)).trans e_147
          have e_171 : gI σ_s_152 a 33 = ky := (hM9.i (by decide)).trans e_149
          replace hO := hO9
          generalize ef_173 : aF σ_s_152 (ad E a 1) = g_172 at hw_151
          generalize ef_175 : aF σ_s_152 (ad E a 37) = g_174 at hw_151
          replace hw_151 : tr g_172 ∧ trs g_174 (gI σ_s_152 a 36) := hw_151
          refine lv_istore (lv' := [(5, .int (I z_153)), (0, .ref a), (1, .int (I slot)), (2, .int (I wh)), (3, .int (I ky)), (4, .int (I nn))]) hx hb dX11_withText_75 hl (by decide) rfl (fun ls hl => ?_)
          refine lv_iload hx hb dX11_withText_77 (lv_at hl 0 rfl) ?_
          refine lv_iconst (v := I (-1)) hx hb dX11_withText_79 (by decide) ?_
          refine lv_icmp_ne (tgt := 91) hx hb dX11_withText_80 (by decide) (fun c_176 => ?_) (fun c_176 => ?_)
          · replace c_176 := mt (I_eq (a := z_153) (b := (-1)) rz_153 (show rng (-1) from ⟨by decide, by decide⟩)).mpr c_176
            refine lv_iload hx hb dX11_withText_91 (lv_at hl 0 rfl) ?_
            exact th_iret hx hb hr hlocks hH hS (z := z_153) rz_153 ⟨hO, hF, hM, ⟨(by rw [show aF σ_s_152 (ad E a 1) = g_172 from ef_173, show aF σ_s_152 (ad E a 37) = g_174 from ef_175, show aF σ_s_152 (ad E a 61) = f61 from e_154, show aF σ_s_152 (ad E a 62) = f62 from e_155, show aF σ_s_152 (ad E a 39) = f39 from e_156, show aF σ_s_152 (ad E a 40) = f40 from e_157, show aF σ_s_152 (ad E a 42) = f42 from e_158, show aF σ_s_152 (ad E a 43) = f43 from e_159, show aF σ_s_152 (ad E a 44) = f44 from e_160, show aF σ_s_152 (ad E a 45) = f45 from e_161, show aF σ_s_152 (ad E a 46) = f46 from e_162]; exact ⟨hj.tree hw_151.1 (hw_151.2.le (by omega)) (by omega) (by omega), by omega⟩), fun _ => ⟨fun _ => ⟨rr_120, by rw [show gI σ_s_152 a 21 = pp_121 by omega]; exact hT_122⟩, fun h9 => absurd ⟨(hw_57.resolve_right (fun h8 => absurd h8.1 (by omega))).2, fun h8 => absurd h8 (by omega)⟩ h9⟩, fun h9 => absurd (show (0 ≤ nn ∧ nn ≤ gI σ a 12) by omega) h9⟩⟩ dX11_withText_93
          · replace c_176 := (I_eq (a := z_153) (b := (-1)) rz_153 (show rng (-1) from ⟨by decide, by decide⟩)).mp c_176
            refine lv_aload_n hx hb dX11_withText_83 rfl (lv_at hl 1 rfl) ?_
            refine lv_iconst (v := I 1) hx hb dX11_withText_84 (by decide) ?_
            obtain ⟨z_177, e_178, rz_177, lz_177, uz_177⟩ := hO.gi h_a (by decide) k13_36
            obtain ⟨z_179, e_180, rz_179, lz_179, uz_179⟩ := hO.gi h_a (by decide) k13_19
            obtain ⟨_, hc_181⟩ := hO.cell h_a (by decide) (ci := 11) rfl
            refine th_calli (va_runV (As := [.int (I 1)]) (rest := []) ⟨hx, hb, hml, hown, hts⟩ (m_refuse l G y b0 σ_s_152 E hO a h_a 1 (show rng 1 from (show rng 1 from ⟨by decide, by decide⟩)) (by omega) (by omega)) (cwV 1 hts gX11_withText_X11_refuse rfl rfl rfl (by decide +kernel) ⟨Nat.le_of_ble_eq_true rfl, Nat.le_of_ble_eq_true rfl⟩) (th_PV hK hH rfl hc_181) rfl rfl hl.1 rfl (lv_room (Nat.le_of_ble_eq_true rfl)) dX11_withText_85 ⟨Nat.le_of_ble_eq_true rfl, Nat.le_of_ble_eq_true rfl⟩) hS (fun z_184 σ_s_183 H locs rz_184 hw_182 hH hS => ?_)
            obtain ⟨hO9, hF9, hM9, hw_182⟩ := hw_182
            replace hM := hM.tu hM9 (by decide)
            replace hF := hF.tu hF9 (by decide)
            have e_185 : aF σ_s_183 (ad E a 61) = f61 := (hM9.a (by decide) (by decide)).trans e_154
            have e_186 : aF σ_s_183 (ad E a 62) = f62 := (hM9.a (by decide) (by decide)).trans e_155
            have e_187 : aF σ_s_183 (ad E a 39) = f39 := (hM9.a (by decide) (by decide)).trans e_156
            have e_188 : aF σ_s_183 (ad E a 40) = f40 := (hM9.a (by decide) (by decide)).trans e_157
            have e_189 : aF σ_s_183 (ad E a 42) = f42 := (hM9.a (by decide) (by decide)).trans e_158
            have e_190 : aF σ_s_183 (ad E a 43) = f43 := (hM9.a (by decide) (by decide)).trans e_159
            have e_191 : aF σ_s_183 (ad E a 44) = f44 := (hM9.a (by decide) (by decide)).trans e_160
            have e_192 : aF σ_s_183 (ad E a 45) = f45 := (hM9.a (by decide) (by decide)).trans e_161
            have e_193 : aF σ_s_183 (ad E a 46) = f46 := (hM9.a (by decide) (by decide)).trans e_162
            have e_194 : aF σ_s_183 (ad E a 6) = f6 := (hM9.a (by decide) (by decide)).trans e_163
            have e_195 : aF σ_s_183 (ad E a 8) = f8 := (hM9.a (by decide) (by decide)).trans e_164
            have e_196 : gI σ_s_183 a 58 = a580 := (hM9.i (by decide)).trans e_165
            have e_197 : gI σ_s_183 a 59 = a590 := (hM9.i (by decide)).trans e_166
            have e_198 : gI σ_s_183 a 0 = 0 := (hM9.i (by decide)).trans e_167
            have e_199 : gI σ_s_183 a 12 = 0 := (hM9.i (by decide)).trans e_168
            have e_200 : aF σ_s_183 (ad E a 2) = g_113 := (hM9.a (by decide) (by decide)).trans e_169
            have e_201 : gI σ_s_183 a 21 = z_115 := (hM9.i (by decide)).trans e_170
            have e_202 : gI σ_s_183 a 33 = ky := (hM9.i (by decide)).trans e_171
            have e_203 : aF σ_s_183 (ad E a 1) = g_172 := (hM9.a (by decide) (by decide)).trans ef_173
            have e_204 : aF σ_s_183 (ad E a 37) = g_174 := (hM9.a (by decide) (by decide)).trans ef_175
            have e_205 : gI σ_s_183 a 36 = z_177 := (hM9.i (by decide)).trans e_178
            have e_206 : gI σ_s_183 a 19 = z_179 := (hM9.i (by decide)).trans e_180
            replace hO := hO9
            replace hw_182 : z_184 = -1 := hw_182
            refine lv_goto (tgt := 93) hx hb dX11_withText_88 (by decide) ?_
            exact th_iret hx hb hr hlocks hH hS (z := z_184) rz_184 ⟨hO, hF, hM, ⟨(by rw [show aF σ_s_183 (ad E a 1) = g_172 from e_203, show aF σ_s_183 (ad E a 37) = g_174 from e_204, show aF σ_s_183 (ad E a 61) = f61 from e_185, show aF σ_s_183 (ad E a 62) = f62 from e_186, show aF σ_s_183 (ad E a 39) = f39 from e_187, show aF σ_s_183 (ad E a 40) = f40 from e_188, show aF σ_s_183 (ad E a 42) = f42 from e_189, show aF σ_s_183 (ad E a 43) = f43 from e_190, show aF σ_s_183 (ad E a 44) = f44 from e_191, show aF σ_s_183 (ad E a 45) = f45 from e_192, show aF σ_s_183 (ad E a 46) = f46 from e_193]; exact ⟨hj.tree hw_151.1 (hw_151.2.le (by omega)) (by omega) (by omega), by omega⟩), fun _ => ⟨fun _ => ⟨rr_120, by rw [show gI σ_s_183 a 21 = pp_121 by omega]; exact hT_122⟩, fun h9 => absurd ⟨(hw_57.resolve_right (fun h8 => absurd h8.1 (by omega))).2, fun h8 => absurd h8 (by omega)⟩ h9⟩, fun h9 => absurd (show (0 ≤ nn ∧ nn ≤ gI σ a 12) by omega) h9⟩⟩ dX11_withText_93
        · replace c_124 := (I_eq (a := z_92) (b := 0) rz_92 (show rng 0 from ⟨by decide, by decide⟩)).mp c_124
          refine lv_bipush (v := I (-2)) hx hb dX11_withText_60 (by decide) ?_
          exact th_iret hx hb hr hlocks hH hS (z := (-2)) (show rng (-2) from ⟨by decide, by decide⟩) ⟨hO, hF, hM, ⟨(by rw [show aF σ_s_91 (ad E a 1) = f1 from e_93, show aF σ_s_91 (ad E a 37) = f37 from e_94, show aF σ_s_91 (ad E a 61) = f61 from e_95, show aF σ_s_91 (ad E a 62) = f62 from e_96, show aF σ_s_91 (ad E a 39) = f39 from e_97, show aF σ_s_91 (ad E a 40) = f40 from e_98, show aF σ_s_91 (ad E a 42) = f42 from e_99, show aF σ_s_91 (ad E a 43) = f43 from e_100, show aF σ_s_91 (ad E a 44) = f44 from e_101, show aF σ_s_91 (ad E a 45) = f45 from e_102, show aF σ_s_91 (ad E a 46) = f46 from e_103]; exact ⟨hj.n (by omega) (by omega) (by omega), by omega⟩), fun _ => ⟨fun _ => ⟨rr_120, by rw [show gI σ_s_91 a 21 = pp_121 by omega]; exact hT_122⟩, fun h9 => absurd ⟨(hw_57.resolve_right (fun h8 => absurd h8.1 (by omega))).2, fun h8 => absurd h8 (by omega)⟩ h9⟩, fun h9 => absurd (show (0 ≤ nn ∧ nn ≤ gI σ a 12) by omega) h9⟩⟩ dX11_withText_62
      · replace c_88 := (I_eq (a := wh) (b := 2) rwh (show rng 2 from ⟨by decide, by decide⟩)).mp c_88
        refine lv_iload_n hx hb dX11_withText_38 rfl (lv_at hl 3 rfl) ?_
        refine th_calli (va_runS (As := [.int (I ky)]) (rest := []) ⟨hx, hb, hml, hown, hts⟩ (n9_isKey l G y b0 σ_s_32 E hO ky (show rng ky from rky)) (va_cwS 1 hts gX11_withText_X11_isKey rfl rfl rfl (by decide +kernel) ⟨Nat.le_of_ble_eq_true rfl, Nat.le_of_ble_eq_true rfl⟩) (th_PS hK hH) rfl rfl hl.1 rfl (lv_room (Nat.le_of_ble_eq_true rfl)) dX11_withText_39 ⟨Nat.le_of_ble_eq_true rfl, Nat.le_of_ble_eq_true rfl⟩) hS (fun z_209 σ_s_208 H locs rz_209 hw_207 hH hS => ?_)
        obtain ⟨e9, bhw_207, hw_207⟩ := hw_207
        replace e9 := e9.symm
        subst e9
        replace hw_207 : (z_209 = 1 ∧ isW ky) ∨ (z_209 = 0 ∧ ¬ isW ky) := hw_207
        refine lv_if_ne (tgt := 51) hx hb dX11_withText_42 (by decide) (fun c_210 => ?_) (fun c_210 => ?_)
        · replace c_210 := mt (I_eq (a := z_209) (b := 0) rz_209 (show rng 0 from ⟨by decide, by decide⟩)).mpr c_210
          refine lv_aload_n hx hb dX11_withText_51 rfl (lv_at hl 0 rfl) ?_
          refine lv_iload hx hb dX11_withText_52 (lv_at hl 4 rfl) ?_
          obtain ⟨_, hc_211⟩ := hO.cell h_a (by decide) (ci := 11) rfl
          refine th_calli (va_runV (As := [.int (I nn)]) (rest := []) ⟨hx, hb, hml, hown, hts⟩ (n_readsData l G y b0 σ_s_32 E hO a h_a nn (show rng nn from rnn) (by omega) (by omega) f2 e_44 f6 e_46 T (hSt ⟨by omega, (hw_57.resolve_right (fun h8 => absurd h8.1 (by omega))).2, fun _ => (hw_207.resolve_right (fun h8 => absurd h8.1 (by omega))).2⟩)) (cwV 1 hts gX11_withText_X11_readsData rfl rfl rfl (by decide +kernel) ⟨Nat.le_of_ble_eq_true rfl, Nat.le_of_ble_eq_true rfl⟩) (th_PV hK hH rfl hc_211) rfl rfl hl.1 rfl (lv_room (Nat.le_of_ble_eq_true rfl)) dX11_withText_54 ⟨Nat.le_of_ble_eq_true rfl, Nat.le_of_ble_eq_true rfl⟩) hS (fun z_214 σ_s_213 H locs rz_214 hw_212 hH hS => ?_)
          obtain ⟨hO9, hF9, hM9, bhw_212, hw_212⟩ := hw_212
          replace hM := hM.tu hM9 (by decide)
          replace hF := hF.tu hF9 (by decide)
          have e_215 : aF σ_s_213 (ad E a 1) = f1 := (hM9.a (by decide) (by decide)).trans e_33
          have e_216 : aF σ_s_213 (ad E a 37) = f37 := (hM9.a (by decide) (by decide)).trans e_34
          have e_217 : aF σ_s_213 (ad E a 61) = f61 := (hM9.a (by decide) (by decide)).trans e_35
          have e_218 : aF σ_s_213 (ad E a 62) = f62 := (hM9.a (by decide) (by decide)).trans e_36
          have e_219 : aF σ_s_213 (ad E a 39) = f39 := (hM9.a (by decide) (by decide)).trans e_37
          have e_220 : aF σ_s_213 (ad E a 40) = f40 := (hM9.a (by decide) (by decide)).trans e_38
          have e_221 : aF σ_s_213 (ad E a 42) = f42 := (hM9.a (by decide) (by decide)).trans e_39
          have e_222 : aF σ_s_213 (ad E a 43) = f43 := (hM9.a (by decide) (by decide)).trans e_40
          have e_223 : aF σ_s_213 (ad E a 44) = f44 := (hM9.a (by decide) (by decide)).trans e_41
          have e_224 : aF σ_s_213 (ad E a 45) = f45 := (hM9.a (by decide) (by decide)).trans e_42
          have e_225 : aF σ_s_213 (ad E a 46) = f46 := (hM9.a (by decide) (by decide)).trans e_43
          have e_226 : aF σ_s_213 (ad E a 3) = f3 := (hM9.a (by decide) (by decide)).trans e_45
          have e_227 : aF σ_s_213 (ad E a 6) = f6 := (hM9.a (by decide) (by decide)).trans e_46
          have e_228 : aF σ_s_213 (ad E a 8) = f8 := (hM9.a (by decide) (by decide)).trans e_47
          have e_229 : aF σ_s_213 (ad E a 35) = f35 := (hM9.a (by decide) (by decide)).trans e_48
          have e_230 : gI σ_s_213 a 36 = a360 := (hM9.i (by decide)).trans e_49
          have e_231 : gI σ_s_213 a 58 = a580 := (hM9.i (by decide)).trans e_50
          have e_232 : gI σ_s_213 a 59 = a590 := (hM9.i (by decide)).trans e_51
          have e_233 : gI σ_s_213 a 0 = 0 := (hM9.i (by decide)).trans e_54
          have e_234 : gI σ_s_213 a 12 = 0 := (hM9.i (by decide)).trans e_55
          replace hO := hO9
          generalize ef_236 : aF σ_s_213 (ad E a 2) = g_235 at hw_212
          replace hw_212 : ((z_214 = 1 ∧ tr g_235 ∧ mS g_235 0 = gI σ_s_213 a 22) ∨ z_214 = 0) ∧ ∃ rr pp, TopR T rr pp ∧ ((z_214 = 1 ∧ rr = 0) ∨ (z_214 = 0 ∧ rr ≠ 0)) ∧ gI σ_s_213 a 19 = rr ∧ gI σ_s_213 a 21 = pp := hw_212
          obtain ⟨z_237, e_238, rz_237, lz_237, uz_237⟩ := hO.gi h_a (by decide) k13_21
          obtain ⟨z_239, e_240, rz_239, lz_239, uz_239⟩ := hO.gi h_a (by decide) k13_19
          obtain ⟨hz_241, rr_242, pp_243, hT_244, hz_245⟩ := hw_212
          refine lv_if_ne (tgt := 63) hx hb dX11_withText_57 (by decide) (fun c_246 => ?_) (fun c_246 => ?_)
          · replace c_246 := mt (I_eq (a := z_214) (b := 0) rz_214 (show rng 0 from ⟨by decide, by decide⟩)).mpr c_246
            refine lv_aload_n hx hb dX11_withText_63 rfl (lv_at hl 0 rfl) ?_
            refine lv_iload_n hx hb dX11_withText_64 rfl (lv_at hl 3 rfl) ?_
            refine ok.putJ hO h_a k13_33 rky (by omega) (by omega) (fun _ he hl9 kk => th_put (ci := 11) (v := .int (I ky)) (ty := .int) (C := RX11) (T := TX11) (N := 66) hx hb hts inX11 tyX11 tyX11_ok nmX11 hown hK hH hS h00 he rfl 33 (by decide) fl2 rfl (by decide +kernel) rfl rfl hl9 dX11_withText_65 kk) (fun σ_s_247 H locs hO hF9 hM9 hg9 ha9 hH hS => ?_)
            replace hM := hM.tu hM9 (by decide)
            replace hF := hF.tu hF9 (by decide)
            have e_248 : aF σ_s_247 (ad E a 1) = f1 := (hM9.a (by decide) (by decide)).trans e_215
            have e_249 : aF σ_s_247 (ad E a 37) = f37 := (hM9.a (by decide) (by decide)).trans e_216
            have e_250 : aF σ_s_247 (ad E a 61) = f61 := (hM9.a (by decide) (by decide)).trans e_217
            have e_251 : aF σ_s_247 (ad E a 62) = f62 := (hM9.a (by decide) (by decide)).trans e_218
            have e_252 : aF σ_s_247 (ad E a 39) = f39 := (hM9.a (by decide) (by decide)).trans e_219
            have e_253 : aF σ_s_247 (ad E a 40) = f40 := (hM9.a (by decide) (by decide)).trans e_220
            have e_254 : aF σ_s_247 (ad E a 42) = f42 := (hM9.a (by decide) (by decide)).trans e_221
            have e_255 : aF σ_s_247 (ad E a 43) = f43 := (hM9.a (by decide) (by decide)).trans e_222
            have e_256 : aF σ_s_247 (ad E a 44) = f44 := (hM9.a (by decide) (by decide)).trans e_223
            have e_257 : aF σ_s_247 (ad E a 45) = f45 := (hM9.a (by decide) (by decide)).trans e_224
            have e_258 : aF σ_s_247 (ad E a 46) = f46 := (hM9.a (by decide) (by decide)).trans e_225
            have e_259 : aF σ_s_247 (ad E a 3) = f3 := (hM9.a (by decide) (by decide)).trans e_226
            have e_260 : aF σ_s_247 (ad E a 6) = f6 := (hM9.a (by decide) (by decide)).trans e_227
            have e_261 : aF σ_s_247 (ad E a 8) = f8 := (hM9.a (by decide) (by decide)).trans e_228
            have e_262 : aF σ_s_247 (ad E a 35) = f35 := (hM9.a (by decide) (by decide)).trans e_229
            have e_263 : gI σ_s_247 a 36 = a360 := (hM9.i (by decide)).trans e_230
            have e_264 : gI σ_s_247 a 58 = a580 := (hM9.i (by decide)).trans e_231
            have e_265 : gI σ_s_247 a 59 = a590 := (hM9.i (by decide)).trans e_232
            have e_266 : gI σ_s_247 a 0 = 0 := (hM9.i (by decide)).trans e_233
            have e_267 : gI σ_s_247 a 12 = 0 := (hM9.i (by decide)).trans e_234
            have e_268 : aF σ_s_247 (ad E a 2) = g_235 := (hM9.a (by decide) (by decide)).trans ef_236
            have e_269 : gI σ_s_247 a 21 = z_237 := (hM9.i (by decide)).trans e_238
            have e_270 : gI σ_s_247 a 19 = z_239 := (hM9.i (by decide)).trans e_240
            have e_271 := hg9
            refine lv_aload_n hx hb dX11_withText_68 rfl (lv_at hl 0 rfl) ?_
            refine lv_iload_n hx hb dX11_withText_69 rfl (lv_at hl 1 rfl) ?_
            refine lv_iload_n hx hb dX11_withText_70 rfl (lv_at hl 2 rfl) ?_
            refine lv_iconst (v := I 0) hx hb dX11_withText_71 (by decide) ?_
            obtain ⟨_, hc_272⟩ := hO.cell h_a (by decide) (ci := 11) rfl
            refine th_calli (va_runV (As := [.int (I slot), .int (I wh), .int (I 0)]) (rest := []) ⟨hx, hb, hml, hown, hts⟩ (m_changes l G y b0 σ_s_247 E hO a h_a slot (show rng slot from rslot) (by omega) (by omega) wh (show rng wh from rwh) (by omega) (by omega) 0 (show rng 0 from (show rng 0 from ⟨by decide, by decide⟩)) f1 e_248 g_235 e_268 f3 e_259 f8 e_261 f35 e_262 f37 e_249 (hw1) (by omega) (hj.1) ((hj.2.1.le (by omega))) ((by omega)) ((fun _ => ((hz_241.resolve_right (by omega)).2.1).td))) (cwV 3 hts gX11_withText_X11_changes rfl rfl rfl (by decide +kernel) ⟨Nat.le_of_ble_eq_true rfl, Nat.le_of_ble_eq_true rfl⟩) (th_PV hK hH rfl hc_272) rfl rfl hl.1 rfl (lv_room (Nat.le_of_ble_eq_true rfl)) dX11_withText_72 ⟨Nat.le_of_ble_eq_true rfl, Nat.le_of_ble_eq_true rfl⟩) hS (fun z_275 σ_s_274 H locs rz_275 hw_273 hH hS => ?_)
            obtain ⟨hO9, hF9, hM9, hw_273⟩ := hw_273
            replace hM := hM.tu hM9 (by decide)
            replace hF := hF.tu hF9 (by decide)
            have e_276 : aF σ_s_274 (ad E a 61) = f61 := (hM9.a (by decide) (by decide)).trans e_250
            have e_277 : aF σ_s_274 (ad E a 62) = f62 := (hM9.a (by decide) (by decide)).trans e_251
            have e_278 : aF σ_s_274 (ad E a 39) = f39 := (hM9.a (by decide) (by decide)).trans e_252
            have e_279 : aF σ_s_274 (ad E a 40) = f40 := (hM9.a (by decide) (by decide)).trans e_253
            have e_280 : aF σ_s_274 (ad E a 42) = f42 := (hM9.a (by decide) (by decide)).trans e_254
            have e_281 : aF σ_s_274 (ad E a 43) = f43 := (hM9.a (by decide) (by decide)).trans e_255
            have e_282 : aF σ_s_274 (ad E a 44) = f44 := (hM9.a (by decide) (by decide)).trans e_256
            have e_283 : aF σ_s_274 (ad E a 45) = f45 := (hM9.a (by decide) (by decide)).trans e_257
            have e_284 : aF σ_s_274 (ad E a 46) = f46 := (hM9.a (by decide) (by decide)).trans e_258
            have e_285 : aF σ_s_274 (ad E a 6) = f6 := (hM9.a (by decide) (by decide)).trans e_260
            have e_286 : aF σ_s_274 (ad E a 8) = f8 := (hM9.a (by decide) (by decide)).trans e_261
            have e_287 : gI σ_s_274 a 58 = a580 := (hM9.i (by decide)).trans e_264
            have e_288 : gI σ_s_274 a 59 = a590 := (hM9.i (by decide)).trans e_265
            have e_289 : gI σ_s_274 a 0 = 0 := (hM9.i (by decide)).trans e_266
            have e_290 : gI σ_s_274 a 12 = 0 := (hM9.i (by decide)).trans e_267
            have e_291 : aF σ_s_274 (ad E a 2) = g_235 := (hM9.a (by decide) (by decide)).trans e_268
            have e_292 : gI σ_s_274 a 21 = z_237 := (hM9.i (by decide)).trans e_269
            have e_293 : gI σ_s_274 a 33 = ky := (hM9.i (by decide)).trans e_271
            replace hO := hO9
            generalize ef_295 : aF σ_s_274 (ad E a 1) = g_294 at hw_273
            generalize ef_297 : aF σ_s_274 (ad E a 37) = g_296 at hw_273
            replace hw_273 : tr g_294 ∧ trs g_296 (gI σ_s_274 a 36) := hw_273
            refine lv_istore (lv' := [(5, .int (I z_275)), (0, .ref a), (1, .int (I slot)), (2, .int (I wh)), (3, .int (I ky)), (4, .int (I nn))]) hx hb dX11_withText_75 hl (by decide) rfl (fun ls hl => ?_)
            refine lv_iload hx hb dX11_withText_77 (lv_at hl 0 rfl) ?_
            refine lv_iconst (v := I (-1)) hx hb dX11_withText_79 (by decide) ?_
            refine lv_icmp_ne (tgt := 91) hx hb dX11_withText_80 (by decide) (fun c_298 => ?_) (fun c_298 => ?_)
            · replace c_298 := mt (I_eq (a := z_275) (b := (-1)) rz_275 (show rng (-1) from ⟨by decide, by decide⟩)).mpr c_298
              refine lv_iload hx hb dX11_withText_91 (lv_at hl 0 rfl) ?_
              exact th_iret hx hb hr hlocks hH hS (z := z_275) rz_275 ⟨hO, hF, hM, ⟨(by rw [show aF σ_s_274 (ad E a 1) = g_294 from ef_295, show aF σ_s_274 (ad E a 37) = g_296 from ef_297, show aF σ_s_274 (ad E a 61) = f61 from e_276, show aF σ_s_274 (ad E a 62) = f62 from e_277, show aF σ_s_274 (ad E a 39) = f39 from e_278, show aF σ_s_274 (ad E a 40) = f40 from e_279, show aF σ_s_274 (ad E a 42) = f42 from e_280, show aF σ_s_274 (ad E a 43) = f43 from e_281, show aF σ_s_274 (ad E a 44) = f44 from e_282, show aF σ_s_274 (ad E a 45) = f45 from e_283, show aF σ_s_274 (ad E a 46) = f46 from e_284]; exact ⟨hj.tree hw_273.1 (hw_273.2.le (by omega)) (by omega) (by omega), by omega⟩), fun _ => ⟨fun _ => ⟨rr_242, by rw [show gI σ_s_274 a 21 = pp_243 by omega]; exact hT_244⟩, fun h9 => absurd ⟨(hw_57.resolve_right (fun h8 => absurd h8.1 (by omega))).2, fun _ => (hw_207.resolve_right (fun h8 => absurd h8.1 (by omega))).2⟩ h9⟩, fun h9 => absurd (show (0 ≤ nn ∧ nn ≤ gI σ a 12) by omega) h9⟩⟩ dX11_withText_93
            · replace c_298 := (I_eq (a := z_275) (b := (-1)) rz_275 (show rng (-1) from ⟨by decide, by decide⟩)).mp c_298
              refine lv_aload_n hx hb dX11_withText_83 rfl (lv_at hl 1 rfl) ?_
              refine lv_iconst (v := I 1) hx hb dX11_withText_84 (by decide) ?_
              obtain ⟨z_299, e_300, rz_299, lz_299, uz_299⟩ := hO.gi h_a (by decide) k13_36
              obtain ⟨z_301, e_302, rz_301, lz_301, uz_301⟩ := hO.gi h_a (by decide) k13_19
              obtain ⟨_, hc_303⟩ := hO.cell h_a (by decide) (ci := 11) rfl
              refine th_calli (va_runV (As := [.int (I 1)]) (rest := []) ⟨hx, hb, hml, hown, hts⟩ (m_refuse l G y b0 σ_s_274 E hO a h_a 1 (show rng 1 from (show rng 1 from ⟨by decide, by decide⟩)) (by omega) (by omega)) (cwV 1 hts gX11_withText_X11_refuse rfl rfl rfl (by decide +kernel) ⟨Nat.le_of_ble_eq_true rfl, Nat.le_of_ble_eq_true rfl⟩) (th_PV hK hH rfl hc_303) rfl rfl hl.1 rfl (lv_room (Nat.le_of_ble_eq_true rfl)) dX11_withText_85 ⟨Nat.le_of_ble_eq_true rfl, Nat.le_of_ble_eq_true rfl⟩) hS (fun z_306 σ_s_305 H locs rz_306 hw_304 hH hS => ?_)
              obtain ⟨hO9, hF9, hM9, hw_304⟩ := hw_304
              replace hM := hM.tu hM9 (by decide)
              replace hF := hF.tu hF9 (by decide)
              have e_307 : aF σ_s_305 (ad E a 61) = f61 := (hM9.a (by decide) (by decide)).trans e_276
              have e_308 : aF σ_s_305 (ad E a 62) = f62 := (hM9.a (by decide) (by decide)).trans e_277
              have e_309 : aF σ_s_305 (ad E a 39) = f39 := (hM9.a (by decide) (by decide)).trans e_278
              have e_310 : aF σ_s_305 (ad E a 40) = f40 := (hM9.a (by decide) (by decide)).trans e_279
              have e_311 : aF σ_s_305 (ad E a 42) = f42 := (hM9.a (by decide) (by decide)).trans e_280
              have e_312 : aF σ_s_305 (ad E a 43) = f43 := (hM9.a (by decide) (by decide)).trans e_281
              have e_313 : aF σ_s_305 (ad E a 44) = f44 := (hM9.a (by decide) (by decide)).trans e_282
              have e_314 : aF σ_s_305 (ad E a 45) = f45 := (hM9.a (by decide) (by decide)).trans e_283
              have e_315 : aF σ_s_305 (ad E a 46) = f46 := (hM9.a (by decide) (by decide)).trans e_284
              have e_316 : aF σ_s_305 (ad E a 6) = f6 := (hM9.a (by decide) (by decide)).trans e_285
              have e_317 : aF σ_s_305 (ad E a 8) = f8 := (hM9.a (by decide) (by decide)).trans e_286
              have e_318 : gI σ_s_305 a 58 = a580 := (hM9.i (by decide)).trans e_287
              have e_319 : gI σ_s_305 a 59 = a590 := (hM9.i (by decide)).trans e_288
              have e_320 : gI σ_s_305 a 0 = 0 := (hM9.i (by decide)).trans e_289
              have e_321 : gI σ_s_305 a 12 = 0 := (hM9.i (by decide)).trans e_290
              have e_322 : aF σ_s_305 (ad E a 2) = g_235 := (hM9.a (by decide) (by decide)).trans e_291
              have e_323 : gI σ_s_305 a 21 = z_237 := (hM9.i (by decide)).trans e_292
              have e_324 : gI σ_s_305 a 33 = ky := (hM9.i (by decide)).trans e_293
              have e_325 : aF σ_s_305 (ad E a 1) = g_294 := (hM9.a (by decide) (by decide)).trans ef_295
              have e_326 : aF σ_s_305 (ad E a 37) = g_296 := (hM9.a (by decide) (by decide)).trans ef_297
              have e_327 : gI σ_s_305 a 36 = z_299 := (hM9.i (by decide)).trans e_300
              have e_328 : gI σ_s_305 a 19 = z_301 := (hM9.i (by decide)).trans e_302
              replace hO := hO9
              replace hw_304 : z_306 = -1 := hw_304
              refine lv_goto (tgt := 93) hx hb dX11_withText_88 (by decide) ?_
              exact th_iret hx hb hr hlocks hH hS (z := z_306) rz_306 ⟨hO, hF, hM, ⟨(by rw [show aF σ_s_305 (ad E a 1) = g_294 from e_325, show aF σ_s_305 (ad E a 37) = g_296 from e_326, show aF σ_s_305 (ad E a 61) = f61 from e_307, show aF σ_s_305 (ad E a 62) = f62 from e_308, show aF σ_s_305 (ad E a 39) = f39 from e_309, show aF σ_s_305 (ad E a 40) = f40 from e_310, show aF σ_s_305 (ad E a 42) = f42 from e_311, show aF σ_s_305 (ad E a 43) = f43 from e_312, show aF σ_s_305 (ad E a 44) = f44 from e_313, show aF σ_s_305 (ad E a 45) = f45 from e_314, show aF σ_s_305 (ad E a 46) = f46 from e_315]; exact ⟨hj.tree hw_273.1 (hw_273.2.le (by omega)) (by omega) (by omega), by omega⟩), fun _ => ⟨fun _ => ⟨rr_242, by rw [show gI σ_s_305 a 21 = pp_243 by omega]; exact hT_244⟩, fun h9 => absurd ⟨(hw_57.resolve_right (fun h8 => absurd h8.1 (by omega))).2, fun _ => (hw_207.resolve_right (fun h8 => absurd h8.1 (by omega))).2⟩ h9⟩, fun h9 => absurd (show (0 ≤ nn ∧ nn ≤ gI σ a 12) by omega) h9⟩⟩ dX11_withText_93
          · replace c_246 := (I_eq (a := z_214) (b := 0) rz_214 (show rng 0 from ⟨by decide, by decide⟩)).mp c_246
            refine lv_bipush (v := I (-2)) hx hb dX11_withText_60 (by decide) ?_
            exact th_iret hx hb hr hlocks hH hS (z := (-2)) (show rng (-2) from ⟨by decide, by decide⟩) ⟨hO, hF, hM, ⟨(by rw [show aF σ_s_213 (ad E a 1) = f1 from e_215, show aF σ_s_213 (ad E a 37) = f37 from e_216, show aF σ_s_213 (ad E a 61) = f61 from e_217, show aF σ_s_213 (ad E a 62) = f62 from e_218, show aF σ_s_213 (ad E a 39) = f39 from e_219, show aF σ_s_213 (ad E a 40) = f40 from e_220, show aF σ_s_213 (ad E a 42) = f42 from e_221, show aF σ_s_213 (ad E a 43) = f43 from e_222, show aF σ_s_213 (ad E a 44) = f44 from e_223, show aF σ_s_213 (ad E a 45) = f45 from e_224, show aF σ_s_213 (ad E a 46) = f46 from e_225]; exact ⟨hj.n (by omega) (by omega) (by omega), by omega⟩), fun _ => ⟨fun _ => ⟨rr_242, by rw [show gI σ_s_213 a 21 = pp_243 by omega]; exact hT_244⟩, fun h9 => absurd ⟨(hw_57.resolve_right (fun h8 => absurd h8.1 (by omega))).2, fun _ => (hw_207.resolve_right (fun h8 => absurd h8.1 (by omega))).2⟩ h9⟩, fun h9 => absurd (show (0 ≤ nn ∧ nn ≤ gI σ a 12) by omega) h9⟩⟩ dX11_withText_62
        · replace c_210 := (I_eq (a := z_209) (b := 0) rz_209 (show rng 0 from ⟨by decide, by decide⟩)).mp c_210
          refine lv_aload_n hx hb dX11_withText_45 rfl (lv_at hl 0 rfl) ?_
          refine lv_iconst (v := I 1) hx hb dX11_withText_46 (by decide) ?_
          obtain ⟨_, hc_329⟩ := hO.cell h_a (by decide) (ci := 11) rfl
          refine th_calli (va_runV (As := [.int (I 1)]) (rest := []) ⟨hx, hb, hml, hown, hts⟩ (m_refuse l G y b0 σ_s_32 E hO a h_a 1 (show rng 1 from (show rng 1 from ⟨by decide, by decide⟩)) (by omega) (by omega)) (cwV 1 hts gX11_withText_X11_refuse rfl rfl rfl (by decide +kernel) ⟨Nat.le_of_ble_eq_true rfl, Nat.le_of_ble_eq_true rfl⟩) (th_PV hK hH rfl hc_329) rfl rfl hl.1 rfl (lv_room (Nat.le_of_ble_eq_true rfl)) dX11_withText_47 ⟨Nat.le_of_ble_eq_true rfl, Nat.le_of_ble_eq_true rfl⟩) hS (fun z_332 σ_s_331 H locs rz_332 hw_330 hH hS => ?_)
          obtain ⟨hO9, hF9, hM9, hw_330⟩ := hw_330
          replace hM := hM.tu hM9 (by decide)
          replace hF := hF.tu hF9 (by decide)
          have e_333 : aF σ_s_331 (ad E a 1) = f1 := (hM9.a (by decide) (by decide)).trans e_33
          have e_334 : aF σ_s_331 (ad E a 37) = f37 := (hM9.a (by decide) (by decide)).trans e_34
          have e_335 : aF σ_s_331 (ad E a 61) = f61 := (hM9.a (by decide) (by decide)).trans e_35
          have e_336 : aF σ_s_331 (ad E a 62) = f62 := (hM9.a (by decide) (by decide)).trans e_36
          have e_337 : aF σ_s_331 (ad E a 39) = f39 := (hM9.a (by decide) (by decide)).trans e_37
          have e_338 : aF σ_s_331 (ad E a 40) = f40 := (hM9.a (by decide) (by decide)).trans e_38
          have e_339 : aF σ_s_331 (ad E a 42) = f42 := (hM9.a (by decide) (by decide)).trans e_39
          have e_340 : aF σ_s_331 (ad E a 43) = f43 := (hM9.a (by decide) (by decide)).trans e_40
          have e_341 : aF σ_s_331 (ad E a 44) = f44 := (hM9.a (by decide) (by decide)).trans e_41
          have e_342 : aF σ_s_331 (ad E a 45) = f45 := (hM9.a (by decide) (by decide)).trans e_42
          have e_343 : aF σ_s_331 (ad E a 46) = f46 := (hM9.a (by decide) (by decide)).trans e_43
          have e_344 : aF σ_s_331 (ad E a 2) = f2 := (hM9.a (by decide) (by decide)).trans e_44
          have e_345 : aF σ_s_331 (ad E a 3) = f3 := (hM9.a (by decide) (by decide)).trans e_45
          have e_346 : aF σ_s_331 (ad E a 6) = f6 := (hM9.a (by decide) (by decide)).trans e_46
          have e_347 : aF σ_s_331 (ad E a 8) = f8 := (hM9.a (by decide) (by decide)).trans e_47
          have e_348 : aF σ_s_331 (ad E a 35) = f35 := (hM9.a (by decide) (by decide)).trans e_48
          have e_349 : gI σ_s_331 a 36 = a360 := (hM9.i (by decide)).trans e_49
          have e_350 : gI σ_s_331 a 58 = a580 := (hM9.i (by decide)).trans e_50
          have e_351 : gI σ_s_331 a 59 = a590 := (hM9.i (by decide)).trans e_51
          have e_352 : gI σ_s_331 a 21 = a210 := (hM9.i (by decide)).trans e_52
          have e_353 : gI σ_s_331 a 19 = z_1 := (hM9.i (by decide)).trans e_53
          have e_354 : gI σ_s_331 a 0 = 0 := (hM9.i (by decide)).trans e_54
          have e_355 : gI σ_s_331 a 12 = 0 := (hM9.i (by decide)).trans e_55
          replace hO := hO9
          replace hw_330 : z_332 = -1 := hw_330
          exact th_iret hx hb hr hlocks hH hS (z := z_332) rz_332 ⟨hO, hF, hM, ⟨(by rw [show aF σ_s_331 (ad E a 1) = f1 from e_333, show aF σ_s_331 (ad E a 37) = f37 from e_334, show aF σ_s_331 (ad E a 61) = f61 from e_335, show aF σ_s_331 (ad E a 62) = f62 from e_336, show aF σ_s_331 (ad E a 39) = f39 from e_337, show aF σ_s_331 (ad E a 40) = f40 from e_338, show aF σ_s_331 (ad E a 42) = f42 from e_339, show aF σ_s_331 (ad E a 43) = f43 from e_340, show aF σ_s_331 (ad E a 44) = f44 from e_341, show aF σ_s_331 (ad E a 45) = f45 from e_342, show aF σ_s_331 (ad E a 46) = f46 from e_343]; exact ⟨hj.n (by omega) (by omega) (by omega), by omega⟩), fun _ => ⟨fun h9 => absurd (h9.2 (by omega)) (hw_207.resolve_left (fun h8 => absurd h8.1 (by omega))).2, fun _ => by omega⟩, fun h9 => absurd (show (0 ≤ nn ∧ nn ≤ gI σ a 12) by omega) h9⟩⟩ dX11_withText_50
  · replace c_31 := (I_eq (a := z_30) (b := 0) rz_30 (show rng 0 from ⟨by decide, by decide⟩)).mp c_31
    refine lv_aload_n hx hb dX11_withText_14 rfl (lv_at hl 0 rfl) ?_
    refine lv_iconst (v := I 1) hx hb dX11_withText_15 (by decide) ?_
    obtain ⟨_, hc_356⟩ := hO.cell h_a (by decide) (ci := 11) rfl
    refine th_calli (va_runV (As := [.int (I 1)]) (rest := []) ⟨hx, hb, hml, hown, hts⟩ (n_fail l G y b0 σ_s_3 E hO a h_a 1 (show rng 1 from (show rng 1 from ⟨by decide, by decide⟩))) (cwV 1 hts gX11_withText_X11_fail rfl rfl rfl (by decide +kernel) ⟨Nat.le_of_ble_eq_true rfl, Nat.le_of_ble_eq_true rfl⟩) (th_PV hK hH rfl hc_356) rfl rfl hl.1 rfl (lv_room (Nat.le_of_ble_eq_true rfl)) dX11_withText_16 ⟨Nat.le_of_ble_eq_true rfl, Nat.le_of_ble_eq_true rfl⟩) hS (fun z_359 σ_s_358 H locs rz_359 hw_357 hH hS => ?_)
    obtain ⟨hO9, hF9, hM9, hw_357⟩ := hw_357
    replace hM := hM.tu hM9 (by decide)
    replace hF := hF.tu hF9 (by decide)
    have e_360 : aF σ_s_358 (ad E a 1) = f1 := (hM9.a (by decide) (by decide)).trans e_4
    have e_361 : aF σ_s_358 (ad E a 37) = f37 := (hM9.a (by decide) (by decide)).trans e_5
    have e_362 : aF σ_s_358 (ad E a 61) = f61 := (hM9.a (by decide) (by decide)).trans e_6
    have e_363 : aF σ_s_358 (ad E a 62) = f62 := (hM9.a (by decide) (by decide)).trans e_7
    have e_364 : aF σ_s_358 (ad E a 39) = f39 := (hM9.a (by decide) (by decide)).trans e_8
    have e_365 : aF σ_s_358 (ad E a 40) = f40 := (hM9.a (by decide) (by decide)).trans e_9
    have e_366 : aF σ_s_358 (ad E a 42) = f42 := (hM9.a (by decide) (by decide)).trans e_10
    have e_367 : aF σ_s_358 (ad E a 43) = f43 := (hM9.a (by decide) (by decide)).trans e_11
    have e_368 : aF σ_s_358 (ad E a 44) = f44 := (hM9.a (by decide) (by decide)).trans e_12
    have e_369 : aF σ_s_358 (ad E a 45) = f45 := (hM9.a (by decide) (by decide)).trans e_13
    have e_370 : aF σ_s_358 (ad E a 46) = f46 := (hM9.a (by decide) (by decide)).trans e_14
    have e_371 : aF σ_s_358 (ad E a 2) = f2 := (hM9.a (by decide) (by decide)).trans e_15
    have e_372 : aF σ_s_358 (ad E a 3) = f3 := (hM9.a (by decide) (by decide)).trans e_16
    have e_373 : aF σ_s_358 (ad E a 6) = f6 := (hM9.a (by decide) (by decide)).trans e_17
    have e_374 : aF σ_s_358 (ad E a 8) = f8 := (hM9.a (by decide) (by decide)).trans e_18
    have e_375 : aF σ_s_358 (ad E a 35) = f35 := (hM9.a (by decide) (by decide)).trans e_19
    have e_376 : gI σ_s_358 a 36 = a360 := (hM9.i (by decide)).trans e_20
    have e_377 : gI σ_s_358 a 58 = a580 := (hM9.i (by decide)).trans e_21
    have e_378 : gI σ_s_358 a 59 = a590 := (hM9.i (by decide)).trans e_22
    have e_379 : gI σ_s_358 a 12 = a120 := (hM9.i (by decide)).trans e_23
    have e_380 : gI σ_s_358 a 21 = a210 := (hM9.i (by decide)).trans e_24
    have e_381 : gI σ_s_358 a 19 = z_1 := (hM9.i (by decide)).trans e_25
    replace hO := hO9
    replace hw_357 : z_359 = 0 ∧ gI σ_s_358 a 0 = 1 := hw_357
    exact th_iret hx hb hr hlocks hH hS (z := z_359) rz_359 ⟨hO, hF, hM, ⟨(by rw [show aF σ_s_358 (ad E a 1) = f1 from e_360, show aF σ_s_358 (ad E a 37) = f37 from e_361, show aF σ_s_358 (ad E a 61) = f61 from e_362, show aF σ_s_358 (ad E a 62) = f62 from e_363, show aF σ_s_358 (ad E a 39) = f39 from e_364, show aF σ_s_358 (ad E a 40) = f40 from e_365, show aF σ_s_358 (ad E a 42) = f42 from e_366, show aF σ_s_358 (ad E a 43) = f43 from e_367, show aF σ_s_358 (ad E a 44) = f44 from e_368, show aF σ_s_358 (ad E a 45) = f45 from e_369, show aF σ_s_358 (ad E a 46) = f46 from e_370]; exact ⟨hj.n (by omega) (by omega) (by omega), by omega⟩), fun h9 => absurd h9 (by omega), fun _ => by omega⟩⟩ dX11_withText_19

set_option maxHeartbeats 20000000 in
set_option maxRecDepth 100000 in
theorem j9_put (l : Launch) (G : va_G) (y : Nat → ClassId) (b0 : Nat) (σ : th_M) (E : th_E) (hO : ok y E σ) (a : Nat) (h_a : kd E a = 13) (slot : Int) (rslot : rng slot) (nn : Int) (rnn : rng nn) (f1 : Nat → Int32) (ef1 : aF σ (ad E a 1) = f1) (f37 : Nat → Int32) (ef37 : aF σ (ad E a 37) = f37) (f61 : Nat → Int32) (ef61 : aF σ (ad E a 61) = f61) (f62 : Nat → Int32) (ef62 : aF σ (ad E a 62) = f62) (f39 : Nat → Int32) (ef39 : aF σ (ad E a 39) = f39) (f40 : Nat → Int32) (ef40 : aF σ (ad E a 40) = f40) (f42 : Nat → Int32) (ef42 : aF σ (ad E a 42) = f42) (f43 : Nat → Int32) (ef43 : aF σ (ad E a 43) = f43) (f44 : Nat → Int32) (ef44 : aF σ (ad E a 44) = f44) (f45 : Nat → Int32) (ef45 : aF σ (ad E a 45) = f45) (f46 : Nat → Int32) (ef46 : aF σ (ad E a 46) = f46) (f2 : Nat → Int32) (ef2 : aF σ (ad E a 2) = f2) (f3 : Nat → Int32) (ef3 : aF σ (ad E a 3) = f3) (f6 : Nat → Int32) (ef6 : aF σ (ad E a 6) = f6) (f8 : Nat → Int32) (ef8 : aF σ (ad E a 8) = f8) (f35 : Nat → Int32) (ef35 : aF σ (ad E a 35) = f35) (T : tkT) (hSt : (((0 ≤ nn ∧ nn ≤ gI σ a 12) ∧ ((0 ≤ slot ∧ slot ≤ 3 ∧ 1 ≤ (f8 slot.toNat).toInt))) → tkSt (byf f6 nn) T)) (hy0 : jw f1 f37 f61 f62 f39 f40 f42 f43 f44 f45 f46 (gI σ a 36) (gI σ a 58) (gI σ a 59)) : Met l yX11_put wsX11_put ({ frames := 53, cells := 0, slots := 0, locals := 2062 }) (th_P G y b0 σ [.ref a, .int (I slot), .int (I nn)]) (th_Qi G b0 (fun r σ1 => ok y E σ1 ∧ fr [13] E σ σ1 ∧ fm [0, 1, 2, 3, 4, 5, 9, 10, 11, 12, 13, 14, 15, 16, 17, 18, 19, 20, 21, 22, 23, 24, 25, 26, 27, 28, 29, 30, 32, 33, 34, 35, 36, 37] E σ σ1 a ∧ ((jw (aF σ1 (ad E a 1)) (aF σ1 (ad E a 37)) (aF σ1 (ad E a 61)) (aF σ1 (ad E a 62)) (aF σ1 (ad E a 39)) (aF σ1 (ad E a 40)) (aF σ1 (ad E a 42)) (aF σ1 (ad E a 43)) (aF σ1 (ad E a 44)) (aF σ1 (ad E a 45)) (aF σ1 (ad E a 46)) (gI σ1 a 36) (gI σ1 a 58) (gI σ1 a 59) ∧ (((0 ≤ nn ∧ nn ≤ gI σ a 12) ∧ gI σ1 a 12 = 0) ∨ (¬ (0 ≤ nn ∧ nn ≤ gI σ a 12) ∧ gI σ1 a 12 = gI σ a 12))) ∧ ((0 ≤ nn ∧ nn ≤ gI σ a 12) → (((0 ≤ slot ∧ slot ≤ 3 ∧ 1 ≤ (f8 slot.toNat).toInt)) → ∃ rr, TopR T rr (gI σ1 a 21)) ∧ (¬ ((0 ≤ slot ∧ slot ≤ 3 ∧ 1 ≤ (f8 slot.toNat).toInt)) → gI σ1 a 21 = gI σ a 21)) ∧ (¬ (0 ≤ nn ∧ nn ≤ gI σ a 12) → gI σ1 a 21 = gI σ a 21)))) 0 0 (th_A b0) := by
  refine Met.ofW (cc := cX11_put) (maxL := 3) (ret := (some .int)) (by decide) rfl ?_
  intro p e s m args below meth c s₁ B hml hv
  obtain ⟨rfl, hH, hK⟩ := hv
  have hx := B.exec
  have hb := B.bytes
  have hr := B.returns
  have hts := atoms_spec (ws := wsX11_put) B.pre
  have hown : s.vm.findClass RX11 = some m.cls := findClass_of_methodNamed B.named
  have hlocks := B.notSynchronized
  have h00 : b0 ≤ s.heap.size := hH.1
  have hS : va_S (th_A b0) s.heap s.heap [] := va_S.rf
  have hF : fr [13] E σ σ := fr.rf
  have hM : fm [0, 1, 2, 3, 4, 5, 9, 10, 11, 12, 13, 14, 15, 16, 17, 18, 19, 20, 21, 22, 23, 24, 25, 26, 27, 28, 29, 30, 32, 33, 34, 35, 36, 37] E σ σ a := fm.rf
  have hj := hy0
  have hw1 := hj.1.1.1
  have hm1 := hj.1.2.1
  have hm2 := hj.1.2.2.1
  have hm3 := hj.2.2.2.2.1
  have hm4 := hj.2.2.2.2.2.1
  have hl := lv_entry ([.ref a, .int (I slot), .int (I nn)]) (n := 3) (Nat.le_of_ble_eq_true rfl)
  rw [lg_entry_eq]
  generalize (lg_sl ([.ref a, .int (I slot), .int (I nn)]) ++ List.replicate (3 - (lg_sl ([.ref a, .int (I slot), .int (I nn)])).length) Slot.unset).toArray = ls at hl ⊢
  have hl : lv_has ls 3 [(0, .ref a), (1, .int (I slot)), (2, .int (I nn))] := hl
  obtain ⟨a360, ea360, ra360, la360, ua360⟩ := hO.gi h_a (by decide) k13_36
  obtain ⟨a580, ea580, ra580, la580, ua580⟩ := hO.gi h_a (by decide) k13_58
  obtain ⟨a590, ea590, ra590, la590, ua590⟩ := hO.gi h_a (by decide) k13_59
  obtain ⟨a120, ea120, ra120, la120, ua120⟩ := hO.gi h_a (by decide) k13_12
  obtain ⟨a210, ea210, ra210, la210, ua210⟩ := hO.gi h_a (by decide) k13_21
  refine lv_aload_n hx hb dX11_put_0 rfl (lv_at hl 0 rfl) ?_
  refine lv_iload_n hx hb dX11_put_1 rfl (lv_at hl 1 rfl) ?_
  refine lv_iconst (v := I 0) hx hb dX11_put_2 (by decide) ?_
  refine lv_iconst (v := I 0) hx hb dX11_put_3 (by decide) ?_
  refine lv_iload_n hx hb dX11_put_4 rfl (lv_at hl 2 rfl) ?_
  obtain ⟨_, hc_1⟩ := hO.cell h_a (by decide) (ci := 11) rfl
  refine th_calli (va_runV (As := [.int (I slot), .int (I 0), .int (I 0), .int (I nn)]) (rest := []) ⟨hx, hb, hml, hown, hts⟩ (j9_withText l G y b0 σ E hO a h_a slot (show rng slot from rslot) 0 (show rng 0 from (show rng 0 from ⟨by decide, by decide⟩)) (by omega) (by omega) 0 (show rng 0 from (show rng 0 from ⟨by decide, by decide⟩)) nn (show rng nn from rnn) f1 ef1 f37 ef37 f61 ef61 f62 ef62 f39 ef39 f40 ef40 f42 ef42 f43 ef43 f44 ef44 f45 ef45 f46 ef46 f2 ef2 f3 ef3 f6 ef6 f8 ef8 f35 ef35 T (fun h9 => hSt ⟨h9.1, h9.2.1⟩) (hj)) (cwV 4 hts gX11_put_X11_withText rfl rfl rfl (by decide +kernel) ⟨Nat.le_of_ble_eq_true rfl, Nat.le_of_ble_eq_true rfl⟩) (th_PV hK hH rfl hc_1) rfl rfl hl.1 rfl (lv_room (Nat.le_of_ble_eq_true rfl)) dX11_put_5 ⟨Nat.le_of_ble_eq_true rfl, Nat.le_of_ble_eq_true rfl⟩) hS (fun z_4 σ_s_3 H locs rz_4 hw_2 hH hS => ?_)
  obtain ⟨hO9, hF9, hM9, hw_2⟩ := hw_2
  replace hM := hM.tu hM9 (by decide)
  replace hF := hF.tu hF9 (by decide)
  have e_5 : aF σ_s_3 (ad E a 61) = f61 := (hM9.a (by decide) (by decide)).trans ef61
  have e_6 : aF σ_s_3 (ad E a 62) = f62 := (hM9.a (by decide) (by decide)).trans ef62
  have e_7 : aF σ_s_3 (ad E a 39) = f39 := (hM9.a (by decide) (by decide)).trans ef39
  have e_8 : aF σ_s_3 (ad E a 40) = f40 := (hM9.a (by decide) (by decide)).trans ef40
  have e_9 : aF σ_s_3 (ad E a 42) = f42 := (hM9.a (by decide) (by decide)).trans ef42
  have e_10 : aF σ_s_3 (ad E a 43) = f43 := (hM9.a (by decide) (by decide)).trans ef43
  have e_11 : aF σ_s_3 (ad E a 44) = f44 := (hM9.a (by decide) (by decide)).trans ef44
  have e_12 : aF σ_s_3 (ad E a 45) = f45 := (hM9.a (by decide) (by decide)).trans ef45
  have e_13 : aF σ_s_3 (ad E a 46) = f46 := (hM9.a (by decide) (by decide)).trans ef46
  have e_14 : aF σ_s_3 (ad E a 6) = f6 := (hM9.a (by decide) (by decide)).trans ef6
  have e_15 : aF σ_s_3 (ad E a 8) = f8 := (hM9.a (by decide) (by decide)).trans ef8
  have e_16 : gI σ_s_3 a 58 = a580 := (hM9.i (by decide)).trans ea580
  have e_17 : gI σ_s_3 a 59 = a590 := (hM9.i (by decide)).trans ea590
  replace hO := hO9
  generalize ef_19 : aF σ_s_3 (ad E a 1) = g_18 at hw_2
  generalize ef_21 : aF σ_s_3 (ad E a 37) = g_20 at hw_2
  generalize ef_23 : aF σ_s_3 (ad E a 39) = g_22 at hw_2
  generalize ef_25 : aF σ_s_3 (ad E a 40) = g_24 at hw_2
  generalize ef_27 : aF σ_s_3 (ad E a 42) = g_26 at hw_2
  generalize ef_29 : aF σ_s_3 (ad E a 43) = g_28 at hw_2
  generalize ef_31 : aF σ_s_3 (ad E a 44) = g_30 at hw_2
  generalize ef_33 : aF σ_s_3 (ad E a 45) = g_32 at hw_2
  generalize ef_35 : aF σ_s_3 (ad E a 46) = g_34 at hw_2
  generalize ef_37 : aF σ_s_3 (ad E a 61) = g_36 at hw_2
  generalize ef_39 : aF σ_s_3 (ad E a 62) = g_38 at hw_2
  replace hw_2 : (jw g_18 g_20 g_36 g_38 g_22 g_24 g_26 g_28 g_30 g_32 g_34 (gI σ_s_3 a 36) (gI σ_s_3 a 58) (gI σ_s_3 a 59) ∧ (((0 ≤ nn ∧ nn ≤ gI σ a 12) ∧ gI σ_s_3 a 12 = 0) ∨ (¬ (0 ≤ nn ∧ nn ≤ gI σ a 12) ∧ gI σ_s_3 a 12 = gI σ a 12))) ∧ ((0 ≤ nn ∧ nn ≤ gI σ a 12) → (((0 ≤ slot ∧ slot ≤ 3 ∧ 1 ≤ (f8 slot.toNat).toInt) ∧ ((0 : Int) = 2 → isW 0)) → ∃ rr, TopR T rr (gI σ_s_3 a 21)) ∧ (¬ ((0 ≤ slot ∧ slot ≤ 3 ∧ 1 ≤ (f8 slot.toNat).toInt) ∧ ((0 : Int) = 2 → isW 0)) → gI σ_s_3 a 21 = gI σ a 21)) ∧ (¬ (0 ≤ nn ∧ nn ≤ gI σ a 12) → gI σ_s_3 a 21 = gI σ a 21) := hw_2
  exact th_iret hx hb hr hlocks hH hS (z := z_4) rz_4 ⟨hO, hF, hM, ⟨(by have h9 := hw_2.1; rw [show aF σ_s_3 (ad E a 1) = g_18 from ef_19, show aF σ_s_3 (ad E a 37) = g_20 from ef_21, show aF σ_s_3 (ad E a 61) = g_36 from ef_37, show aF σ_s_3 (ad E a 62) = g_38 from ef_39, show aF σ_s_3 (ad E a 39) = g_22 from ef_23, show aF σ_s_3 (ad E a 40) = g_24 from ef_25, show aF σ_s_3 (ad E a 42) = g_26 from ef_27, show aF σ_s_3 (ad E a 43) = g_28 from ef_29, show aF σ_s_3 (ad E a 44) = g_30 from ef_31, show aF σ_s_3 (ad E a 45) = g_32 from ef_33, show aF σ_s_3 (ad E a 46) = g_34 from ef_35]; exact ⟨h9.1, h9.2⟩), (fun h9 => ⟨fun h8 => (hw_2.2.1 h9).1 ⟨h8, fun h7 => absurd h7 (by decide)⟩, fun h8 => (hw_2.2.1 h9).2 (fun h7 => h8 h7.1)⟩), (fun h9 => hw_2.2.2 h9)⟩⟩ dX11_put_8

set_option maxHeartbeats 20000000 in
set_option maxRecDepth 100000 in
theorem j9_append (l : Launch) (G : va_G) (y : Nat → ClassId) (b0 : Nat) (σ : th_M) (E : th_E) (hO : ok y E σ) (a : Nat) (h_a : kd E a = 13) (slot : Int) (rslot : rng slot) (nn : Int) (rnn : rng nn) (f1 : Nat → Int32) (ef1 : aF σ (ad E a 1) = f1) (f37 : Nat → Int32) (ef37 : aF σ (ad E a 37) = f37) (f61 : Nat → Int32) (ef61 : aF σ (ad E a 61) = f61) (f62 : Nat → Int32) (ef62 : aF σ (ad E a 62) = f62) (f39 : Nat → Int32) (ef39 : aF σ (ad E a 39) = f39) (f40 : Nat → Int32) (ef40 : aF σ (ad E a 40) = f40) (f42 : Nat → Int32) (ef42 : aF σ (ad E a 42) = f42) (f43 : Nat → Int32) (ef43 : aF σ (ad E a 43) = f43) (f44 : Nat → Int32) (ef44 : aF σ (ad E a 44) = f44) (f45 : Nat → Int32) (ef45 : aF σ (ad E a 45) = f45) (f46 : Nat → Int32) (ef46 : aF σ (ad E a 46) = f46) (f2 : Nat → Int32) (ef2 : aF σ (ad E a 2) = f2) (f3 : Nat → Int32) (ef3 : aF σ (ad E a 3) = f3) (f6 : Nat → Int32) (ef6 : aF σ (ad E a 6) = f6) (f8 : Nat → Int32) (ef8 : aF σ (ad E a 8) = f8) (f35 : Nat → Int32) (ef35 : aF σ (ad E a 35) = f35) (T : tkT) (hSt : (((0 ≤ nn ∧ nn ≤ gI σ a 12) ∧ ((0 ≤ slot ∧ slot ≤ 3 ∧ 1 ≤ (f8 slot.toNat).toInt))) → tkSt (byf f6 nn) T)) (hy0 : jw f1 f37 f61 f62 f39 f40 f42 f43 f44 f45 f46 (gI σ a 36) (gI σ a 58) (gI σ a 59)) : Met l yX11_append wsX11_append ({ frames := 53, cells := 0, slots := 0, locals := 2062 }) (th_P G y b0 σ [.ref a, .int (I slot), .int (I nn)]) (th_Qi G b0 (fun r σ1 => ok y E σ1 ∧ fr [13] E σ σ1 ∧ fm [0, 1, 2, 3, 4, 5, 9, 10, 11, 12, 13, 14, 15, 16, 17, 18, 19, 20, 21, 22, 23, 24, 25, 26, 27, 28, 29, 30, 32, 33, 34, 35, 36, 37] E σ σ1 a ∧ ((jw (aF σ1 (ad E a 1)) (aF σ1 (ad E a 37)) (aF σ1 (ad E a 61)) (aF σ1 (ad E a 62)) (aF σ1 (ad E a 39)) (aF σ1 (ad E a 40)) (aF σ1 (ad E a 42)) (aF σ1 (ad E a 43)) (aF σ1 (ad E a 44)) (aF σ1 (ad E a 45)) (aF σ1 (ad E a 46)) (gI σ1 a 36) (gI σ1 a 58) (gI σ1 a 59) ∧ (((0 ≤ nn ∧ nn ≤ gI σ a 12) ∧ gI σ1 a 12 = 0) ∨ (¬ (0 ≤ nn ∧ nn ≤ gI σ a 12) ∧ gI σ1 a 12 = gI σ a 12))) ∧ ((0 ≤ nn ∧ nn ≤ gI σ a 12) → (((0 ≤ slot ∧ slot ≤ 3 ∧ 1 ≤ (f8 slot.toNat).toInt)) → ∃ rr, TopR T rr (gI σ1 a 21)) ∧ (¬ ((0 ≤ slot ∧ slot ≤ 3 ∧ 1 ≤ (f8 slot.toNat).toInt)) → gI σ1 a 21 = gI σ a 21)) ∧ (¬ (0 ≤ nn ∧ nn ≤ gI σ a 12) → gI σ1 a 21 = gI σ a 21)))) 0 0 (th_A b0) := by
  refine Met.ofW (cc := cX11_append) (maxL := 3) (ret := (some .int)) (by decide) rfl ?_
  intro p e s m args below meth c s₁ B hml hv
  obtain ⟨rfl, hH, hK⟩ := hv
  have hx := B.exec
  have hb := B.bytes
  have hr := B.returns
  have hts := atoms_spec (ws := wsX11_append) B.pre
  have hown : s.vm.findClass RX11 = some m.cls := findClass_of_methodNamed B.named
  have hlocks := B.notSynchronized
  have h00 : b0 ≤ s.heap.size := hH.1
  have hS : va_S (th_A b0) s.heap s.heap [] := va_S.rf
  have hF : fr [13] E σ σ := fr.rf
  have hM : fm [0, 1, 2, 3, 4, 5, 9, 10, 11, 12, 13, 14, 15, 16, 17, 18, 19, 20, 21, 22, 23, 24, 25, 26, 27, 28, 29, 30, 32, 33, 34, 35, 36, 37] E σ σ a := fm.rf
  have hj := hy0
  have hw1 := hj.1.1.1
  have hm1 := hj.1.2.1
  have hm2 := hj.1.2.2.1
  have hm3 := hj.2.2.2.2.1
  have hm4 := hj.2.2.2.2.2.1
  have hl := lv_entry ([.ref a, .int (I slot), .int (I nn)]) (n := 3) (Nat.le_of_ble_eq_true rfl)
  rw [lg_entry_eq]
  generalize (lg_sl ([.ref a, .int (I slot), .int (I nn)]) ++ List.replicate (3 - (lg_sl ([.ref a, .int (I slot), .int (I nn)])).length) Slot.unset).toArray = ls at hl ⊢
  have hl : lv_has ls 3 [(0, .ref a), (1, .int (I slot)), (2, .int (I nn))] := hl
  obtain ⟨a360, ea360, ra360, la360, ua360⟩ := hO.gi h_a (by decide) k13_36
  obtain ⟨a580, ea580, ra580, la580, ua580⟩ := hO.gi h_a (by decide) k13_58
  obtain ⟨a590, ea590, ra590, la590, ua590⟩ := hO.gi h_a (by decide) k13_59
  obtain ⟨a120, ea120, ra120, la120, ua120⟩ := hO.gi h_a (by decide) k13_12
  obtain ⟨a210, ea210, ra210, la210, ua210⟩ := hO.gi h_a (by decide) k13_21
  refine lv_aload_n hx hb dX11_append_0 rfl (lv_at hl 0 rfl) ?_
  refine lv_iload_n hx hb dX11_append_1 rfl (lv_at hl 1 rfl) ?_
  refine lv_iconst (v := I 1) hx hb dX11_append_2 (by decide) ?_
  refine lv_iconst (v := I 0) hx hb dX11_append_3 (by decide) ?_
  refine lv_iload_n hx hb dX11_append_4 rfl (lv_at hl 2 rfl) ?_
  obtain ⟨_, hc_1⟩ := hO.cell h_a (by decide) (ci := 11) rfl
  refine th_calli (va_runV (As := [.int (I slot), .int (I 1), .int (I 0), .int (I nn)]) (rest := []) ⟨hx, hb, hml, hown, hts⟩ (j9_withText l G y b0 σ E hO a h_a slot (show rng slot from rslot) 1 (show rng 1 from (show rng 1 from ⟨by decide, by decide⟩)) (by omega) (by omega) 0 (show rng 0 from (show rng 0 from ⟨by decide, by decide⟩)) nn (show rng nn from rnn) f1 ef1 f37 ef37 f61 ef61 f62 ef62 f39 ef39 f40 ef40 f42 ef42 f43 ef43 f44 ef44 f45 ef45 f46 ef46 f2 ef2 f3 ef3 f6 ef6 f8 ef8 f35 ef35 T (fun h9 => hSt ⟨h9.1, h9.2.1⟩) (hj)) (cwV 4 hts gX11_append_X11_withText rfl rfl rfl (by decide +kernel) ⟨Nat.le_of_ble_eq_true rfl, Nat.le_of_ble_eq_true rfl⟩) (th_PV hK hH rfl hc_1) rfl rfl hl.1 rfl (lv_room (Nat.le_of_ble_eq_true rfl)) dX11_append_5 ⟨Nat.le_of_ble_eq_true rfl, Nat.le_of_ble_eq_true rfl⟩) hS (fun z_4 σ_s_3 H locs rz_4 hw_2 hH hS => ?_)
  obtain ⟨hO9, hF9, hM9, hw_2⟩ := hw_2
  replace hM := hM.tu hM9 (by decide)
  replace hF := hF.tu hF9 (by decide)
  have e_5 : aF σ_s_3 (ad E a 61) = f61 := (hM9.a (by decide) (by decide)).trans ef61
  have e_6 : aF σ_s_3 (ad E a 62) = f62 := (hM9.a (by decide) (by decide)).trans ef62
  have e_7 : aF σ_s_3 (ad E a 39) = f39 := (hM9.a (by decide) (by decide)).trans ef39
  have e_8 : aF σ_s_3 (ad E a 40) = f40 := (hM9.a (by decide) (by decide)).trans ef40
  have e_9 : aF σ_s_3 (ad E a 42) = f42 := (hM9.a (by decide) (by decide)).trans ef42
  have e_10 : aF σ_s_3 (ad E a 43) = f43 := (hM9.a (by decide) (by decide)).trans ef43
  have e_11 : aF σ_s_3 (ad E a 44) = f44 := (hM9.a (by decide) (by decide)).trans ef44
  have e_12 : aF σ_s_3 (ad E a 45) = f45 := (hM9.a (by decide) (by decide)).trans ef45
  have e_13 : aF σ_s_3 (ad E a 46) = f46 := (hM9.a (by decide) (by decide)).trans ef46
  have e_14 : aF σ_s_3 (ad E a 6) = f6 := (hM9.a (by decide) (by decide)).trans ef6
  have e_15 : aF σ_s_3 (ad E a 8) = f8 := (hM9.a (by decide) (by decide)).trans ef8
  have e_16 : gI σ_s_3 a 58 = a580 := (hM9.i (by decide)).trans ea580
  have e_17 : gI σ_s_3 a 59 = a590 := (hM9.i (by decide)).trans ea590
  replace hO := hO9
  generalize ef_19 : aF σ_s_3 (ad E a 1) = g_18 at hw_2
  generalize ef_21 : aF σ_s_3 (ad E a 37) = g_20 at hw_2
  generalize ef_23 : aF σ_s_3 (ad E a 39) = g_22 at hw_2
  generalize ef_25 : aF σ_s_3 (ad E a 40) = g_24 at hw_2
  generalize ef_27 : aF σ_s_3 (ad E a 42) = g_26 at hw_2
  generalize ef_29 : aF σ_s_3 (ad E a 43) = g_28 at hw_2
  generalize ef_31 : aF σ_s_3 (ad E a 44) = g_30 at hw_2
  generalize ef_33 : aF σ_s_3 (ad E a 45) = g_32 at hw_2
  generalize ef_35 : aF σ_s_3 (ad E a 46) = g_34 at hw_2
  generalize ef_37 : aF σ_s_3 (ad E a 61) = g_36 at hw_2
  generalize ef_39 : aF σ_s_3 (ad E a 62) = g_38 at hw_2
  replace hw_2 : (jw g_18 g_20 g_36 g_38 g_22 g_24 g_26 g_28 g_30 g_32 g_34 (gI σ_s_3 a 36) (gI σ_s_3 a 58) (gI σ_s_3 a 59) ∧ (((0 ≤ nn ∧ nn ≤ gI σ a 12) ∧ gI σ_s_3 a 12 = 0) ∨ (¬ (0 ≤ nn ∧ nn ≤ gI σ a 12) ∧ gI σ_s_3 a 12 = gI σ a 12))) ∧ ((0 ≤ nn ∧ nn ≤ gI σ a 12) → (((0 ≤ slot ∧ slot ≤ 3 ∧ 1 ≤ (f8 slot.toNat).toInt) ∧ ((1 : Int) = 2 → isW 0)) → ∃ rr, TopR T rr (gI σ_s_3 a 21)) ∧ (¬ ((0 ≤ slot ∧ slot ≤ 3 ∧ 1 ≤ (f8 slot.toNat).toInt) ∧ ((1 : Int) = 2 → isW 0)) → gI σ_s_3 a 21 = gI σ a 21)) ∧ (¬ (0 ≤ nn ∧ nn ≤ gI σ a 12) → gI σ_s_3 a 21 = gI σ a 21) := hw_2
  exact th_iret hx hb hr hlocks hH hS (z := z_4) rz_4 ⟨hO, hF, hM, ⟨(by have h9 := hw_2.1; rw [show aF σ_s_3 (ad E a 1) = g_18 from ef_19, show aF σ_s_3 (ad E a 37) = g_20 from ef_21, show aF σ_s_3 (ad E a 61) = g_36 from ef_37, show aF σ_s_3 (ad E a 62) = g_38 from ef_39, show aF σ_s_3 (ad E a 39) = g_22 from ef_23, show aF σ_s_3 (ad E a 40) = g_24 from ef_25, show aF σ_s_3 (ad E a 42) = g_26 from ef_27, show aF σ_s_3 (ad E a 43) = g_28 from ef_29, show aF σ_s_3 (ad E a 44) = g_30 from ef_31, show aF σ_s_3 (ad E a 45) = g_32 from ef_33, show aF σ_s_3 (ad E a 46) = g_34 from ef_35]; exact ⟨h9.1, h9.2⟩), (fun h9 => ⟨fun h8 => (hw_2.2.1 h9).1 ⟨h8, fun h7 => absurd h7 (by decide)⟩, fun h8 => (hw_2.2.1 h9).2 (fun h7 => h8 h7.1)⟩), (fun h9 => hw_2.2.2 h9)⟩⟩ dX11_append_8

set_option maxHeartbeats 20000000 in
set_option maxRecDepth 100000 in
theorem j9_key (l : Launch) (G : va_G) (y : Nat → ClassId) (b0 : Nat) (σ : th_M) (E : th_E) (hO : ok y E σ) (a : Nat) (h_a : kd E a = 13) (slot : Int) (rslot : rng slot) (ky : Int) (rky : rng ky) (nn : Int) (rnn : rng nn) (f1 : Nat → Int32) (ef1 : aF σ (ad E a 1) = f1) (f37 : Nat → Int32) (ef37 : aF σ (ad E a 37) = f37) (f61 : Nat → Int32) (ef61 : aF σ (ad E a 61) = f61) (f62 : Nat → Int32) (ef62 : aF σ (ad E a 62) = f62) (f39 : Nat → Int32) (ef39 : aF σ (ad E a 39) = f39) (f40 : Nat → Int32) (ef40 : aF σ (ad E a 40) = f40) (f42 : Nat → Int32) (ef42 : aF σ (ad E a 42) = f42) (f43 : Nat → Int32) (ef43 : aF σ (ad E a 43) = f43) (f44 : Nat → Int32) (ef44 : aF σ (ad E a 44) = f44) (f45 : Nat → Int32) (ef45 : aF σ (ad E a 45) = f45) (f46 : Nat → Int32) (ef46 : aF σ (ad E a 46) = f46) (f2 : Nat → Int32) (ef2 : aF σ (ad E a 2) = f2) (f3 : Nat → Int32) (ef3 : aF σ (ad E a 3) = f3) (f6 : Nat → Int32) (ef6 : aF σ (ad E a 6) = f6) (f8 : Nat → Int32) (ef8 : aF σ (ad E a 8) = f8) (f35 : Nat → Int32) (ef35 : aF σ (ad E a 35) = f35) (T : tkT) (hSt : (((0 ≤ nn ∧ nn ≤ gI σ a 12) ∧ ((0 ≤ slot ∧ slot ≤ 3 ∧ 1 ≤ (f8 slot.toNat).toInt) ∧ isW ky)) → tkSt (byf f6 nn) T)) (hy0 : jw f1 f37 f61 f62 f39 f40 f42 f43 f44 f45 f46 (gI σ a 36) (gI σ a 58) (gI σ a 59)) : Met l yX11_key wsX11_key ({ frames := 53, cells := 0, slots := 0, locals := 2062 }) (th_P G y b0 σ [.ref a, .int (I slot), .int (I ky), .int (I nn)]) (th_Qi G b0 (fun r σ1 => ok y E σ1 ∧ fr [13] E σ σ1 ∧ fm [0, 1, 2, 3, 4, 5, 9, 10, 11, 12, 13, 14, 15, 16, 17, 18, 19, 20, 21, 22, 23, 24, 25, 26, 27, 28, 29, 30, 32, 33, 34, 35, 36, 37] E σ σ1 a ∧ ((jw (aF σ1 (ad E a 1)) (aF σ1 (ad E a 37)) (aF σ1 (ad E a 61)) (aF σ1 (ad E a 62)) (aF σ1 (ad E a 39)) (aF σ1 (ad E a 40)) (aF σ1 (ad E a 42)) (aF σ1 (ad E a 43)) (aF σ1 (ad E a 44)) (aF σ1 (ad E a 45)) (aF σ1 (ad E a 46)) (gI σ1 a 36) (gI σ1 a 58) (gI σ1 a 59) ∧ (((0 ≤ nn ∧ nn ≤ gI σ a 12) ∧ gI σ1 a 12 = 0) ∨ (¬ (0 ≤ nn ∧ nn ≤ gI σ a 12) ∧ gI σ1 a 12 = gI σ a 12))) ∧ ((0 ≤ nn ∧ nn ≤ gI σ a 12) → (((0 ≤ slot ∧ slot ≤ 3 ∧ 1 ≤ (f8 slot.toNat).toInt) ∧ isW ky) → ∃ rr, TopR T rr (gI σ1 a 21)) ∧ (¬ ((0 ≤ slot ∧ slot ≤ 3 ∧ 1 ≤ (f8 slot.toNat).toInt) ∧ isW ky) → gI σ1 a 21 = gI σ a 21)) ∧ (¬ (0 ≤ nn ∧ nn ≤ gI σ a 12) → gI σ1 a 21 = gI σ a 21)))) 0 0 (th_A b0) := by
  refine Met.ofW (cc := cX11_key) (maxL := 4) (ret := (some .int)) (by decide) rfl ?_
  intro p e s m args below meth c s₁ B hml hv
  obtain ⟨rfl, hH, hK⟩ := hv
  have hx := B.exec
  have hb := B.bytes
  have hr := B.returns
  have hts := atoms_spec (ws := wsX11_key) B.pre
  have hown : s.vm.findClass RX11 = some m.cls := findClass_of_methodNamed B.named
  have hlocks := B.notSynchronized
  have h00 : b0 ≤ s.heap.size := hH.1
  have hS : va_S (th_A b0) s.heap s.heap [] := va_S.rf
  have hF : fr [13] E σ σ := fr.rf
  have hM : fm [0, 1, 2, 3, 4, 5, 9, 10, 11, 12, 13, 14, 15, 16, 17, 18, 19, 20, 21, 22, 23, 24, 25, 26, 27, 28, 29, 30, 32, 33, 34, 35, 36, 37] E σ σ a := fm.rf
  have hj := hy0
  have hw1 := hj.1.1.1
  have hm1 := hj.1.2.1
  have hm2 := hj.1.2.2.1
  have hm3 := hj.2.2.2.2.1
  have hm4 := hj.2.2.2.2.2.1
  have hl := lv_entry ([.ref a, .int (I slot), .int (I ky), .int (I nn)]) (n := 4) (Nat.le_of_ble_eq_true rfl)
  rw [lg_entry_eq]
  generalize (lg_sl ([.ref a, .int (I slot), .int (I ky), .int (I nn)]) ++ List.replicate (4 - (lg_sl ([.ref a, .int (I slot), .int (I ky), .int (I nn)])).length) Slot.unset).toArray = ls at hl ⊢
  have hl : lv_has ls 4 [(0, .ref a), (1, .int (I slot)), (2, .int (I ky)), (3, .int (I nn))] := hl
  obtain ⟨a360, ea360, ra360, la360, ua360⟩ := hO.gi h_a (by decide) k13_36
  obtain ⟨a580, ea580, ra580, la580, ua580⟩ := hO.gi h_a (by decide) k13_58
  obtain ⟨a590, ea590, ra590, la590, ua590⟩ := hO.gi h_a (by decide) k13_59
  obtain ⟨a120, ea120, ra120, la120, ua120⟩ := hO.gi h_a (by decide) k13_12
  obtain ⟨a210, ea210, ra210, la210, ua210⟩ := hO.gi h_a (by decide) k13_21
  refine lv_aload_n hx hb dX11_key_0 rfl (lv_at hl 0 rfl) ?_
  refine lv_iload_n hx hb dX11_key_1 rfl (lv_at hl 1 rfl) ?_
  refine lv_iconst (v := I 2) hx hb dX11_key_2 (by decide) ?_
  refine lv_iload_n hx hb dX11_key_3 rfl (lv_at hl 2 rfl) ?_
  refine lv_iload_n hx hb dX11_key_4 rfl (lv_at hl 3 rfl) ?_
  obtain ⟨_, hc_1⟩ := hO.cell h_a (by decide) (ci := 11) rfl
  refine th_calli (va_runV (As := [.int (I slot), .int (I 2), .int (I ky), .int (I nn)]) (rest := []) ⟨hx, hb, hml, hown, hts⟩ (j9_withText l G y b0 σ E hO a h_a slot (show rng slot from rslot) 2 (show rng 2 from (show rng 2 from ⟨by decide, by decide⟩)) (by omega) (by omega) ky (show rng ky from rky) nn (show rng nn from rnn) f1 ef1 f37 ef37 f61 ef61 f62 ef62 f39 ef39 f40 ef40 f42 ef42 f43 ef43 f44 ef44 f45 ef45 f46 ef46 f2 ef2 f3 ef3 f6 ef6 f8 ef8 f35 ef35 T (fun h9 => hSt ⟨h9.1, h9.2.1, h9.2.2 rfl⟩) (hj)) (cwV 4 hts gX11_key_X11_withText rfl rfl rfl (by decide +kernel) ⟨Nat.le_of_ble_eq_true rfl, Nat.le_of_ble_eq_true rfl⟩) (th_PV hK hH rfl hc_1) rfl rfl hl.1 rfl (lv_room (Nat.le_of_ble_eq_true rfl)) dX11_key_5 ⟨Nat.le_of_ble_eq_true rfl, Nat.le_of_ble_eq_true rfl⟩) hS (fun z_4 σ_s_3 H locs rz_4 hw_2 hH hS => ?_)
  obtain ⟨hO9, hF9, hM9, hw_2⟩ := hw_2
  replace hM := hM.tu hM9 (by decide)
  replace hF := hF.tu hF9 (by decide)
  have e_5 : aF σ_s_3 (ad E a 61) = f61 := (hM9.a (by decide) (by decide)).trans ef61
  have e_6 : aF σ_s_3 (ad E a 62) = f62 := (hM9.a (by decide) (by decide)).trans ef62
  have e_7 : aF σ_s_3 (ad E a 39) = f39 := (hM9.a (by decide) (by decide)).trans ef39
  have e_8 : aF σ_s_3 (ad E a 40) = f40 := (hM9.a (by decide) (by decide)).trans ef40
  have e_9 : aF σ_s_3 (ad E a 42) = f42 := (hM9.a (by decide) (by decide)).trans ef42
  have e_10 : aF σ_s_3 (ad E a 43) = f43 := (hM9.a (by decide) (by decide)).trans ef43
  have e_11 : aF σ_s_3 (ad E a 44) = f44 := (hM9.a (by decide) (by decide)).trans ef44
  have e_12 : aF σ_s_3 (ad E a 45) = f45 := (hM9.a (by decide) (by decide)).trans ef45
  have e_13 : aF σ_s_3 (ad E a 46) = f46 := (hM9.a (by decide) (by decide)).trans ef46
  have e_14 : aF σ_s_3 (ad E a 6) = f6 := (hM9.a (by decide) (by decide)).trans ef6
  have e_15 : aF σ_s_3 (ad E a 8) = f8 := (hM9.a (by decide) (by decide)).trans ef8
  have e_16 : gI σ_s_3 a 58 = a580 := (hM9.i (by decide)).trans ea580
  have e_17 : gI σ_s_3 a 59 = a590 := (hM9.i (by decide)).trans ea590
  replace hO := hO9
  generalize ef_19 : aF σ_s_3 (ad E a 1) = g_18 at hw_2
  generalize ef_21 : aF σ_s_3 (ad E a 37) = g_20 at hw_2
  generalize ef_23 : aF σ_s_3 (ad E a 39) = g_22 at hw_2
  generalize ef_25 : aF σ_s_3 (ad E a 40) = g_24 at hw_2
  generalize ef_27 : aF σ_s_3 (ad E a 42) = g_26 at hw_2
  generalize ef_29 : aF σ_s_3 (ad E a 43) = g_28 at hw_2
  generalize ef_31 : aF σ_s_3 (ad E a 44) = g_30 at hw_2
  generalize ef_33 : aF σ_s_3 (ad E a 45) = g_32 at hw_2
  generalize ef_35 : aF σ_s_3 (ad E a 46) = g_34 at hw_2
  generalize ef_37 : aF σ_s_3 (ad E a 61) = g_36 at hw_2
  generalize ef_39 : aF σ_s_3 (ad E a 62) = g_38 at hw_2
  replace hw_2 : (jw g_18 g_20 g_36 g_38 g_22 g_24 g_26 g_28 g_30 g_32 g_34 (gI σ_s_3 a 36) (gI σ_s_3 a 58) (gI σ_s_3 a 59) ∧ (((0 ≤ nn ∧ nn ≤ gI σ a 12) ∧ gI σ_s_3 a 12 = 0) ∨ (¬ (0 ≤ nn ∧ nn ≤ gI σ a 12) ∧ gI σ_s_3 a 12 = gI σ a 12))) ∧ ((0 ≤ nn ∧ nn ≤ gI σ a 12) → (((0 ≤ slot ∧ slot ≤ 3 ∧ 1 ≤ (f8 slot.toNat).toInt) ∧ ((2 : Int) = 2 → isW ky)) → ∃ rr, TopR T rr (gI σ_s_3 a 21)) ∧ (¬ ((0 ≤ slot ∧ slot ≤ 3 ∧ 1 ≤ (f8 slot.toNat).toInt) ∧ ((2 : Int) = 2 → isW ky)) → gI σ_s_3 a 21 = gI σ a 21)) ∧ (¬ (0 ≤ nn ∧ nn ≤ gI σ a 12) → gI σ_s_3 a 21 = gI σ a 21) := hw_2
  exact th_iret hx hb hr hlocks hH hS (z := z_4) rz_4 ⟨hO, hF, hM, ⟨(by have h9 := hw_2.1; rw [show aF σ_s_3 (ad E a 1) = g_18 from ef_19, show aF σ_s_3 (ad E a 37) = g_20 from ef_21, show aF σ_s_3 (ad E a 61) = g_36 from ef_37, show aF σ_s_3 (ad E a 62) = g_38 from ef_39, show aF σ_s_3 (ad E a 39) = g_22 from ef_23, show aF σ_s_3 (ad E a 40) = g_24 from ef_25, show aF σ_s_3 (ad E a 42) = g_26 from ef_27, show aF σ_s_3 (ad E a 43) = g_28 from ef_29, show aF σ_s_3 (ad E a 44) = g_30 from ef_31, show aF σ_s_3 (ad E a 45) = g_32 from ef_33, show aF σ_s_3 (ad E a 46) = g_34 from ef_35]; exact ⟨h9.1, h9.2⟩), (fun h9 => ⟨fun h8 => (hw_2.2.1 h9).1 ⟨h8.1, fun _ => h8.2⟩, fun h8 => (hw_2.2.1 h9).2 (fun h7 => h8 ⟨h7.1, h7.2 rfl⟩)⟩), (fun h9 => hw_2.2.2 h9)⟩⟩ dX11_key_8
