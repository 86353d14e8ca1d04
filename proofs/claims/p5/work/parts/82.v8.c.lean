set_option maxHeartbeats 4000000 in
set_option maxRecDepth 100000 in
theorem n8_isWord (l : Launch) (G : va_G) (y : Nat → ClassId) (b0 : Nat) (σ : th_M) (E : th_E) (hO : ok y E σ) (i : Int) (ri : rng i) : Met l yX10_isWord wsX10_isWord ({ frames := 0, cells := 0, slots := 0, locals := 0 }) (th_P G y b0 σ [.int (I i)]) (th_Qi G b0 (fun r σ1 => σ1 = σ ∧ (0 ≤ r ∧ r ≤ 1) ∧ ((r = 1 ∧ isW i) ∨ (r = 0 ∧ ¬ isW i)))) 0 0 (th_A b0) := by
  refine Met.ofW (cc := cX10_isWord) (maxL := 4) (ret := (some .boolean)) (by decide) rfl ?_
  intro p e s m args below meth c s₁ B hml hv
  obtain ⟨rfl, hH, hK⟩ := hv
  have hx := B.exec
  have hb := B.bytes
  have hr := B.returns
  have hts := atoms_spec (ws := wsX10_isWord) B.pre
  have hown : s.vm.findClass RX10 = some m.cls := findClass_of_methodNamed B.named
  have hlocks := B.notSynchronized
  have h00 : b0 ≤ s.heap.size := hH.1
  have hS : va_S (th_A b0) s.heap s.heap [] := va_S.rf
  have fl0 := hts (.constant RX10 418 1073741824) (by decide +kernel)
  have hl := lv_entry ([.int (I i)]) (n := 4) (Nat.le_of_ble_eq_true rfl)
  rw [lg_entry_eq]
  generalize (lg_sl ([.int (I i)]) ++ List.replicate (4 - (lg_sl ([.int (I i)])).length) Slot.unset).toArray = ls at hl ⊢
  have hl : lv_has ls 4 [(0, .int (I i))] := hl
  refine lv_iload_n hx hb dX10_isWord_0 rfl (lv_at hl 0 rfl) ?_
  refine lv_iconst (v := I 1) hx hb dX10_isWord_1 (by decide) ?_
  refine lv_icmp_lt (tgt := 12) hx hb dX10_isWord_2 (by decide) (fun c_1 => ?_) (fun c_1 => ?_)
  · replace c_1 := (I_lt (a := i) (b := 1) ri (show rng 1 from ⟨by decide, by decide⟩)).mp c_1
    refine lv_iconst (v := I 0) hx hb dX10_isWord_12 (by decide) ?_
    exact th_zret hx hb hr hlocks hH hS (z := 0) (by omega) ⟨rfl, ⟨by omega, by omega⟩, Or.inr ⟨rfl, fun h9 => by have h8 := h9.1; have h7 := h9.2.1; omega⟩⟩ dX10_isWord_13
  · replace c_1 := mt (I_lt (a := i) (b := 1) ri (show rng 1 from ⟨by decide, by decide⟩)).mpr c_1
    refine lv_iload_n hx hb dX10_isWord_5 rfl (lv_at hl 0 rfl) ?_
    refine lv_ldcw (v := I 1073741824) hx hb hown fl0 dX10_isWord_6 ?_
    refine lv_icmp_lt (tgt := 14) hx hb dX10_isWord_9 (by decide) (fun c_2 => ?_) (fun c_2 => ?_)
    · replace c_2 := (I_lt (a := i) (b := 1073741824) ri (show rng 1073741824 from ⟨by decide, by decide⟩)).mp c_2
      refine lv_iload_n hx hb dX10_isWord_14 rfl (lv_at hl 0 rfl) ?_
      refine lv_istore_n (lv' := [(1, .int (I i)), (0, .int (I i))]) hx hb dX10_isWord_15 rfl hl (by decide) rfl (fun ls hl => ?_)
      refine lv_iconst (v := I 0) hx hb dX10_isWord_16 (by decide) ?_
      refine lv_istore_n (lv' := [(2, .int (I 0)), (1, .int (I i)), (0, .int (I i))]) hx hb dX10_isWord_17 rfl hl (by decide) rfl (fun ls hl => ?_)
      replace hl : lv_has ls 4 [(2, .int (I 0)), (1, .int (I i))] := lv_sub hl [0, 1] rfl
      refine th_loop (α := Int × Int) (pc := 18) (fun x9 => (6 - x9.2).toNat) (fun x9 σ9 H9 l9 ls9 => σ9 = σ ∧ th_H G b0 σ9 H9 ∧ va_S (th_A b0) s.heap H9 l9 ∧ lv_has ls9 4 [(1, .int (I x9.1)), (2, .int (I x9.2))] ∧ rng x9.1 ∧ rng x9.2 ∧ (0 ≤ x9.2) ∧ (x9.2 ≤ 6) ∧ (-2147483648 ≤ x9.1) ∧ (wk i x9.1 x9.2)) ?_ (i, 0) σ _ _ _ ⟨rfl, hH, hS, lv_sub hl [1, 0] rfl, ri, (show rng 0 from ⟨by decide, by decide⟩), by first | omega | (dsimp only; omega), by first | omega | (dsimp only; omega), by first | omega | (dsimp only; omega), wk.start⟩
      intro x9 σ_J_11 H locs ls hI9 ihJ_11
      obtain ⟨v1q10, v2q10⟩ := x9
      obtain ⟨eJ_11, hH, hS, hl, rv1q10, rv2q10, J_11_0, J_11_1, J_11_2, J_11_3⟩ := hI9
      replace eJ_11 := eJ_11.symm
      subst eJ_11
      have hl : lv_has ls 4 [(1, .int (I v1q10)), (2, .int (I v2q10))] := hl
      have rv1q10 : rng v1q10 := rv1q10
      have rv2q10 : rng v2q10 := rv2q10
      replace J_11_0 : 0 ≤ v2q10 := J_11_0
      replace J_11_1 : v2q10 ≤ 6 := J_11_1
      replace J_11_2 : -2147483648 ≤ v1q10 := J_11_2
      replace J_11_3 : wk i v1q10 v2q10 := J_11_3
      refine lv_iload_n hx hb dX10_isWord_18 rfl (lv_at hl 1 rfl) ?_
      refine lv_bipush (v := I 6) hx hb dX10_isWord_19 (by decide) ?_
      refine lv_icmp_ge (tgt := 56) hx hb dX10_isWord_21 (by decide) (fun c_12 => ?_) (fun c_12 => ?_)
      · replace c_12 := (I_le (a := 6) (b := v2q10) (show rng 6 from ⟨by decide, by decide⟩) rv2q10).mp c_12
        refine lv_iconst (v := I 1) hx hb dX10_isWord_56 (by decide) ?_
        exact th_zret hx hb hr hlocks hH hS (z := 1) (by omega) ⟨rfl, ⟨by omega, by omega⟩, Or.inl ⟨rfl, wk.yes J_11_3 (by have h9 := (J_11_3).1; have h8 := (J_11_3).2.1; omega) (by omega) (by omega)⟩⟩ dX10_isWord_57
      · replace c_12 := mt (I_le (a := 6) (b := v2q10) (show rng 6 from ⟨by decide, by decide⟩) rv2q10).mpr c_12
        refine lv_iload_n hx hb dX10_isWord_24 rfl (lv_at hl 0 rfl) ?_
        refine lv_if_le (tgt := 56) hx hb dX10_isWord_25 (by decide) (fun c_13 => ?_) (fun c_13 => ?_)
        · replace c_13 := (I_le (a := v1q10) (b := 0) rv1q10 (show rng 0 from ⟨by decide, by decide⟩)).mp c_13
          refine lv_iconst (v := I 1) hx hb dX10_isWord_56 (by decide) ?_
          exact th_zret hx hb hr hlocks hH hS (z := 1) (by omega) ⟨rfl, ⟨by omega, by omega⟩, Or.inl ⟨rfl, wk.yes J_11_3 (by have h9 := (J_11_3).1; have h8 := (J_11_3).2.1; omega) (by omega) (by omega)⟩⟩ dX10_isWord_57
        · replace c_13 := mt (I_le (a := v1q10) (b := 0) rv1q10 (show rng 0 from ⟨by decide, by decide⟩)).mpr c_13
          refine lv_iload_n hx hb dX10_isWord_28 rfl (lv_at hl 0 rfl) ?_
          refine lv_bipush (v := I 31) hx hb dX10_isWord_29 (by decide) ?_
          refine lv_iand hx hb dX10_isWord_31 ?_
          refine th_a31 (by omega) (fun z_14 rz_14 hz_14 => ?_)
          refine lv_istore_n (lv' := [(3, .int (I z_14)), (1, .int (I v1q10)), (2, .int (I v2q10))]) hx hb dX10_isWord_32 rfl hl (by decide) rfl (fun ls hl => ?_)
          refine lv_iload_n hx hb dX10_isWord_33 rfl (lv_at hl 0 rfl) ?_
          refine lv_iconst (v := I 1) hx hb dX10_isWord_34 (by decide) ?_
          refine lv_icmp_lt (tgt := 44) hx hb dX10_isWord_35 (by decide) (fun c_15 => ?_) (fun c_15 => ?_)
          · replace c_15 := (I_lt (a := z_14) (b := 1) rz_14 (show rng 1 from ⟨by decide, by decide⟩)).mp c_15
            refine lv_iconst (v := I 0) hx hb dX10_isWord_44 (by decide) ?_
            exact th_zret hx hb hr hlocks hH hS (z := 0) (by omega) ⟨rfl, ⟨by omega, by omega⟩, Or.inr ⟨rfl, wk.no (z := z_14) J_11_3 (by omega) (by omega) (by omega) (by omega)⟩⟩ dX10_isWord_45
          · replace c_15 := mt (I_lt (a := z_14) (b := 1) rz_14 (show rng 1 from ⟨by decide, by decide⟩)).mpr c_15
            refine lv_iload_n hx hb dX10_isWord_38 rfl (lv_at hl 0 rfl) ?_
            refine lv_bipush (v := I 26) hx hb dX10_isWord_39 (by decide) ?_
            refine lv_icmp_le (tgt := 46) hx hb dX10_isWord_41 (by decide) (fun c_16 => ?_) (fun c_16 => ?_)
            · replace c_16 := (I_le (a := z_14) (b := 26) rz_14 (show rng 26 from ⟨by decide, by decide⟩)).mp c_16
              refine lv_iload_n hx hb dX10_isWord_46 rfl (lv_at hl 1 rfl) ?_
              refine lv_iconst (v := I 5) hx hb dX10_isWord_47 (by decide) ?_
              refine lv_iushr hx hb dX10_isWord_48 rfl ?_
              refine th_us5 (by omega) rv1q10 (fun z_17 rz_17 hz_17 => ?_)
              refine lv_istore_n (lv' := [(1, .int (I z_17)), (3, .int (I z_14)), (2, .int (I v2q10))]) hx hb dX10_isWord_49 rfl hl (by decide) rfl (fun ls hl => ?_)
              refine lv_iinc (v := I (v2q10 + 1)) (lv' := [(2, .int (I (v2q10 + 1))), (1, .int (I z_17)), (3, .int (I z_14))]) hx hb dX10_isWord_50 hl (k := 2) rfl (I_add _ _) (by decide) rfl (fun ls hl => ?_)
              refine lv_goto (tgt := 18) hx hb dX10_isWord_53 (by decide) ?_
              replace hl : lv_has ls 4 [(2, .int (I (v2q10 + 1))), (1, .int (I z_17))] := lv_sub hl [0, 1] rfl
              exact ihJ_11 (z_17, v2q10 + 1) σ _ _ _ (by first | omega | (dsimp only; omega)) ⟨rfl, hH, hS, lv_sub hl [1, 0] rfl, rz_17, ⟨by first | omega | (dsimp only; omega), by first | omega | (dsimp only; omega)⟩, by first | omega | (dsimp only; omega), by first | omega | (dsimp only; omega), by first | omega | (dsimp only; omega), (wk.step (z := z_14) J_11_3 (by omega) (by omega) (by omega) (by omega) (by omega) (by first | omega | (dsimp only; omega)) (by first | omega | (dsimp only; omega)))⟩
            · replace c_16 := mt (I_le (a := z_14) (b := 26) rz_14 (show rng 26 from ⟨by decide, by decide⟩)).mpr c_16
              refine lv_iconst (v := I 0) hx hb dX10_isWord_44 (by decide) ?_
              exact th_zret hx hb hr hlocks hH hS (z := 0) (by omega) ⟨rfl, ⟨by omega, by omega⟩, Or.inr ⟨rfl, wk.no (z := z_14) J_11_3 (by omega) (by omega) (by omega) (by omega)⟩⟩ dX10_isWord_45
    · replace c_2 := mt (I_lt (a := i) (b := 1073741824) ri (show rng 1073741824 from ⟨by decide, by decide⟩)).mpr c_2
      refine lv_iconst (v := I 0) hx hb dX10_isWord_12 (by decide) ?_
      exact th_zret hx hb hr hlocks hH hS (z := 0) (by omega) ⟨rfl, ⟨by omega, by omega⟩, Or.inr ⟨rfl, fun h9 => by have h8 := h9.1; have h7 := h9.2.1; omega⟩⟩ dX10_isWord_13

set_option maxHeartbeats 4000000 in
set_option maxRecDepth 100000 in
theorem q8_textWasRead (l : Launch) (G : va_G) (y : Nat → ClassId) (b0 : Nat) (σ : th_M) (E : th_E) (hO : ok y E σ) (a : Nat) (h_a : kd E a = 12) (i : Int) (ri : rng i) : Met l yX10_textWasRead wsX10_textWasRead ({ frames := 1, cells := 0, slots := 0, locals := 25 }) (th_P G y b0 σ [.ref a, .int (I i)]) (th_Qv G b0 (fun σ1 => ok y E σ1 ∧ fr [12, 5] E σ σ1 ∧ (gI σ1 a 1 = 0 ∧ gI σ1 a 2 = gI σ (ad E a 5) 8 ∧ aQ σ1 (ad E a 3) = aQ σ (ad E a 3)))) 0 0 (th_A b0) := by
  refine Met.ofW (cc := cX10_textWasRead) (maxL := 2) (ret := none) (by decide) rfl ?_
  intro p e s m args below meth c s₁ B hml hv
  obtain ⟨rfl, hH, hK⟩ := hv
  have hx := B.exec
  have hb := B.bytes
  have hr := B.returns
  have hts := atoms_spec (ws := wsX10_textWasRead) B.pre
  have hown : s.vm.findClass RX10 = some m.cls := findClass_of_methodNamed B.named
  have hlocks := B.notSynchronized
  have h00 : b0 ≤ s.heap.size := hH.1
  have hS : va_S (th_A b0) s.heap s.heap [] := va_S.rf
  have hF : fr [12, 5] E σ σ := fr.rf
  have inX10 : ∀ w ∈ wsX100, w ∈ wsX10_textWasRead := by decide +kernel
  have inX8 : ∀ w ∈ wsX80, w ∈ wsX10_textWasRead := by decide +kernel
  have fl0 := hts (.fieldLink RX10 114 "NestQuery" "tapeCount" "I") (by decide +kernel)
  have fl1 := hts (.fieldLink RX10 31 "NestQuery" "tokens" "LNestQuery$Tokens;") (by decide +kernel)
  have fl2 := hts (.fieldLink RX10 13 "NestQuery" "faultPlace" "I") (by decide +kernel)
  have fl3 := hts (.fieldLink RX10 63 "NestQuery" "now" "LNestQuery$State;") (by decide +kernel)
  have hl := lv_entry ([.ref a, .int (I i)]) (n := 2) (Nat.le_of_ble_eq_true rfl)
  rw [lg_entry_eq]
  generalize (lg_sl ([.ref a, .int (I i)]) ++ List.replicate (2 - (lg_sl ([.ref a, .int (I i)])).length) Slot.unset).toArray = ls at hl ⊢
  have hl : lv_has ls 2 [(0, .ref a), (1, .int (I i))] := hl
  obtain ⟨a10, ea10, ra10, la10, ua10⟩ := hO.gi h_a (by decide) k12_1
  obtain ⟨a20, ea20, ra20, la20, ua20⟩ := hO.gi h_a (by decide) k12_2
  obtain ⟨f_1, eq_2⟩ : ∃ f9, aQ σ (ad E a 3) = f9 := ⟨_, rfl⟩
  have h0q := eq_2
  obtain ⟨z_3, e_4, rz_3, lz_3, uz_3⟩ := hO.gi (ok.pk hO h_a (by decide) k12_5 rfl) (by decide) k3_8
  refine lv_aload_n hx hb dX10_textWasRead_0 rfl (lv_at hl 0 rfl) ?_
  refine lv_iconst (v := I 0) hx hb dX10_textWasRead_1 (by decide) ?_
  refine ok.putIw hO h_a (by decide) k12_1 (show rng 0 from ⟨by decide, by decide⟩) (by omega) (by omega) (fun _ he hl9 kk => th_put (ci := 10) (v := .int (I 0)) (ty := .int) (C := RX10) (T := TX10) (N := 18) hx hb hts inX10 tyX10 tyX10_ok nmX10 hown hK hH hS h00 he rfl 1 (by decide) fl0 rfl (by decide +kernel) rfl rfl hl9 dX10_textWasRead_2 kk) (fun σ_s_5 H locs hO hF9 hg9 hi9 ha9 hu9 hH hS => ?_)
  replace hF := hF.tu hF9 (by decide)
  have e_6 : gI σ_s_5 a 2 = a20 := (hi9 _ _ (Or.inr (by decide))).trans ea20
  have e_7 : gI σ_s_5 (ad E a 5) 8 = z_3 := (hi9 _ _ (Or.inr (by decide))).trans e_4
  have eq_8 : aQ σ_s_5 (ad E a 3) = f_1 := (hu9.q (ok.qo hO h_a (by decide) k12_3 (by decide))).trans eq_2
  have e_9 := hg9
  refine lv_aload_n hx hb dX10_textWasRead_5 rfl (lv_at hl 0 rfl) ?_
  refine lv_aload_n hx hb dX10_textWasRead_6 rfl (lv_at hl 0 rfl) ?_
  have hp_10 : kd E (ad E a 5) = 3 := ok.pk hO h_a (by decide) k12_5 rfl
  refine ok.getR hO h_a (by decide) k12_5 (by decide) (fun _ _ he hv kk => th_get (ci := 10) (C := RX10) (T := TX10) (N := 18) hx hb hts inX10 hown hK hH he rfl 5 (by decide) fl1 hv dX10_textWasRead_7 kk) ?_
  refine ok.getIc hO hp_10 (by decide) k3_8 e_7 (fun _ _ he hv kk => th_getN (ci := 8) (C := RX8) (T := TX8) (N := 9) hx hb hts inX8 hown hK hH he rfl 8 (by decide) (nl_8 hK) hv dX10_textWasRead_10 kk) ?_
  refine ok.putIw hO h_a (by decide) k12_2 rz_3 (by omega) (by omega) (fun _ he hl9 kk => th_put (ci := 10) (v := .int (I z_3)) (ty := .int) (C := RX10) (T := TX10) (N := 18) hx hb hts inX10 tyX10 tyX10_ok nmX10 hown hK hH hS h00 he rfl 2 (by decide) fl2 rfl (by decide +kernel) rfl rfl hl9 dX10_textWasRead_13 kk) (fun σ_s_11 H locs hO hF9 hg9 hi9 ha9 hu9 hH hS => ?_)
  replace hF := hF.tu hF9 (by decide)
  have e_12 : gI σ_s_11 (ad E a 5) 8 = z_3 := (hi9 _ _ (Or.inr (by decide))).trans e_7
  have e_13 : gI σ_s_11 a 1 = 0 := (hi9 _ _ (Or.inr (by decide))).trans e_9
  have eq_14 : aQ σ_s_11 (ad E a 3) = f_1 := (hu9.q (ok.qo hO h_a (by decide) k12_3 (by decide))).trans eq_8
  have e_15 := hg9
  refine lv_iload_n hx hb dX10_textWasRead_16 rfl (lv_at hl 1 rfl) ?_
  refine lv_if_eq (tgt := 28) hx hb dX10_textWasRead_17 (by decide) (fun c_16 => ?_) (fun c_16 => ?_)
  · replace c_16 := (I_eq (a := i) (b := 0) ri (show rng 0 from ⟨by decide, by decide⟩)).mp c_16
    exact th_vret hx hb hr hlocks hH hS ⟨hO, hF, ⟨by omega, by omega, (eq_14.trans h0q.symm)⟩⟩ dX10_textWasRead_28
  · replace c_16 := mt (I_eq (a := i) (b := 0) ri (show rng 0 from ⟨by decide, by decide⟩)).mpr c_16
    refine lv_aload_n hx hb dX10_textWasRead_20 rfl (lv_at hl 0 rfl) ?_
    have hp_17 : kd E (ad E a 9) = 5 := ok.pk hO h_a (by decide) k12_9 rfl
    refine ok.getR hO h_a (by decide) k12_9 (by decide) (fun _ _ he hv kk => th_get (ci := 10) (C := RX10) (T := TX10) (N := 18) hx hb hts inX10 hown hK hH he rfl 9 (by decide) fl3 hv dX10_textWasRead_21 kk) ?_
    refine lv_iconst (v := I 0) hx hb dX10_textWasRead_24 (by decide) ?_
    obtain ⟨_, hc_18⟩ := hO.cell hp_17 (by decide) (ci := 6) rfl
    refine th_callv (va_runV (As := [.int (I 0)]) (rest := []) ⟨hx, hb, hml, hown, hts⟩ (e_refuse l G y b0 σ_s_11 E hO (ad E a 9) hp_17 0 (show rng 0 from (show rng 0 from ⟨by decide, by decide⟩))) (cwV 1 hts gX10_textWasRead_X6_refuse rfl rfl rfl (by decide +kernel) ⟨Nat.le_of_ble_eq_true rfl, Nat.le_of_ble_eq_true rfl⟩) (th_PV hK hH rfl hc_18) rfl rfl hl.1 rfl (lv_room (Nat.le_of_ble_eq_true rfl)) dX10_textWasRead_25 ⟨Nat.le_of_ble_eq_true rfl, Nat.le_of_ble_eq_true rfl⟩) hS (fun σ_s_20 H locs hw_19 hH hS => ?_)
    obtain ⟨hO9, hF9, hw_19⟩ := hw_19
    have e_21 : gI σ_s_20 (ad E a 5) 8 = z_3 := (fr.ki hO hF9 (ok.pk hO h_a (by decide) k12_5 rfl) (by decide) (by decide) _).trans e_12
    have e_22 : gI σ_s_20 a 1 = 0 := (fr.ki hO hF9 h_a (by decide) (by decide) _).trans e_13
    have e_23 : gI σ_s_20 a 2 = z_3 := (fr.ki hO hF9 h_a (by decide) (by decide) _).trans e_15
    have eq_24 : aQ σ_s_20 (ad E a 3) = f_1 := (fr.aq hO hF9 h_a (by decide) (by decide) k12_3).trans eq_14
    replace hO := hO9
    replace hF := hF.tu hF9 (by decide)
    exact th_vret hx hb hr hlocks hH hS ⟨hO, hF, ⟨by omega, by omega, (eq_24.trans h0q.symm)⟩⟩ dX10_textWasRead_28

set_option maxHeartbeats 4000000 in
set_option maxRecDepth 100000 in
theorem q8_readData (l : Launch) (G : va_G) (y : Nat → ClassId) (b0 : Nat) (σ : th_M) (E : th_E) (hO : ok y E σ) (a : Nat) (h_a : kd E a = 12) (i : Int) (ri : rng i) (hy0 : ∀ k : Int, 0 ≤ k → k < gI σ a 1 → 0 ≤ (aF σ (ad E a 0) k.toNat).toInt ∧ (aF σ (ad E a 0) k.toNat).toInt ≤ 255) (hy1 : 0 ≤ i ∧ i ≤ gI σ a 1) (hy2 : ad E (ad E a 6) 0 = ad E a 5) : Met l yX10_readData wsX10_readData ({ frames := 46, cells := 0, slots := 0, locals := 1734 }) (th_P G y b0 σ [.ref a, .int (I i)]) (th_Qi G b0 (fun r σ1 => ok y E σ1 ∧ fr [12, 5, 3, 1] E σ σ1 ∧ (gI σ1 a 1 = 0 ∧ aQ σ1 (ad E a 3) = aQ σ (ad E a 3) ∧ ∃ T p, tkSt (byf (aF σ (ad E a 0)) i) T ∧ TopR T r p ∧ gI σ1 a 2 = p))) 0 0 (th_A b0) := by
  refine Met.ofW (cc := cX10_readData) (maxL := 3) (ret := (some .int)) (by decide) rfl ?_
  intro p e s m args below meth c s₁ B hml hv
  obtain ⟨rfl, hH, hK⟩ := hv
  have hx := B.exec
  have hb := B.bytes
  have hr := B.returns
  have hts := atoms_spec (ws := wsX10_readData) B.pre
  have hown : s.vm.findClass RX10 = some m.cls := findClass_of_methodNamed B.named
  have hlocks := B.notSynchronized
  have h00 : b0 ≤ s.heap.size := hH.1
  have hS : va_S (th_A b0) s.heap s.heap [] := va_S.rf
  have hF : fr [12, 5, 3, 1] E σ σ := fr.rf
  have inX10 : ∀ w ∈ wsX100, w ∈ wsX10_readData := by decide +kernel
  have fl0 := hts (.fieldLink RX10 40 "NestQuery" "dataReader" "LNestQuery$DataReader;") (by decide +kernel)
  have fl1 := hts (.fieldLink RX10 9 "NestQuery" "tape" "[I") (by decide +kernel)
  have fl2 := hts (.fieldLink RX10 56 "NestQuery" "data" "LNestQuery$Tree;") (by decide +kernel)
  have hl := lv_entry ([.ref a, .int (I i)]) (n := 3) (Nat.le_of_ble_eq_true rfl)
  rw [lg_entry_eq]
  generalize (lg_sl ([.ref a, .int (I i)]) ++ List.replicate (3 - (lg_sl ([.ref a, .int (I i)])).length) Slot.unset).toArray = ls at hl ⊢
  have hl : lv_has ls 3 [(0, .ref a), (1, .int (I i))] := hl
  obtain ⟨a10, ea10, ra10, la10, ua10⟩ := hO.gi h_a (by decide) k12_1
  obtain ⟨a20, ea20, ra20, la20, ua20⟩ := hO.gi h_a (by decide) k12_2
  obtain ⟨f_1, eq_2⟩ : ∃ f9, aQ σ (ad E a 3) = f9 := ⟨_, rfl⟩
  have h0q := eq_2
  refine lv_aload_n hx hb dX10_readData_0 rfl (lv_at hl 0 rfl) ?_
  have hp_3 : kd E (ad E a 6) = 10 := ok.pk hO h_a (by decide) k12_6 rfl
  refine ok.getR hO h_a (by decide) k12_6 (by decide) (fun _ _ he hv kk => th_get (ci := 10) (C := RX10) (T := TX10) (N := 18) hx hb hts inX10 hown hK hH he rfl 6 (by decide) fl0 hv dX10_readData_1 kk) ?_
  refine lv_aload_n hx hb dX10_readData_4 rfl (lv_at hl 0 rfl) ?_
  refine ok.getR hO h_a (by decide) k12_0 (by decide) (fun _ _ he hv kk => th_get (ci := 10) (C := RX10) (T := TX10) (N := 18) hx hb hts inX10 hown hK hH he rfl 0 (by decide) fl1 hv dX10_readData_5 kk) ?_
  refine lv_iload_n hx hb dX10_readData_8 rfl (lv_at hl 1 rfl) ?_
  refine lv_aload_n hx hb dX10_readData_9 rfl (lv_at hl 0 rfl) ?_
  have hp_4 : kd E (ad E a 8) = 1 := ok.pk hO h_a (by decide) k12_8 rfl
  refine ok.getR hO h_a (by decide) k12_8 (by decide) (fun _ _ he hv kk => th_get (ci := 10) (C := RX10) (T := TX10) (N := 18) hx hb hts inX10 hown hK hH he rfl 8 (by decide) fl2 hv dX10_readData_10 kk) ?_
  obtain ⟨_, hc_5⟩ := hO.cell hp_3 (by decide) (ci := 1) rfl
  refine th_calli (va_runV (As := [.ref (ad E a 0), .int (I i), .ref (ad E a 8)]) (rest := []) ⟨hx, hb, hml, hown, hts⟩ (r6_read l G y b0 σ E hO (ad E a 6) hp_3 a h_a i (show rng i from ri) (ad E a 8) hp_4 (byf (aF σ (ad E a 0)) i) (by omega) ((fun k h0 h1 => (byf_in h0 h1).symm)) ((fun k h1 => byf_out h1)) ((byf_byt hy0 (by omega))) ((fun k h0 h1 => by rw [byf_in h0 h1]; exact (hy0 k h0 (by omega)).1))) (cwV 3 hts gX10_readData_X1_read rfl rfl rfl (by decide +kernel) ⟨Nat.le_of_ble_eq_true rfl, Nat.le_of_ble_eq_true rfl⟩) (th_PV hK hH rfl hc_5) rfl rfl hl.1 rfl (lv_room (Nat.le_of_ble_eq_true rfl)) dX10_readData_13 ⟨Nat.le_of_ble_eq_true rfl, Nat.le_of_ble_eq_true rfl⟩) hS (fun z_8 σ_s_7 H locs rz_8 hw_6 hH hS => ?_)
  obtain ⟨hO9, hF9, hw_6⟩ := hw_6
  have e_9 : gI σ_s_7 a 1 = a10 := (fr.ki hO hF9 h_a (by decide) (by decide) _).trans ea10
  have e_10 : gI σ_s_7 a 2 = a20 := (fr.ki hO hF9 h_a (by decide) (by decide) _).trans ea20
  have eq_11 : aQ σ_s_7 (ad E a 3) = f_1 := (fr.aq hO hF9 h_a (by decide) (by decide) k12_3).trans eq_2
  replace hO := hO9
  replace hF := hF.tu hF9 (by decide)
  replace hw_6 : ∃ T, tkSt (byf (aF σ (ad E a 0)) i) T ∧ TopR T z_8 (gI σ_s_7 (ad E (ad E a 6) 0) 8) := hw_6
  refine lv_istore_n (lv' := [(2, .int (I z_8)), (0, .ref a), (1, .int (I i))]) hx hb dX10_readData_16 rfl hl (by decide) rfl (fun ls hl => ?_)
  refine lv_aload_n hx hb dX10_readData_17 rfl (lv_at hl 1 rfl) ?_
  refine lv_iload_n hx hb dX10_readData_18 rfl (lv_at hl 0 rfl) ?_
  obtain ⟨_, hc_12⟩ := hO.cell h_a (by decide) (ci := 10) rfl
  refine th_callv (va_runV (As := [.int (I z_8)]) (rest := []) ⟨hx, hb, hml, hown, hts⟩ (q8_textWasRead l G y b0 σ_s_7 E hO a h_a z_8 (show rng z_8 from rz_8)) (cwV 1 hts gX10_readData_X10_textWasRead rfl rfl rfl (by decide +kernel) ⟨Nat.le_of_ble_eq_true rfl, Nat.le_of_ble_eq_true rfl⟩) (th_PV hK hH rfl hc_12) rfl rfl hl.1 rfl (lv_room (Nat.le_of_ble_eq_true rfl)) dX10_readData_19 ⟨Nat.le_of_ble_eq_true rfl, Nat.le_of_ble_eq_true rfl⟩) hS (fun σ_s_14 H locs hw_13 hH hS => ?_)
  obtain ⟨hO9, hF9, hw_13⟩ := hw_13
  replace hO := hO9
  replace hF := hF.tu hF9 (by decide)
  replace hw_13 : gI σ_s_14 a 1 = 0 ∧ gI σ_s_14 a 2 = gI σ_s_7 (ad E a 5) 8 ∧ aQ σ_s_14 (ad E a 3) = aQ σ_s_7 (ad E a 3) := hw_13
  have eq_15 : aQ σ_s_14 (ad E a 3) = f_1 := (hw_13.2.2).trans eq_11
  obtain ⟨z_16, e_17, rz_16, lz_16, uz_16⟩ := hO.gi h_a (by decide) k12_2
  refine lv_iload_n hx hb dX10_readData_22 rfl (lv_at hl 0 rfl) ?_
  exact th_iret hx hb hr hlocks hH hS (z := z_8) rz_8 ⟨hO, hF, ⟨by omega, (eq_15.trans h0q.symm), by obtain ⟨T, h8, h9⟩ := hw_6; rw [hy2] at h9; exact ⟨T, _, h8, h9, hw_13.2.1⟩⟩⟩ dX10_readData_23

set_option maxHeartbeats 4000000 in
set_option maxRecDepth 100000 in
theorem q8_pathAt (l : Launch) (G : va_G) (y : Nat → ClassId) (b0 : Nat) (σ : th_M) (E : th_E) (hO : ok y E σ) (a : Nat) (h_a : kd E a = 12) (i : Int) (ri : rng i) : Met l yX10_pathAt wsX10_pathAt ({ frames := 0, cells := 0, slots := 0, locals := 0 }) (th_P G y b0 σ [.ref a, .int (I i)]) (th_Qq G b0 (fun r σ1 => σ1 = σ ∧ (∀ b, r = some b → kd E b = 4) ∧ (r = pAt σ E a i))) 0 0 (th_A b0) := by
  refine Met.ofW (cc := cX10_pathAt) (maxL := 2) (ret := (some (.object "NestQuery$Path"))) (by decide) rfl ?_
  intro p e s m args below meth c s₁ B hml hv
  obtain ⟨rfl, hH, hK⟩ := hv
  have hx := B.exec
  have hb := B.bytes
  have hr := B.returns
  have hts := atoms_spec (ws := wsX10_pathAt) B.pre
  have hown : s.vm.findClass RX10 = some m.cls := findClass_of_methodNamed B.named
  have hlocks := B.notSynchronized
  have h00 : b0 ≤ s.heap.size := hH.1
  have hS : va_S (th_A b0) s.heap s.heap [] := va_S.rf
  have inX10 : ∀ w ∈ wsX100, w ∈ wsX10_pathAt := by decide +kernel
  have fl0 := hts (.fieldLink RX10 19 "NestQuery" "paths" "[LNestQuery$Path;") (by decide +kernel)
  have hl := lv_entry ([.ref a, .int (I i)]) (n := 2) (Nat.le_of_ble_eq_true rfl)
  rw [lg_entry_eq]
  generalize (lg_sl ([.ref a, .int (I i)]) ++ List.replicate (2 - (lg_sl ([.ref a, .int (I i)])).length) Slot.unset).toArray = ls at hl ⊢
  have hl : lv_has ls 2 [(0, .ref a), (1, .int (I i))] := hl
  obtain ⟨f_1, eq_2⟩ : ∃ f9, aQ σ (ad E a 3) = f9 := ⟨_, rfl⟩
  have h0q := eq_2
  refine lv_iload_n hx hb dX10_pathAt_0 rfl (lv_at hl 1 rfl) ?_
  refine lv_if_lt (tgt := 9) hx hb dX10_pathAt_1 (by decide) (fun c_3 => ?_) (fun c_3 => ?_)
  · replace c_3 := (I_lt (a := i) (b := 0) ri (show rng 0 from ⟨by decide, by decide⟩)).mp c_3
    refine lv_null hx hb dX10_pathAt_9 ?_
    refine lv_goto (tgt := 19) hx hb dX10_pathAt_10 (by decide) ?_
    exact th_aret hx hb hr hlocks hH hS none ⟨rfl, (fun _ h9 => by cases h9), (pAt.out (by omega))⟩ dX10_pathAt_19
  · replace c_3 := mt (I_lt (a := i) (b := 0) ri (show rng 0 from ⟨by decide, by decide⟩)).mpr c_3
    refine lv_iload_n hx hb dX10_pathAt_4 rfl (lv_at hl 1 rfl) ?_
    refine lv_iconst (v := I 4) hx hb dX10_pathAt_5 (by decide) ?_
    refine lv_icmp_lt (tgt := 13) hx hb dX10_pathAt_6 (by decide) (fun c_4 => ?_) (fun c_4 => ?_)
    · replace c_4 := (I_lt (a := i) (b := 4) ri (show rng 4 from ⟨by decide, by decide⟩)).mp c_4
      refine lv_aload_n hx hb dX10_pathAt_13 rfl (lv_at hl 0 rfl) ?_
      refine ok.getR hO h_a (by decide) k12_3 (by decide) (fun _ _ he hv kk => th_get (ci := 10) (C := RX10) (T := TX10) (N := 18) hx hb hts inX10 hown hK hH he rfl 3 (by decide) fl0 hv dX10_pathAt_14 kk) ?_
      refine lv_iload_n hx hb dX10_pathAt_17 rfl (lv_at hl 1 rfl) ?_
      refine ok_aaldw hx hb hK hH hO h_a (by decide) k12_3 (Or.inl rfl) rfl ri (by omega) (by omega) dX10_pathAt_18 (fun x_5 hx_6 hq_7 => ?_)
      rw [eq_2] at hq_7
      cases x_5 with
      | none =>
        exact th_aret hx hb hr hlocks hH hS none ⟨rfl, (fun _ h9 => by cases h9), (pAt.in_ ⟨by omega, by omega⟩ h0q hq_7)⟩ dX10_pathAt_19
      | some b_8 =>
        have hb_9 : kd E b_8 = 4 := hx_6 b_8 rfl
        exact th_aret hx hb hr hlocks hH hS (some b_8) ⟨rfl, (fun _ h9 => by cases h9; exact hb_9), (pAt.in_ ⟨by omega, by omega⟩ h0q hq_7)⟩ dX10_pathAt_19
    · replace c_4 := mt (I_lt (a := i) (b := 4) ri (show rng 4 from ⟨by decide, by decide⟩)).mpr c_4
      refine lv_null hx hb dX10_pathAt_9 ?_
      refine lv_goto (tgt := 19) hx hb dX10_pathAt_10 (by decide) ?_
      exact th_aret hx hb hr hlocks hH hS none ⟨rfl, (fun _ h9 => by cases h9), (pAt.out (by omega))⟩ dX10_pathAt_19

set_option maxHeartbeats 4000000 in
set_option maxRecDepth 100000 in
theorem x8_tree (l : Launch) (hl0 : l.stackTraces = false) (G : va_G) (y : Nat → ClassId) (b0 : Nat) (σ : th_M) (E : th_E) (hO : ok y E σ) (a : Nat) (h_a : kd E a = 12) (n : Int) (rn : rng n) (hy0 : ∀ k : Int, 0 ≤ k → k < gI σ a 1 → 0 ≤ (aF σ (ad E a 0) k.toNat).toInt ∧ (aF σ (ad E a 0) k.toNat).toInt ≤ 255) (hy1 : ad E (ad E a 6) 0 = ad E a 5) : vx_Met l yX10_tree wsX10_tree ({ frames := 47, cells := 1, slots := 6, locals := 1760 }) (th_PX G y b0 σ [.ref a, .int (I n)]) (th_Qi G b0 (fun r σ1 => ok y E σ1 ∧ fr [12, 5, 3, 1] E σ σ1 ∧ (((0 ≤ n ∧ n ≤ gI σ a 1) ∧ gI σ1 a 1 = 0) ∧ aQ σ1 (ad E a 3) = aQ σ (ad E a 3) ∧ ∃ T p, tkSt (byf (aF σ (ad E a 0)) n) T ∧ TopR T r p ∧ gI σ1 a 2 = p))) (th_XX G b0 (fun X σ1 => ok y E σ1 ∧ fr [12, 5, 3, 1] E σ σ1 ∧ (X = nq_IAE ∧ ¬ (0 ≤ n ∧ n ≤ gI σ a 1) ∧ gI σ1 a 1 = gI σ a 1 ∧ gI σ1 a 2 = gI σ a 2 ∧ aF σ1 (ad E a 0) = aF σ (ad E a 0) ∧ aQ σ1 (ad E a 3) = aQ σ (ad E a 3)))) 1 6 (th_A b0) := by
  refine vx_ofW (cc := cX10_tree) (maxL := 3) (ret := (some .int)) (by decide) rfl ?_
  intro p e s m args below meth c s₁ B hml htab hv
  obtain ⟨rfl, hH, hK, hXs⟩ := hv
  have hx := B.exec
  have hb := B.bytes
  have hr := B.returns
  have hts := atoms_spec (ws := wsX10_tree) B.pre
  have hown : s.vm.findClass RX10 = some m.cls := findClass_of_methodNamed B.named
  have hlocks := B.notSynchronized
  have h00 : b0 ≤ s.heap.size := hH.1
  have hS : va_S (th_A b0) s.heap s.heap [] := va_S.rf
  have hF : fr [12, 5, 3, 1] E σ σ := fr.rf
  have inX10 : ∀ w ∈ wsX100, w ∈ wsX10_tree := by decide +kernel
  have inX6 : ∀ w ∈ wsX60, w ∈ wsX10_tree := by decide +kernel
  have fl0 := hts (.fieldLink RX10 63 "NestQuery" "now" "LNestQuery$State;") (by decide +kernel)
  have fl1 := hts (.fieldLink RX10 56 "NestQuery" "data" "LNestQuery$Tree;") (by decide +kernel)
  have fl2 := hts (.fieldLink RX10 145 "NestQuery" "imageThere" "Z") (by decide +kernel)
  have hl := lv_entry ([.ref a, .int (I n)]) (n := 3) (Nat.le_of_ble_eq_true rfl)
  rw [lg_entry_eq]
  generalize (lg_sl ([.ref a, .int (I n)]) ++ List.replicate (3 - (lg_sl ([.ref a, .int (I n)])).length) Slot.unset).toArray = ls at hl ⊢
  have hl : lv_has ls 3 [(0, .ref a), (1, .int (I n))] := hl
  obtain ⟨a10, ea10, ra10, la10, ua10⟩ := hO.gi h_a (by decide) k12_1
  obtain ⟨a20, ea20, ra20, la20, ua20⟩ := hO.gi h_a (by decide) k12_2
  obtain ⟨f_1, eq_2⟩ : ∃ f9, aQ σ (ad E a 3) = f9 := ⟨_, rfl⟩
  have h0q := eq_2
  refine lv_aload_n hx hb dX10_tree_0 rfl (lv_at hl 0 rfl) ?_
  refine lv_iload_n hx hb dX10_tree_1 rfl (lv_at hl 1 rfl) ?_
  obtain ⟨_, hc_3⟩ := hO.cell h_a (by decide) (ci := 10) rfl
  refine th_calli (va_runV (As := [.int (I n)]) (rest := []) ⟨hx, hb, hml, hown, hts⟩ (q_tapeHas l G y b0 σ E hO a h_a n (show rng n from rn)) (cwV 1 hts gX10_tree_X10_tapeHas rfl rfl rfl (by decide +kernel) ⟨Nat.le_of_ble_eq_true rfl, Nat.le_of_ble_eq_true rfl⟩) (th_PV hK hH rfl hc_3) rfl rfl hl.1 rfl (lv_room (Nat.le_of_ble_eq_true rfl)) dX10_tree_2 ⟨Nat.le_of_ble_eq_true rfl, Nat.le_of_ble_eq_true rfl⟩) hS (fun z_6 σ_s_5 H locs rz_6 hw_4 hH hS => ?_)
  obtain ⟨e9, bhw_4, hw_4⟩ := hw_4
  replace e9 := e9.symm
  subst e9
  replace hw_4 : (z_6 = 1 ∧ 0 ≤ n ∧ n ≤ gI σ a 1) ∨ (z_6 = 0 ∧ ¬ (0 ≤ n ∧ n ≤ gI σ a 1)) := hw_4
  refine lv_if_ne (tgt := 18) hx hb dX10_tree_5 (by decide) (fun c_7 => ?_) (fun c_7 => ?_)
  · replace c_7 := mt (I_eq (a := z_6) (b := 0) rz_6 (show rng 0 from ⟨by decide, by decide⟩)).mpr c_7
    refine lv_aload_n hx hb dX10_tree_18 rfl (lv_at hl 0 rfl) ?_
    refine lv_iload_n hx hb dX10_tree_19 rfl (lv_at hl 1 rfl) ?_
    obtain ⟨_, hc_8⟩ := hO.cell h_a (by decide) (ci := 10) rfl
    refine th_calli (va_runV (As := [.int (I n)]) (rest := []) ⟨hx, hb, hml, hown, hts⟩ (q8_readData l G y b0 σ E hO a h_a n (show rng n from rn) (hy0) (by omega) (hy1)) (cwV 1 hts gX10_tree_X10_readData rfl rfl rfl (by decide +kernel) ⟨Nat.le_of_ble_eq_true rfl, Nat.le_of_ble_eq_true rfl⟩) (th_PV hK hH rfl hc_8) rfl rfl hl.1 rfl (lv_room (Nat.le_of_ble_eq_true rfl)) dX10_tree_20 ⟨Nat.le_of_ble_eq_true rfl, Nat.le_of_ble_eq_true rfl⟩) hS (fun z_11 σ_s_10 H locs rz_11 hw_9 hH hS => ?_)
    obtain ⟨hO9, hF9, hw_9⟩ := hw_9
    replace hO := hO9
    replace hF := hF.tu hF9 (by decide)
    replace hw_9 : gI σ_s_10 a 1 = 0 ∧ aQ σ_s_10 (ad E a 3) = aQ σ (ad E a 3) ∧ ∃ T p, tkSt (byf (aF σ (ad E a 0)) n) T ∧ TopR T z_11 p ∧ gI σ_s_10 a 2 = p := hw_9
    obtain ⟨z_12, e_13, rz_12, lz_12, uz_12⟩ := hO.gi h_a (by decide) k12_1
    obtain ⟨z_14, e_15, rz_14, lz_14, uz_14⟩ := hO.gi h_a (by decide) k12_2
    have eq_16 : aQ σ_s_10 (ad E a 3) = f_1 := (hw_9.2.1).trans eq_2
    refine lv_istore_n (lv' := [(2, .int (I z_11)), (0, .ref a), (1, .int (I n))]) hx hb dX10_tree_23 rfl hl (by decide) rfl (fun ls hl => ?_)
    refine lv_iload_n hx hb dX10_tree_24 rfl (lv_at hl 0 rfl) ?_
    refine lv_if_ne (tgt := 63) hx hb dX10_tree_25 (by decide) (fun c_17 => ?_) (fun c_17 => ?_)
    · replace c_17 := mt (I_eq (a := z_11) (b := 0) rz_11 (show rng 0 from ⟨by decide, by decide⟩)).mpr c_17
      refine lv_iload_n hx hb dX10_tree_63 rfl (lv_at hl 0 rfl) ?_
      refine vx_ret ?_
      refine W.widen (k := 1) (n := 6) (Nat.le_of_ble_eq_true rfl) (Nat.le_of_ble_eq_true rfl) ?_
      exact th_iret hx hb hr hlocks hH hS (z := z_11) rz_11 ⟨hO, hF, ⟨by omega, (eq_16.trans h0q.symm), by obtain ⟨T, p, h7, h8, h9⟩ := hw_9.2.2; exact ⟨T, p, h7, h8, by omega⟩⟩⟩ dX10_tree_64
    · replace c_17 := (I_eq (a := z_11) (b := 0) rz_11 (show rng 0 from ⟨by decide, by decide⟩)).mp c_17
      refine lv_aload_n hx hb dX10_tree_28 rfl (lv_at hl 1 rfl) ?_
      have hp_18 : kd E (ad E a 9) = 5 := ok.pk hO h_a (by decide) k12_9 rfl
      refine ok.getR hO h_a (by decide) k12_9 (by decide) (fun _ _ he hv kk => th_get (ci := 10) (C := RX10) (T := TX10) (N := 18) hx hb hts inX10 hown hK hH he rfl 9 (by decide) fl0 hv dX10_tree_29 kk) ?_
      have hp_19 : kd E (ad E (ad E a 9) 0) = 1 := ok.pk hO hp_18 (by decide) k5_0 rfl
      refine ok.getR hO hp_18 (by decide) k5_0 (by decide) (fun _ _ he hv kk => th_getN (ci := 6) (C := RX6) (T := TX6) (N := 7) hx hb hts inX6 hown hK hH he rfl 0 (by decide) (nl_13 hK) hv dX10_tree_32 kk) ?_
      refine lv_aload_n hx hb dX10_tree_35 rfl (lv_at hl 1 rfl) ?_
      have hp_20 : kd E (ad E a 8) = 1 := ok.pk hO h_a (by decide) k12_8 rfl
      refine ok.getR hO h_a (by decide) k12_8 (by decide) (fun _ _ he hv kk => th_get (ci := 10) (C := RX10) (T := TX10) (N := 18) hx hb hts inX10 hown hK hH he rfl 8 (by decide) fl1 hv dX10_tree_36 kk) ?_
      obtain ⟨_, hc_21⟩ := hO.cell hp_19 (by decide) (ci := 9) rfl
      refine th_callv (va_runV (As := [.ref (ad E a 8)]) (rest := []) ⟨hx, hb, hml, hown, hts⟩ (t11_become l G y b0 σ_s_10 E hO (ad E (ad E a 9) 0) hp_19 (ad E a 8) hp_20) (cwV 1 hts gX10_tree_X9_become rfl rfl rfl (by decide +kernel) ⟨Nat.le_of_ble_eq_true rfl, Nat.le_of_ble_eq_true rfl⟩) (th_PV hK hH rfl hc_21) rfl rfl hl.1 rfl (lv_room (Nat.le_of_ble_eq_true rfl)) dX10_tree_39 ⟨Nat.le_of_ble_eq_true rfl, Nat.le_of_ble_eq_true rfl⟩) hS (fun σ_s_23 H locs hw_22 hH hS => ?_)
      obtain ⟨hO9, hF9, hw_22⟩ := hw_22
      have e_24 : gI σ_s_23 a 1 = z_12 := (fr.ki hO hF9 h_a (by decide) (by decide) _).trans e_13
      have e_25 : gI σ_s_23 a 2 = z_14 := (fr.ki hO hF9 h_a (by decide) (by decide) _).trans e_15
      have eq_26 : aQ σ_s_23 (ad E a 3) = f_1 := (fr.aq hO hF9 h_a (by decide) (by decide) k12_3).trans eq_16
      replace hO := hO9
      replace hF := hF.tu hF9 (by decide)
      refine lv_aload_n hx hb dX10_tree_42 rfl (lv_at hl 1 rfl) ?_
      refine ok.getR hO h_a (by decide) k12_9 (by decide) (fun _ _ he hv kk => th_get (ci := 10) (C := RX10) (T := TX10) (N := 18) hx hb hts inX10 hown hK hH he rfl 9 (by decide) fl0 hv dX10_tree_43 kk) ?_
      refine lv_iconst (v := I 0) hx hb dX10_tree_46 (by decide) ?_
      refine ok.putIw hO hp_18 (by decide) k5_2 (show rng 0 from ⟨by decide, by decide⟩) (by omega) (by omega) (fun _ he hl9 kk => th_putN (ci := 6) (v := .int (I 0)) (ty := .int) (C := RX6) (T := TX6) (N := 7) hx hb hts inX6 tyX6 tyX6_ok nmX6 hown hK hH hS h00 he rfl 2 (by decide) (nl_15 hK) rfl (by decide +kernel) rfl rfl hl9 dX10_tree_47 kk) (fun σ_s_27 H locs hO hF9 hg9 hi9 ha9 hu9 hH hS => ?_)
      replace hF := hF.tu hF9 (by decide)
      have e_28 : gI σ_s_27 a 1 = z_12 := (hi9 _ _ (Or.inr (by decide))).trans e_24
      have e_29 : gI σ_s_27 a 2 = z_14 := (hi9 _ _ (Or.inl (kne h_a hp_18 (by decide)))).trans e_25
      have eq_30 : aQ σ_s_27 (ad E a 3) = f_1 := (fr.aq2 hO hF9 h_a (by decide) (by decide) k12_3).trans eq_26
      have e_31 := hg9
      refine lv_aload_n hx hb dX10_tree_50 rfl (lv_at hl 1 rfl) ?_
      refine ok.getR hO h_a (by decide) k12_9 (by decide) (fun _ _ he hv kk => th_get (ci := 10) (C := RX10) (T := TX10) (N := 18) hx hb hts inX10 hown hK hH he rfl 9 (by decide) fl0 hv dX10_tree_51 kk) ?_
      refine lv_iconst (v := I 0) hx hb dX10_tree_54 (by decide) ?_
      refine ok.putIw hO hp_18 (by decide) k5_5 (show rng 0 from ⟨by decide, by decide⟩) (by omega) (by omega) (fun _ he hl9 kk => th_putN (ci := 6) (v := .int (I 0)) (ty := .int) (C := RX6) (T := TX6) (N := 7) hx hb hts inX6 tyX6 tyX6_ok nmX6 hown hK hH hS h00 he rfl 5 (by decide) (nl_16 hK) rfl (by decide +kernel) rfl rfl hl9 dX10_tree_55 kk) (fun σ_s_32 H locs hO hF9 hg9 hi9 ha9 hu9 hH hS => ?_)
      replace hF := hF.tu hF9 (by decide)
      have e_33 : gI σ_s_32 a 1 = z_12 := (hi9 _ _ (Or.inr (by decide))).trans e_28
      have e_34 : gI σ_s_32 a 2 = z_14 := (hi9 _ _ (Or.inr (by decide))).trans e_29
      have e_35 : gI σ_s_32 (ad E a 9) 2 = 0 := (hi9 _ _ (Or.inr (by decide))).trans e_31
      have eq_36 : aQ σ_s_32 (ad E a 3) = f_1 := (fr.aq2 hO hF9 h_a (by decide) (by decide) k12_3).trans eq_30
      have e_37 := hg9
      refine lv_aload_n hx hb dX10_tree_58 rfl (lv_at hl 1 rfl) ?_
      refine lv_iconst (v := I 0) hx hb dX10_tree_59 (by decide) ?_
      refine ok.putIw hO h_a (by decide) k12_11 (show rng 0 from ⟨by decide, by decide⟩) (by omega) (by omega) (fun _ he hl9 kk => th_put (ci := 10) (v := .int (I 0)) (ty := .boolean) (C := RX10) (T := TX10) (N := 18) hx hb hts inX10 tyX10 tyX10_ok nmX10 hown hK hH hS h00 he rfl 11 (by decide) fl2 rfl (by decide +kernel) (nar_z (by omega)) rfl hl9 dX10_tree_60 kk) (fun σ_s_38 H locs hO hF9 hg9 hi9 ha9 hu9 hH hS => ?_)
      replace hF := hF.tu hF9 (by decide)
      have e_39 : gI σ_s_38 a 1 = z_12 := (hi9 _ _ (Or.inr (by decide))).trans e_33
      have e_40 : gI σ_s_38 a 2 = z_14 := (hi9 _ _ (Or.inr (by decide))).trans e_34
      have e_41 : gI σ_s_38 (ad E a 9) 2 = 0 := (hi9 _ _ (Or.inr (by decide))).trans e_35
      have e_42 : gI σ_s_38 (ad E a 9) 5 = 0 := (hi9 _ _ (Or.inr (by decide))).trans e_37
      have eq_43 : aQ σ_s_38 (ad E a 3) = f_1 := (hu9.q (ok.qo hO h_a (by decide) k12_3 (by decide))).trans eq_36
      have e_44 := hg9
      refine lv_iload_n hx hb dX10_tree_63 rfl (lv_at hl 0 rfl) ?_
      refine vx_ret ?_
      refine W.widen (k := 1) (n := 6) (Nat.le_of_ble_eq_true rfl) (Nat.le_of_ble_eq_true rfl) ?_
      exact th_iret hx hb hr hlocks hH hS (z := z_11) rz_11 ⟨hO, hF, ⟨by omega, (eq_43.trans h0q.symm), by obtain ⟨T, p, h7, h8, h9⟩ := hw_9.2.2; exact ⟨T, p, h7, h8, by omega⟩⟩⟩ dX10_tree_64
  · replace c_7 := (I_eq (a := z_6) (b := 0) rz_6 (show rng 0 from ⟨by decide, by decide⟩)).mp c_7
    exact th_throwI (text := "the tape has not so many bytes") hx hb hl0 hown hts (by first | exact fun w h => List.mem_cons_of_mem _ (List.mem_append_right _ h) | exact fun w h => List.mem_cons_of_mem _ (List.mem_append_left _ (List.mem_append_right _ h)) | decide +kernel) (by decide +kernel) (by decide +kernel) hXs hS hH (hl.1.trans hml.symm) htab hlocks (List.mem_of_getElem? (i := 0) rfl) dX10_tree_8 dX10_tree_11 dX10_tree_12 dX10_tree_14 dX10_tree_17 (Nat.le_of_ble_eq_true rfl) (Nat.le_of_ble_eq_true rfl) (Nat.le_of_ble_eq_true rfl) (Nat.le_of_ble_eq_true rfl) ⟨hO, hF, ⟨rfl, by omega, by omega, by omega, rfl, rfl⟩⟩ (Nat.le_of_ble_eq_true rfl) (Nat.le_of_ble_eq_true rfl)

set_option maxHeartbeats 4000000 in
set_option maxRecDepth 100000 in
theorem x8_path (l : Launch) (hl0 : l.stackTraces = false) (G : va_G) (y : Nat → ClassId) (b0 : Nat) (σ : th_M) (E : th_E) (hO : ok y E σ) (a : Nat) (h_a : kd E a = 12) (i : Int) (ri : rng i) (n : Int) (rn : rng n) (hy0 : ∀ k : Int, 0 ≤ k → k < gI σ a 1 → 0 ≤ (aF σ (ad E a 0) k.toNat).toInt ∧ (aF σ (ad E a 0) k.toNat).toInt ≤ 255) (hy1 : ad E (ad E a 7) 0 = ad E a 5) : vx_Met l yX10_path wsX10_path ({ frames := 52, cells := 11, slots := 614, locals := 2007 }) (th_PX G y b0 σ [.ref a, .int (I i), .int (I n)]) (th_Qi G b0 (fun r σ1 => ∃ E1, ext E E1 ∧ ok y E1 σ1 ∧ fr [12, 5, 3, 4] E σ σ1 ∧ ((((0 ≤ i ∧ i ≤ 3) ∧ 0 ≤ n ∧ n ≤ gI σ a 1) ∧ gI σ1 a 1 = 0) ∧ (r ≠ 0 → aQ σ1 (ad E a 3) = aQ σ (ad E a 3)) ∧ (r = 0 → ∃ u, aQ σ1 (ad E a 3) = va_up (aQ σ (ad E a 3)) i.toNat (some u)) ∧ ∃ T p, tkSt (byf (aF σ (ad E a 0)) n) T ∧ PthR T r p ∧ gI σ1 a 2 = p))) (th_XX G b0 (fun X σ1 => ∃ E1, ext E E1 ∧ ok y E1 σ1 ∧ fr [12, 5, 3, 4] E σ σ1 ∧ (((X = nq_NSE ∧ ¬ (0 ≤ i ∧ i ≤ 3)) ∨ (X = nq_IAE ∧ (0 ≤ i ∧ i ≤ 3) ∧ ¬ (0 ≤ n ∧ n ≤ gI σ a 1))) ∧ gI σ1 a 1 = gI σ a 1 ∧ gI σ1 a 2 = gI σ a 2 ∧ aF σ1 (ad E a 0) = aF σ (ad E a 0) ∧ aQ σ1 (ad E a 3) = aQ σ (ad E a 3)))) 11 614 (th_A b0) := by
  refine vx_ofW (cc := cX10_path) (maxL := 5) (ret := (some .int)) (by decide) rfl ?_
  intro p e s m args below meth c s₁ B hml htab hv
  obtain ⟨rfl, hH, hK, hXs⟩ := hv
  have hx := B.exec
  have hb := B.bytes
  have hr := B.returns
  have hts := atoms_spec (ws := wsX10_path) B.pre
  have hown : s.vm.findClass RX10 = some m.cls := findClass_of_methodNamed B.named
  have hlocks := B.notSynchronized
  have h00 : b0 ≤ s.heap.size := hH.1
  have hS : va_S (th_A b0) s.heap s.heap [] := va_S.rf
  have hF : fr [12, 5, 3, 4] E σ σ := fr.rf
  have hX : ext E E := ext.rf
  have inX10 : ∀ w ∈ wsX100, w ∈ wsX10_path := by decide +kernel
  have inX4 : ∀ w ∈ wsX40, w ∈ wsX10_path := by decide +kernel
  have fl0 := hts (.fieldLink RX10 47 "NestQuery" "pathReader" "LNestQuery$PathReader;") (by decide +kernel)
  have fl1 := hts (.fieldLink RX10 9 "NestQuery" "tape" "[I") (by decide +kernel)
  have fl2 := hts (.fieldLink RX10 24 "NestQuery" "sparePath" "LNestQuery$Path;") (by decide +kernel)
  have fl3 := hts (.fieldLink RX10 19 "NestQuery" "paths" "[LNestQuery$Path;") (by decide +kernel)
  have fl4 := hts (.classLink RX10 17 RX4) (by decide +kernel)
  have fl5 := hts (.instantiable RX4 14) (by decide +kernel)
  have fl6 := hts (.initialized RX4) (by decide +kernel)
  have fl7 := hts (.instanceMethod yX4_init) (by decide +kernel)
  have hl := lv_entry ([.ref a, .int (I i), .int (I n)]) (n := 5) (Nat.le_of_ble_eq_true rfl)
  rw [lg_entry_eq]
  generalize (lg_sl ([.ref a, .int (I i), .int (I n)]) ++ List.replicate (5 - (lg_sl ([.ref a, .int (I i), .int (I n)])).length) Slot.unset).toArray = ls at hl ⊢
  have hl : lv_has ls 5 [(0, .ref a), (1, .int (I i)), (2, .int (I n))] := hl
  obtain ⟨a10, ea10, ra10, la10, ua10⟩ := hO.gi h_a (by decide) k12_1
  obtain ⟨a20, ea20, ra20, la20, ua20⟩ := hO.gi h_a (by decide) k12_2
  obtain ⟨f_1, eq_2⟩ : ∃ f9, aQ σ (ad E a 3) = f9 := ⟨_, rfl⟩
  have h0q := eq_2
  refine lv_iload_n hx hb dX10_path_0 rfl (lv_at hl 1 rfl) ?_
  refine lv_if_lt (tgt := 9) hx hb dX10_path_1 (by decide) (fun c_3 => ?_) (fun c_3 => ?_)
  · replace c_3 := (I_lt (a := i) (b := 0) ri (show rng 0 from ⟨by decide, by decide⟩)).mp c_3
    exact th_throwN (text := "no such path may be") hx hb hl0 hown hts (by first | exact fun w h => List.mem_cons_of_mem _ (List.mem_append_right _ h) | exact fun w h => List.mem_cons_of_mem _ (List.mem_append_left _ (List.mem_append_right _ h)) | decide +kernel) (by decide +kernel) (by decide +kernel) hXs hS hH (hl.1.trans hml.symm) htab hlocks (List.mem_of_getElem? (i := 1) rfl) dX10_path_9 dX10_path_12 dX10_path_13 dX10_path_15 dX10_path_18 (Nat.le_of_ble_eq_true rfl) (Nat.le_of_ble_eq_true rfl) (Nat.le_of_ble_eq_true rfl) (Nat.le_of_ble_eq_true rfl) ⟨E, hX, hO, hF, ⟨by first | exact Or.inl ⟨rfl, by omega⟩ | exact Or.inr ⟨rfl, by omega, by omega⟩, by omega, by omega, rfl, rfl⟩⟩ (Nat.le_of_ble_eq_true rfl) (Nat.le_of_ble_eq_true rfl)
  · replace c_3 := mt (I_lt (a := i) (b := 0) ri (show rng 0 from ⟨by decide, by decide⟩)).mpr c_3
    refine lv_iload_n hx hb dX10_path_4 rfl (lv_at hl 1 rfl) ?_
    refine lv_iconst (v := I 4) hx hb dX10_path_5 (by decide) ?_
    refine lv_icmp_lt (tgt := 19) hx hb dX10_path_6 (by decide) (fun c_4 => ?_) (fun c_4 => ?_)
    · replace c_4 := (I_lt (a := i) (b := 4) ri (show rng 4 from ⟨by decide, by decide⟩)).mp c_4
      refine lv_aload_n hx hb dX10_path_19 rfl (lv_at hl 0 rfl) ?_
      refine lv_iload_n hx hb dX10_path_20 rfl (lv_at hl 2 rfl) ?_
      obtain ⟨_, hc_5⟩ := hO.cell h_a (by decide) (ci := 10) rfl
      refine th_calli (va_runV (As := [.int (I n)]) (rest := []) ⟨hx, hb, hml, hown, hts⟩ (q_tapeHas l G y b0 σ E hO a h_a n (show rng n from rn)) (cwV 1 hts gX10_path_X10_tapeHas rfl rfl rfl (by decide +kernel) ⟨Nat.le_of_ble_eq_true rfl, Nat.le_of_ble_eq_true rfl⟩) (th_PV hK hH rfl hc_5) rfl rfl hl.1 rfl (lv_room (Nat.le_of_ble_eq_true rfl)) dX10_path_21 ⟨Nat.le_of_ble_eq_true rfl, Nat.le_of_ble_eq_true rfl⟩) hS (fun z_8 σ_s_7 H locs rz_8 hw_6 hH hS => ?_)
      obtain ⟨e9, bhw_6, hw_6⟩ := hw_6
      replace e9 := e9.symm
      subst e9
      replace hw_6 : (z_8 = 1 ∧ 0 ≤ n ∧ n ≤ gI σ a 1) ∨ (z_8 = 0 ∧ ¬ (0 ≤ n ∧ n ≤ gI σ a 1)) := hw_6
      refine lv_if_ne (tgt := 37) hx hb dX10_path_24 (by decide) (fun c_9 => ?_) (fun c_9 => ?_)
      · replace c_9 := mt (I_eq (a := z_8) (b := 0) rz_8 (show rng 0 from ⟨by decide, by decide⟩)).mpr c_9
        refine lv_aload_n hx hb dX10_path_37 rfl (lv_at hl 0 rfl) ?_
        have hp_10 : kd E (ad E a 7) = 11 := ok.pk hO h_a (by decide) k12_7 rfl
        refine ok.getR hO h_a (by decide) k12_7 (by decide) (fun _ _ he hv kk => th_get (ci := 10) (C := RX10) (T := TX10) (N := 18) hx hb hts inX10 hown hK hH he rfl 7 (by decide) fl0 hv dX10_path_38 kk) ?_
        refine lv_aload_n hx hb dX10_path_41 rfl (lv_at hl 0 rfl) ?_
        refine ok.getR hO h_a (by decide) k12_0 (by decide) (fun _ _ he hv kk => th_get (ci := 10) (C := RX10) (T := TX10) (N := 18) hx hb hts inX10 hown hK hH he rfl 0 (by decide) fl1 hv dX10_path_42 kk) ?_
        refine lv_iload_n hx hb dX10_path_45 rfl (lv_at hl 2 rfl) ?_
        refine lv_aload_n hx hb dX10_path_46 rfl (lv_at hl 0 rfl) ?_
        refine ok.getM hO h_a (by decide) k12_4 rfl (fun _ _ he hv kk => th_get (ci := 10) (C := RX10) (T := TX10) (N := 18) hx hb hts inX10 hown hK hH he rfl 4 (by decide) fl2 hv dX10_path_47 kk) (fun b_11 hb_12 => ?_)
        obtain ⟨_, hc_13⟩ := hO.cell hp_10 (by decide) (ci := 5) rfl
        refine th_calli (va_runV (As := [.ref (ad E a 0), .int (I n), .ref b_11]) (rest := []) ⟨hx, hb, hml, hown, hts⟩ (s6_read l G y b0 σ E hO (ad E a 7) hp_10 a h_a n (show rng n from rn) b_11 hb_12 (byf (aF σ (ad E a 0)) n) (by omega) ((fun k h0 h1 => (byf_in h0 h1).symm)) ((fun k h1 => byf_out h1)) ((byf_byt hy0 (by omega))) ((fun k h0 h1 => by rw [byf_in h0 h1]; exact (hy0 k h0 (by omega)).1))) (cwV 3 hts gX10_path_X5_read rfl rfl rfl (by decide +kernel) ⟨Nat.le_of_ble_eq_true rfl, Nat.le_of_ble_eq_true rfl⟩) (th_PV hK hH rfl hc_13) rfl rfl hl.1 rfl (lv_room (Nat.le_of_ble_eq_true rfl)) dX10_path_50 ⟨Nat.le_of_ble_eq_true rfl, Nat.le_of_ble_eq_true rfl⟩) hS (fun z_16 σ_s_15 H locs rz_16 hw_14 hH hS => ?_)
        obtain ⟨hO9, hF9, hw_14⟩ := hw_14
        have e_17 : gI σ_s_15 a 1 = a10 := (fr.ki hO hF9 h_a (by decide) (by decide) _).trans ea10
        have e_18 : gI σ_s_15 a 2 = a20 := (fr.ki hO hF9 h_a (by decide) (by decide) _).trans ea20
        have eq_19 : aQ σ_s_15 (ad E a 3) = f_1 := (fr.aq hO hF9 h_a (by decide) (by decide) k12_3).trans eq_2
        replace hO := hO9
        replace hF := hF.ex hX hF9 (by decide)
        replace hw_14 : ∃ T, tkSt (byf (aF σ (ad E a 0)) n) T ∧ PthR T z_16 (gI σ_s_15 (ad E (ad E a 7) 0) 8) := hw_14
        refine lv_istore_n (lv' := [(3, .int (I z_16)), (0, .ref a), (1, .int (I i)), (2, .int (I n))]) hx hb dX10_path_53 rfl hl (by decide) rfl (fun ls hl => ?_)
        refine lv_aload_n hx hb dX10_path_54 rfl (lv_at hl 1 rfl) ?_
        refine lv_iload_n hx hb dX10_path_55 rfl (lv_at hl 0 rfl) ?_
        obtain ⟨_, hc_20⟩ := hO.cell h_a (by decide) (ci := 10) rfl
        refine th_callv (va_runV (As := [.int (I z_16)]) (rest := []) ⟨hx, hb, hml, hown, hts⟩ (q8_textWasRead l G y b0 σ_s_15 E hO a h_a z_16 (show rng z_16 from rz_16)) (cwV 1 hts gX10_path_X10_textWasRead rfl rfl rfl (by decide +kernel) ⟨Nat.le_of_ble_eq_true rfl, Nat.le_of_ble_eq_true rfl⟩) (th_PV hK hH rfl hc_20) rfl rfl hl.1 rfl (lv_room (Nat.le_of_ble_eq_true rfl)) dX10_path_56 ⟨Nat.le_of_ble_eq_true rfl, Nat.le_of_ble_eq_true rfl⟩) hS (fun σ_s_22 H locs hw_21 hH hS => ?_)
        obtain ⟨hO9, hF9, hw_21⟩ := hw_21
        replace hO := hO9
        replace hF := hF.ex hX hF9 (by decide)
        replace hw_21 : gI σ_s_22 a 1 = 0 ∧ gI σ_s_22 a 2 = gI σ_s_15 (ad E a 5) 8 ∧ aQ σ_s_22 (ad E a 3) = aQ σ_s_15 (ad E a 3) := hw_21
        obtain ⟨z_23, e_24, rz_23, lz_23, uz_23⟩ := hO.gi h_a (by decide) k12_1
        obtain ⟨z_25, e_26, rz_25, lz_25, uz_25⟩ := hO.gi h_a (by decide) k12_2
        have eq_27 : aQ σ_s_22 (ad E a 3) = f_1 := (hw_21.2.2).trans eq_19
        refine lv_iload_n hx hb dX10_path_59 rfl (lv_at hl 0 rfl) ?_
        refine lv_if_ne (tgt := 102) hx hb dX10_path_60 (by decide) (fun c_28 => ?_) (fun c_28 => ?_)
        · replace c_28 := mt (I_eq (a := z_16) (b := 0) rz_16 (show rng 0 from ⟨by decide, by decide⟩)).mpr c_28
          refine lv_iload_n hx hb dX10_path_102 rfl (lv_at hl 0 rfl) ?_
          refine vx_ret ?_
          refine W.widen (k := 11) (n := 614) (Nat.le_of_ble_eq_true rfl) (Nat.le_of_ble_eq_true rfl) ?_
          exact th_iret hx hb hr hlocks hH hS (z := z_16) rz_16 ⟨E, hX, hO, hF, ⟨by omega, fun _ => (eq_27.trans h0q.symm), fun h9 => absurd h9 (by omega), by obtain ⟨T, h8, h9⟩ := hw_14; rw [hy1] at h9; have h7 := hw_21.2.1; exact ⟨T, _, h8, h9, by omega⟩⟩⟩ dX10_path_103
        · replace c_28 := (I_eq (a := z_16) (b := 0) rz_16 (show rng 0 from ⟨by decide, by decide⟩)).mp c_28
          refine lv_aload_n hx hb dX10_path_63 rfl (lv_at hl 1 rfl) ?_
          refine ok.getR hO h_a (by decide) k12_3 (by decide) (fun _ _ he hv kk => th_get (ci := 10) (C := RX10) (T := TX10) (N := 18) hx hb hts inX10 hown hK hH he rfl 3 (by decide) fl3 hv dX10_path_64 kk) ?_
          refine lv_iload_n hx hb dX10_path_67 rfl (lv_at hl 2 rfl) ?_
          refine ok_aaldw hx hb hK hH hO h_a (by decide) k12_3 (Or.inl rfl) rfl ri (by omega) (by omega) dX10_path_68 (fun x_29 hx_30 hq_31 => ?_)
          rw [eq_27] at hq_31
          cases x_29 with
          | none =>
            refine lv_astoreN (lv' := [(4, .null), (3, .int (I z_16)), (0, .ref a), (1, .int (I i)), (2, .int (I n))]) hx hb dX10_path_69 hl (by decide) rfl (fun ls hl => ?_)
            refine lv_aload_n hx hb dX10_path_71 rfl (lv_at hl 2 rfl) ?_
            refine ok.getR hO h_a (by decide) k12_3 (by decide) (fun _ _ he hv kk => th_get (ci := 10) (C := RX10) (T := TX10) (N := 18) hx hb hts inX10 hown hK hH he rfl 3 (by decide) fl3 hv dX10_path_72 kk) ?_
            refine lv_iload_n hx hb dX10_path_75 rfl (lv_at hl 3 rfl) ?_
            refine lv_aload_n hx hb dX10_path_76 rfl (lv_at hl 2 rfl) ?_
            refine ok.getM hO h_a (by decide) k12_4 rfl (fun _ _ he hv kk => th_get (ci := 10) (C := RX10) (T := TX10) (N := 18) hx hb hts inX10 hown hK hH he rfl 4 (by decide) fl2 hv dX10_path_77 kk) (fun b_34 hb_35 => ?_)
            refine ok_aastw hx hb hK hH hS h00 hO h_a (by decide) k12_3 (Or.inl rfl) (v := b_34) hb_35 ri (by omega) (by omega) dX10_path_80 (fun σ_s_36 H locs hO hF9 hi9 hq9 hH hS => ?_)
            replace hF := hF.ex hX hF9 (by decide)
            have e_37 : gI σ_s_36 a 1 = z_23 := (hi9 _ _).trans e_24
            have e_38 : gI σ_s_36 a 2 = z_25 := (hi9 _ _).trans e_26
            have eq_39 : aQ σ_s_36 (ad E a 3) = va_up f_1 (i).toNat (some b_34) := by rw [hq9, eq_27]
            refine lv_aload_n hx hb dX10_path_81 rfl (lv_at hl 2 rfl) ?_
            refine lv_aloadN hx hb dX10_path_82 (lv_at hl 0 rfl) ?_
            refine lv_ifnonnullN hx hb dX10_path_84 ?_
            refine th_new (ci := 4) (fs := [.null, .null, .null, .int 0, .null, .int 0, .null, .null, .int 0, .null, .null, .null, .null, .int 0]) (C := RX4) (T := TX4) (N := 14) hx hb hts inX4 tyX4 tyX4_ok hown fl4 fl5 fl6 hK hH hS h00 rfl nq_defX4 (Nat.le_of_ble_eq_true rfl) (Nat.le_of_ble_eq_true rfl) dX10_path_87 (fun q_40 H hn9 hb9 hH hS => ?_)
            refine lv_dup hx hb dX10_path_90 rfl ?_
            have hz9 := th_non_up hH
            obtain ⟨k9, hk9⟩ := hH.pos (th_up_at _ _ _)
            refine th_ctor (va_runIN (As := []) (rest := [.ref q_40, .ref a]) ⟨hx, hb, hml, hown, hts⟩ (i_Path l G y H.size q_40) ⟨(va_cnB 0 hts gX10_path_X4_init_n23 rfl rfl rfl (ml_0 hK) fl6 (by decide +kernel) ⟨Nat.le_of_ble_eq_true rfl, Nat.le_of_ble_eq_true rfl⟩), rfl, fl7⟩ (nq_PS hK hH.P hH.D [k9] (by simp only [List.map, hk9]) rfl) rfl rfl hl.1 rfl (lv_room (Nat.le_of_ble_eq_true rfl)) dX10_path_91 ⟨Nat.le_of_ble_eq_true rfl, Nat.le_of_ble_eq_true rfl⟩) hH (th_up_at _ _ _) (fun u => ⟨0, _, rfl⟩) hS (fun u9 H locs _ hD9 hH hS => ?_)
            obtain ⟨E_41, hX9, hO9, hF9, hp_42⟩ := nt_path hO hn9 hz9 (show va_D _ (ntW_path y q_40 u9) from hD9)
            have hH : th_H G b0 (th_lay (th_up σ_s_36 q_40 (.inr (4, [.null, .null, .null, .int 0, .null, .int 0, .null, .null, .int 0, .null, .null, .null, .null, .int 0]))) (ntW_path y q_40 u9)) H := hH
            generalize th_lay (th_up σ_s_36 q_40 (.inr (4, [.null, .null, .null, .int 0, .null, .int 0, .null, .null, .int 0, .null, .null, .null, .null, .int 0]))) (ntW_path y q_40 u9) = σ_s_43 at hH hO9 hF9
            have e_44 : gI σ_s_43 a 1 = z_23 := (fr.ki hO hF9 h_a (by decide) (by decide) _).trans e_37
            have e_45 : gI σ_s_43 a 2 = z_25 := (fr.ki hO hF9 h_a (by decide) (by decide) _).trans e_38
            have eq_46 : aQ σ_s_43 (ad E a 3) = va_up f_1 (i).toNat (some b_34) := (fr.aq hO hF9 h_a (by decide) (by decide) k12_3).trans eq_39
            replace hO := hO9
            replace hF := hF.ex hX hF9 (by decide)
            replace hX := hX.tr hX9
            have hp_47 : kd E_41 a = 12 := hX9.kd2 h_a (by decide)
            have ef_48 : aQ σ_s_43 (ad E_41 a 3) = va_up f_1 (i).toNat (some b_34) := by rw [hX9.ad2 h_a (by decide) 3]; exact eq_46
            refine lv_goto (tgt := 99) hx hb dX10_path_94 (by decide) ?_
            refine ok.putMw hO hp_47 (by decide) k12_4 hp_42 (fun _ he hl9 kk => th_put (ci := 10) (v := .ref q_40) (ty := .object "NestQuery$Path") (C := RX10) (T := TX10) (N := 18) hx hb hts inX10 tyX10 tyX10_ok nmX10 hown hK hH hS h00 he rfl 4 (by decide) fl2 rfl (by decide +kernel) rfl rfl hl9 dX10_path_99 kk) (fun σ_s_49 H locs hO hF9 hi9 hu9 hH hS => ?_)
            replace hF := hF.ex hX hF9 (by decide)
            have e_50 : gI σ_s_49 a 1 = z_23 := (hi9 _ _ (Or.inr (by decide))).trans e_44
            have e_51 : gI σ_s_49 a 2 = z_25 := (hi9 _ _ (Or.inr (by decide))).trans e_45
            have eq_52 : aQ σ_s_49 (ad E_41 a 3) = va_up f_1 (i).toNat (some b_34) := (hu9.q (ok.qo hO hp_47 (by decide) k12_3 (by decide))).trans ef_48
            refine lv_iload_n hx hb dX10_path_102 rfl (lv_at hl 1 rfl) ?_
            refine vx_ret ?_
            exact th_iret hx hb hr hlocks hH hS (z := z_16) rz_16 ⟨E_41, hX, hO, hF, ⟨by omega, fun h9 => absurd (show z_16 = 0 by omega) h9, fun _ => ⟨b_34, ((congrArg (aQ σ_s_49) (hX.ad2 h_a (by decide) 3)).symm.trans (eq_52.trans (by rw [h0q])))⟩, by obtain ⟨T, h8, h9⟩ := hw_14; rw [hy1] at h9; have h7 := hw_21.2.1; exact ⟨T, _, h8, h9, by omega⟩⟩⟩ dX10_path_103
          | some b_32 =>
            have hb_33 : kd E b_32 = 4 := hx_30 b_32 rfl
            refine lv_astore (lv' := [(4, .ref b_32), (3, .int (I z_16)), (0, .ref a), (1, .int (I i)), (2, .int (I n))]) hx hb dX10_path_69 hl (by decide) rfl (fun ls hl => ?_)
            refine lv_aload_n hx hb dX10_path_71 rfl (lv_at hl 2 rfl) ?_
            refine ok.getR hO h_a (by decide) k12_3 (by decide) (fun _ _ he hv kk => th_get (ci := 10) (C := RX10) (T := TX10) (N := 18) hx hb hts inX10 hown hK hH he rfl 3 (by decide) fl3 hv dX10_path_72 kk) ?_
            refine lv_iload_n hx hb dX10_path_75 rfl (lv_at hl 3 rfl) ?_
            refine lv_aload_n hx hb dX10_path_76 rfl (lv_at hl 2 rfl) ?_
            refine ok.getM hO h_a (by decide) k12_4 rfl (fun _ _ he hv kk => th_get (ci := 10) (C := RX10) (T := TX10) (N := 18) hx hb hts inX10 hown hK hH he rfl 4 (by decide) fl2 hv dX10_path_77 kk) (fun b_53 hb_54 => ?_)
            refine ok_aastw hx hb hK hH hS h00 hO h_a (by decide) k12_3 (Or.inl rfl) (v := b_53) hb_54 ri (by omega) (by omega) dX10_path_80 (fun σ_s_55 H locs hO hF9 hi9 hq9 hH hS => ?_)
            replace hF := hF.ex hX hF9 (by decide)
            have e_56 : gI σ_s_55 a 1 = z_23 := (hi9 _ _).trans e_24
            have e_57 : gI σ_s_55 a 2 = z_25 := (hi9 _ _).trans e_26
            have eq_58 : aQ σ_s_55 (ad E a 3) = va_up f_1 (i).toNat (some b_53) := by rw [hq9, eq_27]
            refine lv_aload_n hx hb dX10_path_81 rfl (lv_at hl 2 rfl) ?_
            refine lv_aload hx hb dX10_path_82 (lv_at hl 0 rfl) ?_
            refine lv_ifnonnull (tgt := 97) hx hb dX10_path_84 (by decide) ?_
            refine lv_aload hx hb dX10_path_97 (lv_at hl 0 rfl) ?_
            refine ok.putMw hO h_a (by decide) k12_4 hb_33 (fun _ he hl9 kk => th_put (ci := 10) (v := .ref b_32) (ty := .object "NestQuery$Path") (C := RX10) (T := TX10) (N := 18) hx hb hts inX10 tyX10 tyX10_ok nmX10 hown hK hH hS h00 he rfl 4 (by decide) fl2 rfl (by decide +kernel) rfl rfl hl9 dX10_path_99 kk) (fun σ_s_59 H locs hO hF9 hi9 hu9 hH hS => ?_)
            replace hF := hF.ex hX hF9 (by decide)
            have e_60 : gI σ_s_59 a 1 = z_23 := (hi9 _ _ (Or.inr (by decide))).trans e_56
            have e_61 : gI σ_s_59 a 2 = z_25 := (hi9 _ _ (Or.inr (by decide))).trans e_57
            have eq_62 : aQ σ_s_59 (ad E a 3) = va_up f_1 (i).toNat (some b_53) := (hu9.q (ok.qo hO h_a (by decide) k12_3 (by decide))).trans eq_58
            refine lv_iload_n hx hb dX10_path_102 rfl (lv_at hl 1 rfl) ?_
            refine vx_ret ?_
            refine W.widen (k := 11) (n := 614) (Nat.le_of_ble_eq_true rfl) (Nat.le_of_ble_eq_true rfl) ?_
            exact th_iret hx hb hr hlocks hH hS (z := z_16) rz_16 ⟨E, hX, hO, hF, ⟨by omega, fun h9 => absurd (show z_16 = 0 by omega) h9, fun _ => ⟨b_53, (eq_62.trans (by rw [h0q]))⟩, by obtain ⟨T, h8, h9⟩ := hw_14; rw [hy1] at h9; have h7 := hw_21.2.1; exact ⟨T, _, h8, h9, by omega⟩⟩⟩ dX10_path_103
      · replace c_9 := (I_eq (a := z_8) (b := 0) rz_8 (show rng 0 from ⟨by decide, by decide⟩)).mp c_9
        exact th_throwI (text := "the tape has not so many bytes") hx hb hl0 hown hts (by first | exact fun w h => List.mem_cons_of_mem _ (List.mem_append_right _ h) | exact fun w h => List.mem_cons_of_mem _ (List.mem_append_left _ (List.mem_append_right _ h)) | decide +kernel) (by decide +kernel) (by decide +kernel) hXs hS hH (hl.1.trans hml.symm) htab hlocks (List.mem_of_getElem? (i := 0) rfl) dX10_path_27 dX10_path_30 dX10_path_31 dX10_path_33 dX10_path_36 (Nat.le_of_ble_eq_true rfl) (Nat.le_of_ble_eq_true rfl) (Nat.le_of_ble_eq_true rfl) (Nat.le_of_ble_eq_true rfl) ⟨E, hX, hO, hF, ⟨by first | exact Or.inl ⟨rfl, by omega⟩ | exact Or.inr ⟨rfl, by omega, by omega⟩, by omega, by omega, rfl, rfl⟩⟩ (Nat.le_of_ble_eq_true rfl) (Nat.le_of_ble_eq_true rfl)
    · replace c_4 := mt (I_lt (a := i) (b := 4) ri (show rng 4 from ⟨by decide, by decide⟩)).mpr c_4
      exact th_throwN (text := "no such path may be") hx hb hl0 hown hts (by first | exact fun w h => List.mem_cons_of_mem _ (List.mem_append_right _ h) | exact fun w h => List.mem_cons_of_mem _ (List.mem_append_left _ (List.mem_append_right _ h)) | decide +kernel) (by decide +kernel) (by decide +kernel) hXs hS hH (hl.1.trans hml.symm) htab hlocks (List.mem_of_getElem? (i := 1) rfl) dX10_path_9 dX10_path_12 dX10_path_13 dX10_path_15 dX10_path_18 (Nat.le_of_ble_eq_true rfl) (Nat.le_of_ble_eq_true rfl) (Nat.le_of_ble_eq_true rfl) (Nat.le_of_ble_eq_true rfl) ⟨E, hX, hO, hF, ⟨by first | exact Or.inl ⟨rfl, by omega⟩ | exact Or.inr ⟨rfl, by omega, by omega⟩, by omega, by omega, rfl, rfl⟩⟩ (Nat.le_of_ble_eq_true rfl) (Nat.le_of_ble_eq_true rfl)

set_option maxHeartbeats 4000000 in
set_option maxRecDepth 100000 in
theorem x8_put (l : Launch) (hl0 : l.stackTraces = false) (G : va_G) (y : Nat → ClassId) (b0 : Nat) (σ : th_M) (E : th_E) (hO : ok y E σ) (a : Nat) (h_a : kd E a = 12) (i : Int) (ri : rng i) (n : Int) (rn : rng n) (hy0 : ∀ k : Int, 0 ≤ k → k < gI σ a 1 → 0 ≤ (aF σ (ad E a 0) k.toNat).toInt ∧ (aF σ (ad E a 0) k.toNat).toInt ≤ 255) (hy1 : ad E (ad E a 6) 0 = ad E a 5) : vx_Met l yX10_put wsX10_put ({ frames := 47, cells := 5, slots := 245, locals := 1760 }) (th_PX G y b0 σ [.ref a, .int (I i), .int (I n)]) (th_Qi G b0 (fun r σ1 => ∃ E1, ext E E1 ∧ ok y E1 σ1 ∧ fr [12, 5, 3, 1, 2, 6] E σ σ1 ∧ (((0 ≤ n ∧ n ≤ gI σ a 1) ∧ gI σ1 a 1 = 0) ∧ aQ σ1 (ad E a 3) = aQ σ (ad E a 3) ∧ (((pAt σ E a i).isSome = true) → ∃ T v p, tkSt (byf (aF σ (ad E a 0)) n) T ∧ TopR T v p ∧ gI σ1 a 2 = p) ∧ (¬ ((pAt σ E a i).isSome = true) → gI σ1 a 2 = gI σ a 2)))) (th_XX G b0 (fun X σ1 => ∃ E1, ext E E1 ∧ ok y E1 σ1 ∧ fr [12, 5, 3, 1, 2, 6] E σ σ1 ∧ (X = nq_IAE ∧ ¬ (0 ≤ n ∧ n ≤ gI σ a 1) ∧ gI σ1 a 1 = gI σ a 1 ∧ gI σ1 a 2 = gI σ a 2 ∧ aF σ1 (ad E a 0) = aF σ (ad E a 0) ∧ aQ σ1 (ad E a 3) = aQ σ (ad E a 3)))) 5 245 (th_A b0) := by
  refine vx_ofW (cc := cX10_put) (maxL := 4) (ret := (some .int)) (by decide) rfl ?_
  intro p e s m args below meth c s₁ B hml htab hv
  obtain ⟨rfl, hH, hK, hXs⟩ := hv
  have hx := B.exec
  have hb := B.bytes
  have hr := B.returns
  have hts := atoms_spec (ws := wsX10_put) B.pre
  have hown : s.vm.findClass RX10 = some m.cls := findClass_of_methodNamed B.named
  have hlocks := B.notSynchronized
  have h00 : b0 ≤ s.heap.size := hH.1
  have hS : va_S (th_A b0) s.heap s.heap [] := va_S.rf
  have hF : fr [12, 5, 3, 1, 2, 6] E σ σ := fr.rf
  have hX : ext E E := ext.rf
  have inX10 : ∀ w ∈ wsX100, w ∈ wsX10_put := by decide +kernel
  have inX6 : ∀ w ∈ wsX60, w ∈ wsX10_put := by decide +kernel
  have fl0 := hts (.fieldLink RX10 75 "NestQuery" "acts" "LNestQuery$Acts;") (by decide +kernel)
  have fl1 := hts (.fieldLink RX10 63 "NestQuery" "now" "LNestQuery$State;") (by decide +kernel)
  have fl2 := hts (.fieldLink RX10 56 "NestQuery" "data" "LNestQuery$Tree;") (by decide +kernel)
  have hl := lv_entry ([.ref a, .int (I i), .int (I n)]) (n := 4) (Nat.le_of_ble_eq_true rfl)
  rw [lg_entry_eq]
  generalize (lg_sl ([.ref a, .int (I i), .int (I n)]) ++ List.replicate (4 - (lg_sl ([.ref a, .int (I i), .int (I n)])).length) Slot.unset).toArray = ls at hl ⊢
  have hl : lv_has ls 4 [(0, .ref a), (1, .int (I i)), (2, .int (I n))] := hl
  obtain ⟨a10, ea10, ra10, la10, ua10⟩ := hO.gi h_a (by decide) k12_1
  obtain ⟨a20, ea20, ra20, la20, ua20⟩ := hO.gi h_a (by decide) k12_2
  obtain ⟨f_1, eq_2⟩ : ∃ f9, aQ σ (ad E a 3) = f9 := ⟨_, rfl⟩
  have h0q := eq_2
  refine lv_aload_n hx hb dX10_put_0 rfl (lv_at hl 0 rfl) ?_
  refine lv_iload_n hx hb dX10_put_1 rfl (lv_at hl 2 rfl) ?_
  obtain ⟨_, hc_3⟩ := hO.cell h_a (by decide) (ci := 10) rfl
  refine th_calli (va_runV (As := [.int (I n)]) (rest := []) ⟨hx, hb, hml, hown, hts⟩ (q_tapeHas l G y b0 σ E hO a h_a n (show rng n from rn)) (cwV 1 hts gX10_put_X10_tapeHas rfl rfl rfl (by decide +kernel) ⟨Nat.le_of_ble_eq_true rfl, Nat.le_of_ble_eq_true rfl⟩) (th_PV hK hH rfl hc_3) rfl rfl hl.1 rfl (lv_room (Nat.le_of_ble_eq_true rfl)) dX10_put_2 ⟨Nat.le_of_ble_eq_true rfl, Nat.le_of_ble_eq_true rfl⟩) hS (fun z_6 σ_s_5 H locs rz_6 hw_4 hH hS => ?_)
  obtain ⟨e9, bhw_4, hw_4⟩ := hw_4
  replace e9 := e9.symm
  subst e9
  replace hw_4 : (z_6 = 1 ∧ 0 ≤ n ∧ n ≤ gI σ a 1) ∨ (z_6 = 0 ∧ ¬ (0 ≤ n ∧ n ≤ gI σ a 1)) := hw_4
  refine lv_if_ne (tgt := 18) hx hb dX10_put_5 (by decide) (fun c_7 => ?_) (fun c_7 => ?_)
  · replace c_7 := mt (I_eq (a := z_6) (b := 0) rz_6 (show rng 0 from ⟨by decide, by decide⟩)).mpr c_7
    refine lv_aload_n hx hb dX10_put_18 rfl (lv_at hl 0 rfl) ?_
    refine lv_iload_n hx hb dX10_put_19 rfl (lv_at hl 1 rfl) ?_
    obtain ⟨_, hc_8⟩ := hO.cell h_a (by decide) (ci := 10) rfl
    refine th_callq (va_runV (As := [.int (I i)]) (rest := []) ⟨hx, hb, hml, hown, hts⟩ (q8_pathAt l G y b0 σ E hO a h_a i (show rng i from ri)) (cwV 1 hts gX10_put_X10_pathAt rfl rfl rfl (by decide +kernel) ⟨Nat.le_of_ble_eq_true rfl, Nat.le_of_ble_eq_true rfl⟩) (th_PV hK hH rfl hc_8) rfl rfl hl.1 rfl (lv_room (Nat.le_of_ble_eq_true rfl)) dX10_put_20 ⟨Nat.le_of_ble_eq_true rfl, Nat.le_of_ble_eq_true rfl⟩) hS (fun x_11 σ_s_10 H locs hw_9 hH hS => ?_)
    obtain ⟨e9, khw_9, hw_9⟩ := hw_9
    replace e9 := e9.symm
    subst e9
    replace hw_9 : x_11 = pAt σ E a i := hw_9
    cases x_11 with
    | none =>
      refine lv_astore_nN (lv' := [(3, .null), (0, .ref a), (1, .int (I i)), (2, .int (I n))]) hx hb dX10_put_23 rfl hl (by decide) rfl (fun ls hl => ?_)
      refine lv_aload_nN hx hb dX10_put_24 rfl (lv_at hl 0 rfl) ?_
      refine lv_ifnonnullN hx hb dX10_put_25 ?_
      refine lv_aload_n hx hb dX10_put_28 rfl (lv_at hl 1 rfl) ?_
      obtain ⟨_, hc_14⟩ := hO.cell h_a (by decide) (ci := 10) rfl
      refine th_calli (va_runV (As := []) (rest := []) ⟨hx, hb, hml, hown, hts⟩ (q_unread l G y b0 σ E hO a h_a) (cwV 0 hts gX10_put_X10_refusedUnread rfl rfl rfl (by decide +kernel) ⟨Nat.le_of_ble_eq_true rfl, Nat.le_of_ble_eq_true rfl⟩) (th_PV hK hH rfl hc_14) rfl rfl hl.1 rfl (lv_room (Nat.le_of_ble_eq_true rfl)) dX10_put_29 ⟨Nat.le_of_ble_eq_true rfl, Nat.le_of_ble_eq_true rfl⟩) hS (fun z_17 σ_s_16 H locs rz_17 hw_15 hH hS => ?_)
      obtain ⟨hO9, hF9, hw_15⟩ := hw_15
      replace hO := hO9
      replace hF := hF.ex hX hF9 (by decide)
      replace hw_15 : (gI σ_s_16 a 2 = gI σ a 2 ∧ gI σ_s_16 a 1 = 0) ∧ aF σ_s_16 (ad E a 0) = aF σ (ad E a 0) ∧ aQ σ_s_16 (ad E a 3) = aQ σ (ad E a 3) := hw_15
      have eq_18 : aQ σ_s_16 (ad E a 3) = f_1 := (hw_15.2.2).trans eq_2
      obtain ⟨z_19, e_20, rz_19, lz_19, uz_19⟩ := hO.gi h_a (by decide) k12_2
      refine vx_ret ?_
      refine W.widen (k := 5) (n := 245) (Nat.le_of_ble_eq_true rfl) (Nat.le_of_ble_eq_true rfl) ?_
      exact th_iret hx hb hr hlocks hH hS (z := z_17) rz_17 ⟨E, hX, hO, hF, ⟨by omega, (eq_18.trans h0q.symm), fun h9 => (by rw [← hw_9] at h9; cases h9), fun _ => by omega⟩⟩ dX10_put_32
    | some b_12 =>
      have hb_13 : kd E b_12 = 4 := khw_9 b_12 rfl
      refine lv_astore_n (lv' := [(3, .ref b_12), (0, .ref a), (1, .int (I i)), (2, .int (I n))]) hx hb dX10_put_23 rfl hl (by decide) rfl (fun ls hl => ?_)
      refine lv_aload_n hx hb dX10_put_24 rfl (lv_at hl 0 rfl) ?_
      refine lv_ifnonnull (tgt := 33) hx hb dX10_put_25 (by decide) ?_
      refine lv_aload_n hx hb dX10_put_33 rfl (lv_at hl 1 rfl) ?_
      refine lv_iload_n hx hb dX10_put_34 rfl (lv_at hl 3 rfl) ?_
      obtain ⟨_, hc_21⟩ := hO.cell h_a (by decide) (ci := 10) rfl
      refine th_calli (va_runV (As := [.int (I n)]) (rest := []) ⟨hx, hb, hml, hown, hts⟩ (q8_readData l G y b0 σ E hO a h_a n (show rng n from rn) (hy0) (by omega) (hy1)) (cwV 1 hts gX10_put_X10_readData rfl rfl rfl (by decide +kernel) ⟨Nat.le_of_ble_eq_true rfl, Nat.le_of_ble_eq_true rfl⟩) (th_PV hK hH rfl hc_21) rfl rfl hl.1 rfl (lv_room (Nat.le_of_ble_eq_true rfl)) dX10_put_35 ⟨Nat.le_of_ble_eq_true rfl, Nat.le_of_ble_eq_true rfl⟩) hS (fun z_24 σ_s_23 H locs rz_24 hw_22 hH hS => ?_)
      obtain ⟨hO9, hF9, hw_22⟩ := hw_22
      replace hO := hO9
      replace hF := hF.ex hX hF9 (by decide)
      replace hw_22 : gI σ_s_23 a 1 = 0 ∧ aQ σ_s_23 (ad E a 3) = aQ σ (ad E a 3) ∧ ∃ T p, tkSt (byf (aF σ (ad E a 0)) n) T ∧ TopR T z_24 p ∧ gI σ_s_23 a 2 = p := hw_22
      obtain ⟨z_25, e_26, rz_25, lz_25, uz_25⟩ := hO.gi h_a (by decide) k12_1
      obtain ⟨z_27, e_28, rz_27, lz_27, uz_27⟩ := hO.gi h_a (by decide) k12_2
      have eq_29 : aQ σ_s_23 (ad E a 3) = f_1 := (hw_22.2.1).trans eq_2
      refine lv_if_eq (tgt := 44) hx hb dX10_put_38 (by decide) (fun c_30 => ?_) (fun c_30 => ?_)
      · replace c_30 := (I_eq (a := z_24) (b := 0) rz_24 (show rng 0 from ⟨by decide, by decide⟩)).mp c_30
        refine lv_aload_n hx hb dX10_put_44 rfl (lv_at hl 1 rfl) ?_
        refine lv_aload_n hx hb dX10_put_45 rfl (lv_at hl 1 rfl) ?_
        have hp_31 : kd E (ad E a 12) = 6 := ok.pk hO h_a (by decide) k12_12 rfl
        refine ok.getR hO h_a (by decide) k12_12 (by decide) (fun _ _ he hv kk => th_get (ci := 10) (C := RX10) (T := TX10) (N := 18) hx hb hts inX10 hown hK hH he rfl 12 (by decide) fl0 hv dX10_put_46 kk) ?_
        refine lv_aload_n hx hb dX10_put_49 rfl (lv_at hl 0 rfl) ?_
        refine lv_aload_n hx hb dX10_put_50 rfl (lv_at hl 1 rfl) ?_
        have hp_32 : kd E (ad E a 9) = 5 := ok.pk hO h_a (by decide) k12_9 rfl
        refine ok.getR hO h_a (by decide) k12_9 (by decide) (fun _ _ he hv kk => th_get (ci := 10) (C := RX10) (T := TX10) (N := 18) hx hb hts inX10 hown hK hH he rfl 9 (by decide) fl1 hv dX10_put_51 kk) ?_
        have hp_33 : kd E (ad E (ad E a 9) 0) = 1 := ok.pk hO hp_32 (by decide) k5_0 rfl
        refine ok.getR hO hp_32 (by decide) k5_0 (by decide) (fun _ _ he hv kk => th_getN (ci := 6) (C := RX6) (T := TX6) (N := 7) hx hb hts inX6 hown hK hH he rfl 0 (by decide) (nl_13 hK) hv dX10_put_54 kk) ?_
        refine lv_bipush (v := I 8) hx hb dX10_put_57 (by decide) ?_
        obtain ⟨_, hc_34⟩ := hO.cell hb_13 (by decide) (ci := 4) rfl
        refine th_calll (va_runV (As := [.ref (ad E (ad E a 9) 0), .int (I 8)]) (rest := [.ref (ad E a 12), .ref a]) ⟨hx, hb, hml, hown, hts⟩ (p_answersIn l G y b0 σ_s_23 E hO b_12 hb_13 (ad E (ad E a 9) 0) hp_33 8 (show rng 8 from (show rng 8 from ⟨by decide, by decide⟩))) (cwV 2 hts gX10_put_X4_answersIn rfl rfl rfl (by decide +kernel) ⟨Nat.le_of_ble_eq_true rfl, Nat.le_of_ble_eq_true rfl⟩) (th_PV hK hH rfl hc_34) rfl rfl hl.1 rfl (lv_room (Nat.le_of_ble_eq_true rfl)) dX10_put_59 ⟨Nat.le_of_ble_eq_true rfl, Nat.le_of_ble_eq_true rfl⟩) hS (fun w_37 σ_s_36 H locs hw_35 hH hS => ?_)
        obtain ⟨e9, hw_35⟩ := hw_35
        replace e9 := e9.symm
        subst e9
        refine lv_aload_n hx hb dX10_put_62 rfl (lv_at hl 1 rfl) ?_
        have hp_38 : kd E (ad E a 8) = 1 := ok.pk hO h_a (by decide) k12_8 rfl
        refine ok.getR hO h_a (by decide) k12_8 (by decide) (fun _ _ he hv kk => th_get (ci := 10) (C := RX10) (T := TX10) (N := 18) hx hb hts inX10 hown hK hH he rfl 8 (by decide) fl2 hv dX10_put_63 kk) ?_
        obtain ⟨_, hc_39⟩ := hO.cell hp_31 (by decide) (ci := 0) rfl
        refine th_calli (va_runV (As := [.long w_37, .ref (ad E a 8)]) (rest := [.ref a]) ⟨hx, hb, hml, hown, hts⟩ (c_putAll l G y b0 σ_s_23 E hO (ad E a 12) hp_31 w_37 (ad E a 8) hp_38) (cwV 2 hts gX10_put_X0_putAll rfl rfl rfl (by decide +kernel) ⟨Nat.le_of_ble_eq_true rfl, Nat.le_of_ble_eq_true rfl⟩) (th_PV hK hH rfl hc_39) rfl rfl hl.1 rfl (lv_room (Nat.le_of_ble_eq_true rfl)) dX10_put_66 ⟨Nat.le_of_ble_eq_true rfl, Nat.le_of_ble_eq_true rfl⟩) hS (fun z_42 σ_s_41 H locs rz_42 hw_40 hH hS => ?_)
        obtain ⟨E_43, hX9, hO9, hF9, hw_40⟩ := hw_40
        have e_44 : gI σ_s_41 a 1 = z_25 := (fr.ki hO hF9 h_a (by decide) (by decide) _).trans e_26
        have e_45 : gI σ_s_41 a 2 = z_27 := (fr.ki hO hF9 h_a (by decide) (by decide) _).trans e_28
        have eq_46 : aQ σ_s_41 (ad E a 3) = f_1 := (fr.aq hO hF9 h_a (by decide) (by decide) k12_3).trans eq_29
        replace hO := hO9
        replace hF := hF.ex hX hF9 (by decide)
        replace hX := hX.tr hX9
        have hp_47 : kd E_43 b_12 = 4 := hX9.kd2 hb_13 (by decide)
        have hp_48 : kd E_43 a = 12 := hX9.kd2 h_a (by decide)
        have ef_49 : aQ σ_s_41 (ad E_43 a 3) = f_1 := by rw [hX9.ad2 h_a (by decide) 3]; exact eq_46
        obtain ⟨_, hc_50⟩ := hO.cell hp_48 (by decide) (ci := 10) rfl
        refine th_calli (va_runV (As := [.int (I z_42)]) (rest := []) ⟨hx, hb, hml, hown, hts⟩ (q_actDone l G y b0 σ_s_41 E_43 hO a hp_48 z_42 (show rng z_42 from rz_42)) (cwV 1 hts gX10_put_X10_actDone rfl rfl rfl (by decide +kernel) ⟨Nat.le_of_ble_eq_true rfl, Nat.le_of_ble_eq_true rfl⟩) (th_PV hK hH rfl hc_50) rfl rfl hl.1 rfl (lv_room (Nat.le_of_ble_eq_true rfl)) dX10_put_69 ⟨Nat.le_of_ble_eq_true rfl, Nat.le_of_ble_eq_true rfl⟩) hS (fun z_53 σ_s_52 H locs rz_53 hw_51 hH hS => ?_)
        obtain ⟨hO9, hF9, hw_51⟩ := hw_51
        have e_54 : gI σ_s_52 a 1 = z_25 := (fr.ki hO hF9 hp_48 (by decide) (by decide) _).trans e_44
        have e_55 : gI σ_s_52 a 2 = z_27 := (fr.ki hO hF9 hp_48 (by decide) (by decide) _).trans e_45
        have eq_56 : aQ σ_s_52 (ad E_43 a 3) = f_1 := (fr.aq hO hF9 hp_48 (by decide) (by decide) k12_3).trans ef_49
        replace hO := hO9
        replace hF := hF.ex hX hF9 (by decide)
        refine vx_ret ?_
        exact th_iret hx hb hr hlocks hH hS (z := z_53) rz_53 ⟨E_43, hX, hO, hF, ⟨by omega, ((congrArg (aQ σ_s_52) (hX.ad2 h_a (by decide) 3)).symm.trans (eq_56.trans h0q.symm)), fun _ => by obtain ⟨T, p, h7, h8, h9⟩ := hw_22.2.2; exact ⟨T, _, p, h7, h8, by omega⟩, fun h9 => absurd (by rw [← hw_9]; rfl) h9⟩⟩ dX10_put_72
      · replace c_30 := mt (I_eq (a := z_24) (b := 0) rz_24 (show rng 0 from ⟨by decide, by decide⟩)).mpr c_30
        refine lv_bipush (v := I (-2)) hx hb dX10_put_41 (by decide) ?_
        refine vx_ret ?_
        refine W.widen (k := 5) (n := 245) (Nat.le_of_ble_eq_true rfl) (Nat.le_of_ble_eq_true rfl) ?_
        exact th_iret hx hb hr hlocks hH hS (z := (-2)) (show rng (-2) from ⟨by decide, by decide⟩) ⟨E, hX, hO, hF, ⟨by omega, (eq_29.trans h0q.symm), fun _ => by obtain ⟨T, p, h7, h8, h9⟩ := hw_22.2.2; exact ⟨T, _, p, h7, h8, by omega⟩, fun h9 => absurd (by rw [← hw_9]; rfl) h9⟩⟩ dX10_put_43
  · replace c_7 := (I_eq (a := z_6) (b := 0) rz_6 (show rng 0 from ⟨by decide, by decide⟩)).mp c_7
    exact th_throwI (text := "the tape has not so many bytes") hx hb hl0 hown hts (by first | exact fun w h => List.mem_cons_of_mem _ (List.mem_append_right _ h) | exact fun w h => List.mem_cons_of_mem _ (List.mem_append_left _ (List.mem_append_right _ h)) | decide +kernel) (by decide +kernel) (by decide +kernel) hXs hS hH (hl.1.trans hml.symm) htab hlocks (List.mem_of_getElem? (i := 0) rfl) dX10_put_8 dX10_put_11 dX10_put_12 dX10_put_14 dX10_put_17 (Nat.le_of_ble_eq_true rfl) (Nat.le_of_ble_eq_true rfl) (Nat.le_of_ble_eq_true rfl) (Nat.le_of_ble_eq_true rfl) ⟨E, hX, hO, hF, ⟨rfl, by omega, by omega, by omega, rfl, rfl⟩⟩ (Nat.le_of_ble_eq_true rfl) (Nat.le_of_ble_eq_true rfl)

set_option maxHeartbeats 4000000 in
set_option maxRecDepth 100000 in
theorem x8_append (l : Launch) (hl0 : l.stackTraces = false) (G : va_G) (y : Nat → ClassId) (b0 : Nat) (σ : th_M) (E : th_E) (hO : ok y E σ) (a : Nat) (h_a : kd E a = 12) (i : Int) (ri : rng i) (n : Int) (rn : rng n) (hy0 : ∀ k : Int, 0 ≤ k → k < gI σ a 1 → 0 ≤ (aF σ (ad E a 0) k.toNat).toInt ∧ (aF σ (ad E a 0) k.toNat).toInt ≤ 255) (hy1 : ad E (ad E a 6) 0 = ad E a 5) : vx_Met l yX10_append wsX10_append ({ frames := 47, cells := 5, slots := 245, locals := 1760 }) (th_PX G y b0 σ [.ref a, .int (I i), .int (I n)]) (th_Qi G b0 (fun r σ1 => ∃ E1, ext E E1 ∧ ok y E1 σ1 ∧ fr [12, 5, 3, 1, 2, 6] E σ σ1 ∧ (((0 ≤ n ∧ n ≤ gI σ a 1) ∧ gI σ1 a 1 = 0) ∧ aQ σ1 (ad E a 3) = aQ σ (ad E a 3) ∧ (((pAt σ E a i).isSome = true) → ∃ T v p, tkSt (byf (aF σ (ad E a 0)) n) T ∧ TopR T v p ∧ gI σ1 a 2 = p) ∧ (¬ ((pAt σ E a i).isSome = true) → gI σ1 a 2 = gI σ a 2)))) (th_XX G b0 (fun X σ1 => ∃ E1, ext E E1 ∧ ok y E1 σ1 ∧ fr [12, 5, 3, 1, 2, 6] E σ σ1 ∧ (X = nq_IAE ∧ ¬ (0 ≤ n ∧ n ≤ gI σ a 1) ∧ gI σ1 a 1 = gI σ a 1 ∧ gI σ1 a 2 = gI σ a 2 ∧ aF σ1 (ad E a 0) = aF σ (ad E a 0) ∧ aQ σ1 (ad E a 3) = aQ σ (ad E a 3)))) 5 245 (th_A b0) := by
  refine vx_ofW (cc := cX10_append) (maxL := 4) (ret := (some .int)) (by decide) rfl ?_
  intro p e s m args below meth c s₁ B hml htab hv
  obtain ⟨rfl, hH, hK, hXs⟩ := hv
  have hx := B.exec
  have hb := B.bytes
  have hr := B.returns
  have hts := atoms_spec (ws := wsX10_append) B.pre
  have hown : s.vm.findClass RX10 = some m.cls := findClass_of_methodNamed B.named
  have hlocks := B.notSynchronized
  have h00 : b0 ≤ s.heap.size := hH.1
  have hS : va_S (th_A b0) s.heap s.heap [] := va_S.rf
  have hF : fr [12, 5, 3, 1, 2, 6] E σ σ := fr.rf
  have hX : ext E E := ext.rf
  have inX10 : ∀ w ∈ wsX100, w ∈ wsX10_append := by decide +kernel
  have inX6 : ∀ w ∈ wsX60, w ∈ wsX10_append := by decide +kernel
  have fl0 := hts (.fieldLink RX10 75 "NestQuery" "acts" "LNestQuery$Acts;") (by decide +kernel)
  have fl1 := hts (.fieldLink RX10 63 "NestQuery" "now" "LNestQuery$State;") (by decide +kernel)
  have fl2 := hts (.fieldLink RX10 56 "NestQuery" "data" "LNestQuery$Tree;") (by decide +kernel)
  have hl := lv_entry ([.ref a, .int (I i), .int (I n)]) (n := 4) (Nat.le_of_ble_eq_true rfl)
  rw [lg_entry_eq]
  generalize (lg_sl ([.ref a, .int (I i), .int (I n)]) ++ List.replicate (4 - (lg_sl ([.ref a, .int (I i), .int (I n)])).length) Slot.unset).toArray = ls at hl ⊢
  have hl : lv_has ls 4 [(0, .ref a), (1, .int (I i)), (2, .int (I n))] := hl
  obtain ⟨a10, ea10, ra10, la10, ua10⟩ := hO.gi h_a (by decide) k12_1
  obtain ⟨a20, ea20, ra20, la20, ua20⟩ := hO.gi h_a (by decide) k12_2
  obtain ⟨f_1, eq_2⟩ : ∃ f9, aQ σ (ad E a 3) = f9 := ⟨_, rfl⟩
  have h0q := eq_2
  refine lv_aload_n hx hb dX10_append_0 rfl (lv_at hl 0 rfl) ?_
  refine lv_iload_n hx hb dX10_append_1 rfl (lv_at hl 2 rfl) ?_
  obtain ⟨_, hc_3⟩ := hO.cell h_a (by decide) (ci := 10) rfl
  refine th_calli (va_runV (As := [.int (I n)]) (rest := []) ⟨hx, hb, hml, hown, hts⟩ (q_tapeHas l G y b0 σ E hO a h_a n (show rng n from rn)) (cwV 1 hts gX10_append_X10_tapeHas rfl rfl rfl (by decide +kernel) ⟨Nat.le_of_ble_eq_true rfl, Nat.le_of_ble_eq_true rfl⟩) (th_PV hK hH rfl hc_3) rfl rfl hl.1 rfl (lv_room (Nat.le_of_ble_eq_true rfl)) dX10_append_2 ⟨Nat.le_of_ble_eq_true rfl, Nat.le_of_ble_eq_true rfl⟩) hS (fun z_6 σ_s_5 H locs rz_6 hw_4 hH hS => ?_)
  obtain ⟨e9, bhw_4, hw_4⟩ := hw_4
  replace e9 := e9.symm
  subst e9
  replace hw_4 : (z_6 = 1 ∧ 0 ≤ n ∧ n ≤ gI σ a 1) ∨ (z_6 = 0 ∧ ¬ (0 ≤ n ∧ n ≤ gI σ a 1)) := hw_4
  refine lv_if_ne (tgt := 18) hx hb dX10_append_5 (by decide) (fun c_7 => ?_) (fun c_7 => ?_)
  · replace c_7 := mt (I_eq (a := z_6) (b := 0) rz_6 (show rng 0 from ⟨by decide, by decide⟩)).mpr c_7
    refine lv_aload_n hx hb dX10_append_18 rfl (lv_at hl 0 rfl) ?_
    refine lv_iload_n hx hb dX10_append_19 rfl (lv_at hl 1 rfl) ?_
    obtain ⟨_, hc_8⟩ := hO.cell h_a (by decide) (ci := 10) rfl
    refine th_callq (va_runV (As := [.int (I i)]) (rest := []) ⟨hx, hb, hml, hown, hts⟩ (q8_pathAt l G y b0 σ E hO a h_a i (show rng i from ri)) (cwV 1 hts gX10_append_X10_pathAt rfl rfl rfl (by decide +kernel) ⟨Nat.le_of_ble_eq_true rfl, Nat.le_of_ble_eq_true rfl⟩) (th_PV hK hH rfl hc_8) rfl rfl hl.1 rfl (lv_room (Nat.le_of_ble_eq_true rfl)) dX10_append_20 ⟨Nat.le_of_ble_eq_true rfl, Nat.le_of_ble_eq_true rfl⟩) hS (fun x_11 σ_s_10 H locs hw_9 hH hS => ?_)
    obtain ⟨e9, khw_9, hw_9⟩ := hw_9
    replace e9 := e9.symm
    subst e9
    replace hw_9 : x_11 = pAt σ E a i := hw_9
    cases x_11 with
    | none =>
      refine lv_astore_nN (lv' := [(3, .null), (0, .ref a), (1, .int (I i)), (2, .int (I n))]) hx hb dX10_append_23 rfl hl (by decide) rfl (fun ls hl => ?_)
      refine lv_aload_nN hx hb dX10_append_24 rfl (lv_at hl 0 rfl) ?_
      refine lv_ifnonnullN hx hb dX10_append_25 ?_
      refine lv_aload_n hx hb dX10_append_28 rfl (lv_at hl 1 rfl) ?_
      obtain ⟨_, hc_14⟩ := hO.cell h_a (by decide) (ci := 10) rfl
      refine th_calli (va_runV (As := []) (rest := []) ⟨hx, hb, hml, hown, hts⟩ (q_unread l G y b0 σ E hO a h_a) (cwV 0 hts gX10_append_X10_refusedUnread rfl rfl rfl (by decide +kernel) ⟨Nat.le_of_ble_eq_true rfl, Nat.le_of_ble_eq_true rfl⟩) (th_PV hK hH rfl hc_14) rfl rfl hl.1 rfl (lv_room (Nat.le_of_ble_eq_true rfl)) dX10_append_29 ⟨Nat.le_of_ble_eq_true rfl, Nat.le_of_ble_eq_true rfl⟩) hS (fun z_17 σ_s_16 H locs rz_17 hw_15 hH hS => ?_)
      obtain ⟨hO9, hF9, hw_15⟩ := hw_15
      replace hO := hO9
      replace hF := hF.ex hX hF9 (by decide)
      replace hw_15 : (gI σ_s_16 a 2 = gI σ a 2 ∧ gI σ_s_16 a 1 = 0) ∧ aF σ_s_16 (ad E a 0) = aF σ (ad E a 0) ∧ aQ σ_s_16 (ad E a 3) = aQ σ (ad E a 3) := hw_15
      have eq_18 : aQ σ_s_16 (ad E a 3) = f_1 := (hw_15.2.2).trans eq_2
      obtain ⟨z_19, e_20, rz_19, lz_19, uz_19⟩ := hO.gi h_a (by decide) k12_2
      refine vx_ret ?_
      refine W.widen (k := 5) (n := 245) (Nat.le_of_ble_eq_true rfl) (Nat.le_of_ble_eq_true rfl) ?_
      exact th_iret hx hb hr hlocks hH hS (z := z_17) rz_17 ⟨E, hX, hO, hF, ⟨by omega, (eq_18.trans h0q.symm), fun h9 => (by rw [← hw_9] at h9; cases h9), fun _ => by omega⟩⟩ dX10_append_32
    | some b_12 =>
      have hb_13 : kd E b_12 = 4 := khw_9 b_12 rfl
      refine lv_astore_n (lv' := [(3, .ref b_12), (0, .ref a), (1, .int (I i)), (2, .int (I n))]) hx hb dX10_append_23 rfl hl (by decide) rfl (fun ls hl => ?_)
      refine lv_aload_n hx hb dX10_append_24 rfl (lv_at hl 0 rfl) ?_
      refine lv_ifnonnull (tgt := 33) hx hb dX10_append_25 (by decide) ?_
      refine lv_aload_n hx hb dX10_append_33 rfl (lv_at hl 1 rfl) ?_
      refine lv_iload_n hx hb dX10_append_34 rfl (lv_at hl 3 rfl) ?_
      obtain ⟨_, hc_21⟩ := hO.cell h_a (by decide) (ci := 10) rfl
      refine th_calli (va_runV (As := [.int (I n)]) (rest := []) ⟨hx, hb, hml, hown, hts⟩ (q8_readData l G y b0 σ E hO a h_a n (show rng n from rn) (hy0) (by omega) (hy1)) (cwV 1 hts gX10_append_X10_readData rfl rfl rfl (by decide +kernel) ⟨Nat.le_of_ble_eq_true rfl, Nat.le_of_ble_eq_true rfl⟩) (th_PV hK hH rfl hc_21) rfl rfl hl.1 rfl (lv_room (Nat.le_of_ble_eq_true rfl)) dX10_append_35 ⟨Nat.le_of_ble_eq_true rfl, Nat.le_of_ble_eq_true rfl⟩) hS (fun z_24 σ_s_23 H locs rz_24 hw_22 hH hS => ?_)
      obtain ⟨hO9, hF9, hw_22⟩ := hw_22
      replace hO := hO9
      replace hF := hF.ex hX hF9 (by decide)
      replace hw_22 : gI σ_s_23 a 1 = 0 ∧ aQ σ_s_23 (ad E a 3) = aQ σ (ad E a 3) ∧ ∃ T p, tkSt (byf (aF σ (ad E a 0)) n) T ∧ TopR T z_24 p ∧ gI σ_s_23 a 2 = p := hw_22
      obtain ⟨z_25, e_26, rz_25, lz_25, uz_25⟩ := hO.gi h_a (by decide) k12_1
      obtain ⟨z_27, e_28, rz_27, lz_27, uz_27⟩ := hO.gi h_a (by decide) k12_2
      have eq_29 : aQ σ_s_23 (ad E a 3) = f_1 := (hw_22.2.1).trans eq_2
      refine lv_if_eq (tgt := 44) hx hb dX10_append_38 (by decide) (fun c_30 => ?_) (fun c_30 => ?_)
      · replace c_30 := (I_eq (a := z_24) (b := 0) rz_24 (show rng 0 from ⟨by decide, by decide⟩)).mp c_30
        refine lv_aload_n hx hb dX10_append_44 rfl (lv_at hl 1 rfl) ?_
        refine lv_aload_n hx hb dX10_append_45 rfl (lv_at hl 1 rfl) ?_
        have hp_31 : kd E (ad E a 12) = 6 := ok.pk hO h_a (by decide) k12_12 rfl
        refine ok.getR hO h_a (by decide) k12_12 (by decide) (fun _ _ he hv kk => th_get (ci := 10) (C := RX10) (T := TX10) (N := 18) hx hb hts inX10 hown hK hH he rfl 12 (by decide) fl0 hv dX10_append_46 kk) ?_
        refine lv_aload_n hx hb dX10_append_49 rfl (lv_at hl 0 rfl) ?_
        refine lv_aload_n hx hb dX10_append_50 rfl (lv_at hl 1 rfl) ?_
        have hp_32 : kd E (ad E a 9) = 5 := ok.pk hO h_a (by decide) k12_9 rfl
        refine ok.getR hO h_a (by decide) k12_9 (by decide) (fun _ _ he hv kk => th_get (ci := 10) (C := RX10) (T := TX10) (N := 18) hx hb hts inX10 hown hK hH he rfl 9 (by decide) fl1 hv dX10_append_51 kk) ?_
        have hp_33 : kd E (ad E (ad E a 9) 0) = 1 := ok.pk hO hp_32 (by decide) k5_0 rfl
        refine ok.getR hO hp_32 (by decide) k5_0 (by decide) (fun _ _ he hv kk => th_getN (ci := 6) (C := RX6) (T := TX6) (N := 7) hx hb hts inX6 hown hK hH he rfl 0 (by decide) (nl_13 hK) hv dX10_append_54 kk) ?_
        refine lv_bipush (v := I 8) hx hb dX10_append_57 (by decide) ?_
        obtain ⟨_, hc_34⟩ := hO.cell hb_13 (by decide) (ci := 4) rfl
        refine th_calll (va_runV (As := [.ref (ad E (ad E a 9) 0), .int (I 8)]) (rest := [.ref (ad E a 12), .ref a]) ⟨hx, hb, hml, hown, hts⟩ (p_answersIn l G y b0 σ_s_23 E hO b_12 hb_13 (ad E (ad E a 9) 0) hp_33 8 (show rng 8 from (show rng 8 from ⟨by decide, by decide⟩))) (cwV 2 hts gX10_append_X4_answersIn rfl rfl rfl (by decide +kernel) ⟨Nat.le_of_ble_eq_true rfl, Nat.le_of_ble_eq_true rfl⟩) (th_PV hK hH rfl hc_34) rfl rfl hl.1 rfl (lv_room (Nat.le_of_ble_eq_true rfl)) dX10_append_59 ⟨Nat.le_of_ble_eq_true rfl, Nat.le_of_ble_eq_true rfl⟩) hS (fun w_37 σ_s_36 H locs hw_35 hH hS => ?_)
        obtain ⟨e9, hw_35⟩ := hw_35
        replace e9 := e9.symm
        subst e9
        refine lv_aload_n hx hb dX10_append_62 rfl (lv_at hl 1 rfl) ?_
        have hp_38 : kd E (ad E a 8) = 1 := ok.pk hO h_a (by decide) k12_8 rfl
        refine ok.getR hO h_a (by decide) k12_8 (by decide) (fun _ _ he hv kk => th_get (ci := 10) (C := RX10) (T := TX10) (N := 18) hx hb hts inX10 hown hK hH he rfl 8 (by decide) fl2 hv dX10_append_63 kk) ?_
        obtain ⟨_, hc_39⟩ := hO.cell hp_31 (by decide) (ci := 0) rfl
        refine th_calli (va_runV (As := [.long w_37, .ref (ad E a 8)]) (rest := [.ref a]) ⟨hx, hb, hml, hown, hts⟩ (c_appendAll l G y b0 σ_s_23 E hO (ad E a 12) hp_31 w_37 (ad E a 8) hp_38) (cwV 2 hts gX10_append_X0_appendAll rfl rfl rfl (by decide +kernel) ⟨Nat.le_of_ble_eq_true rfl, Nat.le_of_ble_eq_true rfl⟩) (th_PV hK hH rfl hc_39) rfl rfl hl.1 rfl (lv_room (Nat.le_of_ble_eq_true rfl)) dX10_append_66 ⟨Nat.le_of_ble_eq_true rfl, Nat.le_of_ble_eq_true rfl⟩) hS (fun z_42 σ_s_41 H locs rz_42 hw_40 hH hS => ?_)
        obtain ⟨E_43, hX9, hO9, hF9, hw_40⟩ := hw_40
        have e_44 : gI σ_s_41 a 1 = z_25 := (fr.ki hO hF9 h_a (by decide) (by decide) _).trans e_26
        have e_45 : gI σ_s_41 a 2 = z_27 := (fr.ki hO hF9 h_a (by decide) (by decide) _).trans e_28
        have eq_46 : aQ σ_s_41 (ad E a 3) = f_1 := (fr.aq hO hF9 h_a (by decide) (by decide) k12_3).trans eq_29
        replace hO := hO9
        replace hF := hF.ex hX hF9 (by decide)
        replace hX := hX.tr hX9
        have hp_47 : kd E_43 b_12 = 4 := hX9.kd2 hb_13 (by decide)
        have hp_48 : kd E_43 a = 12 := hX9.kd2 h_a (by decide)
        have ef_49 : aQ σ_s_41 (ad E_43 a 3) = f_1 := by rw [hX9.ad2 h_a (by decide) 3]; exact eq_46
        obtain ⟨_, hc_50⟩ := hO.cell hp_48 (by decide) (ci := 10) rfl
        refine th_calli (va_runV (As := [.int (I z_42)]) (rest := []) ⟨hx, hb, hml, hown, hts⟩ (q_actDone l G y b0 σ_s_41 E_43 hO a hp_48 z_42 (show rng z_42 from rz_42)) (cwV 1 hts gX10_append_X10_actDone rfl rfl rfl (by decide +kernel) ⟨Nat.le_of_ble_eq_true rfl, Nat.le_of_ble_eq_true rfl⟩) (th_PV hK hH rfl hc_50) rfl rfl hl.1 rfl (lv_room (Nat.le_of_ble_eq_true rfl)) dX10_append_69 ⟨Nat.le_of_ble_eq_true rfl, Nat.le_of_ble_eq_true rfl⟩) hS (fun z_53 σ_s_52 H locs rz_53 hw_51 hH hS => ?_)
        obtain ⟨hO9, hF9, hw_51⟩ := hw_51
        have e_54 : gI σ_s_52 a 1 = z_25 := (fr.ki hO hF9 hp_48 (by decide) (by decide) _).trans e_44
        have e_55 : gI σ_s_52 a 2 = z_27 := (fr.ki hO hF9 hp_48 (by decide) (by decide) _).trans e_45
        have eq_56 : aQ σ_s_52 (ad E_43 a 3) = f_1 := (fr.aq hO hF9 hp_48 (by decide) (by decide) k12_3).trans ef_49
        replace hO := hO9
        replace hF := hF.ex hX hF9 (by decide)
        refine vx_ret ?_
        exact th_iret hx hb hr hlocks hH hS (z := z_53) rz_53 ⟨E_43, hX, hO, hF, ⟨by omega, ((congrArg (aQ σ_s_52) (hX.ad2 h_a (by decide) 3)).symm.trans (eq_56.trans h0q.symm)), fun _ => by obtain ⟨T, p, h7, h8, h9⟩ := hw_22.2.2; exact ⟨T, _, p, h7, h8, by omega⟩, fun h9 => absurd (by rw [← hw_9]; rfl) h9⟩⟩ dX10_append_72
      · replace c_30 := mt (I_eq (a := z_24) (b := 0) rz_24 (show rng 0 from ⟨by decide, by decide⟩)).mpr c_30
        refine lv_bipush (v := I (-2)) hx hb dX10_append_41 (by decide) ?_
        refine vx_ret ?_
        refine W.widen (k := 5) (n := 245) (Nat.le_of_ble_eq_true rfl) (Nat.le_of_ble_eq_true rfl) ?_
        exact th_iret hx hb hr hlocks hH hS (z := (-2)) (show rng (-2) from ⟨by decide, by decide⟩) ⟨E, hX, hO, hF, ⟨by omega, (eq_29.trans h0q.symm), fun _ => by obtain ⟨T, p, h7, h8, h9⟩ := hw_22.2.2; exact ⟨T, _, p, h7, h8, by omega⟩, fun h9 => absurd (by rw [← hw_9]; rfl) h9⟩⟩ dX10_append_43
  · replace c_7 := (I_eq (a := z_6) (b := 0) rz_6 (show rng 0 from ⟨by decide, by decide⟩)).mp c_7
    exact th_throwI (text := "the tape has not so many bytes") hx hb hl0 hown hts (by first | exact fun w h => List.mem_cons_of_mem _ (List.mem_append_right _ h) | exact fun w h => List.mem_cons_of_mem _ (List.mem_append_left _ (List.mem_append_right _ h)) | decide +kernel) (by decide +kernel) (by decide +kernel) hXs hS hH (hl.1.trans hml.symm) htab hlocks (List.mem_of_getElem? (i := 0) rfl) dX10_append_8 dX10_append_11 dX10_append_12 dX10_append_14 dX10_append_17 (Nat.le_of_ble_eq_true rfl) (Nat.le_of_ble_eq_true rfl) (Nat.le_of_ble_eq_true rfl) (Nat.le_of_ble_eq_true rfl) ⟨E, hX, hO, hF, ⟨rfl, by omega, by omega, by omega, rfl, rfl⟩⟩ (Nat.le_of_ble_eq_true rfl) (Nat.le_of_ble_eq_true rfl)

set_option maxHeartbeats 4000000 in
set_option maxRecDepth 100000 in
theorem x8_key (l : Launch) (hl0 : l.stackTraces = false) (G : va_G) (y : Nat → ClassId) (b0 : Nat) (σ : th_M) (E : th_E) (hO : ok y E σ) (a : Nat) (h_a : kd E a = 12) (i : Int) (ri : rng i) (j : Int) (rj : rng j) (n : Int) (rn : rng n) (hy0 : ∀ k : Int, 0 ≤ k → k < gI σ a 1 → 0 ≤ (aF σ (ad E a 0) k.toNat).toInt ∧ (aF σ (ad E a 0) k.toNat).toInt ≤ 255) (hy1 : ad E (ad E a 6) 0 = ad E a 5) : vx_Met l yX10_key wsX10_key ({ frames := 47, cells := 5, slots := 245, locals := 1760 }) (th_PX G y b0 σ [.ref a, .int (I i), .int (I j), .int (I n)]) (th_Qi G b0 (fun r σ1 => ∃ E1, ext E E1 ∧ ok y E1 σ1 ∧ fr [12, 5, 3, 1, 2, 6] E σ σ1 ∧ (((0 ≤ n ∧ n ≤ gI σ a 1) ∧ gI σ1 a 1 = 0) ∧ aQ σ1 (ad E a 3) = aQ σ (ad E a 3) ∧ (((pAt σ E a i).isSome = true ∧ isW j) → ∃ T v p, tkSt (byf (aF σ (ad E a 0)) n) T ∧ TopR T v p ∧ gI σ1 a 2 = p) ∧ (¬ ((pAt σ E a i).isSome = true ∧ isW j) → gI σ1 a 2 = gI σ a 2)))) (th_XX G b0 (fun X σ1 => ∃ E1, ext E E1 ∧ ok y E1 σ1 ∧ fr [12, 5, 3, 1, 2, 6] E σ σ1 ∧ (X = nq_IAE ∧ ¬ (0 ≤ n ∧ n ≤ gI σ a 1) ∧ gI σ1 a 1 = gI σ a 1 ∧ gI σ1 a 2 = gI σ a 2 ∧ aF σ1 (ad E a 0) = aF σ (ad E a 0) ∧ aQ σ1 (ad E a 3) = aQ σ (ad E a 3)))) 5 245 (th_A b0) := by
  refine vx_ofW (cc := cX10_key) (maxL := 5) (ret := (some .int)) (by decide) rfl ?_
  intro p e s m args below meth c s₁ B hml htab hv
  obtain ⟨rfl, hH, hK, hXs⟩ := hv
  have hx := B.exec
  have hb := B.bytes
  have hr := B.returns
  have hts := atoms_spec (ws := wsX10_key) B.pre
  have hown : s.vm.findClass RX10 = some m.cls := findClass_of_methodNamed B.named
  have hlocks := B.notSynchronized
  have h00 : b0 ≤ s.heap.size := hH.1
  have hS : va_S (th_A b0) s.heap s.heap [] := va_S.rf
  have hF : fr [12, 5, 3, 1, 2, 6] E σ σ := fr.rf
  have hX : ext E E := ext.rf
  have inX10 : ∀ w ∈ wsX100, w ∈ wsX10_key := by decide +kernel
  have inX6 : ∀ w ∈ wsX60, w ∈ wsX10_key := by decide +kernel
  have fl0 := hts (.fieldLink RX10 75 "NestQuery" "acts" "LNestQuery$Acts;") (by decide +kernel)
  have fl1 := hts (.fieldLink RX10 63 "NestQuery" "now" "LNestQuery$State;") (by decide +kernel)
  have fl2 := hts (.fieldLink RX10 56 "NestQuery" "data" "LNestQuery$Tree;") (by decide +kernel)
  have hl := lv_entry ([.ref a, .int (I i), .int (I j), .int (I n)]) (n := 5) (Nat.le_of_ble_eq_true rfl)
  rw [lg_entry_eq]
  generalize (lg_sl ([.ref a, .int (I i), .int (I j), .int (I n)]) ++ List.replicate (5 - (lg_sl ([.ref a, .int (I i), .int (I j), .int (I n)])).length) Slot.unset).toArray = ls at hl ⊢
  have hl : lv_has ls 5 [(0, .ref a), (1, .int (I i)), (2, .int (I j)), (3, .int (I n))] := hl
  obtain ⟨a10, ea10, ra10, la10, ua10⟩ := hO.gi h_a (by decide) k12_1
  obtain ⟨a20, ea20, ra20, la20, ua20⟩ := hO.gi h_a (by decide) k12_2
  obtain ⟨f_1, eq_2⟩ : ∃ f9, aQ σ (ad E a 3) = f9 := ⟨_, rfl⟩
  have h0q := eq_2
  refine lv_aload_n hx hb dX10_key_0 rfl (lv_at hl 0 rfl) ?_
  refine lv_iload_n hx hb dX10_key_1 rfl (lv_at hl 3 rfl) ?_
  obtain ⟨_, hc_3⟩ := hO.cell h_a (by decide) (ci := 10) rfl
  refine th_calli (va_runV (As := [.int (I n)]) (rest := []) ⟨hx, hb, hml, hown, hts⟩ (q_tapeHas l G y b0 σ E hO a h_a n (show rng n from rn)) (cwV 1 hts gX10_key_X10_tapeHas rfl rfl rfl (by decide +kernel) ⟨Nat.le_of_ble_eq_true rfl, Nat.le_of_ble_eq_true rfl⟩) (th_PV hK hH rfl hc_3) rfl rfl hl.1 rfl (lv_room (Nat.le_of_ble_eq_true rfl)) dX10_key_2 ⟨Nat.le_of_ble_eq_true rfl, Nat.le_of_ble_eq_true rfl⟩) hS (fun z_6 σ_s_5 H locs rz_6 hw_4 hH hS => ?_)
  obtain ⟨e9, bhw_4, hw_4⟩ := hw_4
  replace e9 := e9.symm
  subst e9
  replace hw_4 : (z_6 = 1 ∧ 0 ≤ n ∧ n ≤ gI σ a 1) ∨ (z_6 = 0 ∧ ¬ (0 ≤ n ∧ n ≤ gI σ a 1)) := hw_4
  refine lv_if_ne (tgt := 18) hx hb dX10_key_5 (by decide) (fun c_7 => ?_) (fun c_7 => ?_)
  · replace c_7 := mt (I_eq (a := z_6) (b := 0) rz_6 (show rng 0 from ⟨by decide, by decide⟩)).mpr c_7
    refine lv_aload_n hx hb dX10_key_18 rfl (lv_at hl 0 rfl) ?_
    refine lv_iload_n hx hb dX10_key_19 rfl (lv_at hl 1 rfl) ?_
    obtain ⟨_, hc_8⟩ := hO.cell h_a (by decide) (ci := 10) rfl
    refine th_callq (va_runV (As := [.int (I i)]) (rest := []) ⟨hx, hb, hml, hown, hts⟩ (q8_pathAt l G y b0 σ E hO a h_a i (show rng i from ri)) (cwV 1 hts gX10_key_X10_pathAt rfl rfl rfl (by decide +kernel) ⟨Nat.le_of_ble_eq_true rfl, Nat.le_of_ble_eq_true rfl⟩) (th_PV hK hH rfl hc_8) rfl rfl hl.1 rfl (lv_room (Nat.le_of_ble_eq_true rfl)) dX10_key_20 ⟨Nat.le_of_ble_eq_true rfl, Nat.le_of_ble_eq_true rfl⟩) hS (fun x_11 σ_s_10 H locs hw_9 hH hS => ?_)
    obtain ⟨e9, khw_9, hw_9⟩ := hw_9
    replace e9 := e9.symm
    subst e9
    replace hw_9 : x_11 = pAt σ E a i := hw_9
    cases x_11 with
    | none =>
      refine lv_astoreN (lv' := [(4, .null), (0, .ref a), (1, .int (I i)), (2, .int (I j)), (3, .int (I n))]) hx hb dX10_key_23 hl (by decide) rfl (fun ls hl => ?_)
      refine lv_aloadN hx hb dX10_key_25 (lv_at hl 0 rfl) ?_
      refine lv_ifnullN (tgt := 37) hx hb dX10_key_27 (by decide) ?_
      refine lv_aload_n hx hb dX10_key_37 rfl (lv_at hl 1 rfl) ?_
      obtain ⟨_, hc_14⟩ := hO.cell h_a (by decide) (ci := 10) rfl
      refine th_calli (va_runV (As := []) (rest := []) ⟨hx, hb, hml, hown, hts⟩ (q_unread l G y b0 σ E hO a h_a) (cwV 0 hts gX10_key_X10_refusedUnread rfl rfl rfl (by decide +kernel) ⟨Nat.le_of_ble_eq_true rfl, Nat.le_of_ble_eq_true rfl⟩) (th_PV hK hH rfl hc_14) rfl rfl hl.1 rfl (lv_room (Nat.le_of_ble_eq_true rfl)) dX10_key_38 ⟨Nat.le_of_ble_eq_true rfl, Nat.le_of_ble_eq_true rfl⟩) hS (fun z_17 σ_s_16 H locs rz_17 hw_15 hH hS => ?_)
      obtain ⟨hO9, hF9, hw_15⟩ := hw_15
      replace hO := hO9
      replace hF := hF.ex hX hF9 (by decide)
      replace hw_15 : (gI σ_s_16 a 2 = gI σ a 2 ∧ gI σ_s_16 a 1 = 0) ∧ aF σ_s_16 (ad E a 0) = aF σ (ad E a 0) ∧ aQ σ_s_16 (ad E a 3) = aQ σ (ad E a 3) := hw_15
      have eq_18 : aQ σ_s_16 (ad E a 3) = f_1 := (hw_15.2.2).trans eq_2
      obtain ⟨z_19, e_20, rz_19, lz_19, uz_19⟩ := hO.gi h_a (by decide) k12_2
      refine vx_ret ?_
      refine W.widen (k := 5) (n := 245) (Nat.le_of_ble_eq_true rfl) (Nat.le_of_ble_eq_true rfl) ?_
      exact th_iret hx hb hr hlocks hH hS (z := z_17) rz_17 ⟨E, hX, hO, hF, ⟨by omega, (eq_18.trans h0q.symm), fun h9 => (by have h8 := h9.1; rw [← hw_9] at h8; cases h8), fun _ => by omega⟩⟩ dX10_key_41
    | some b_12 =>
      have hb_13 : kd E b_12 = 4 := khw_9 b_12 rfl
      refine lv_astore (lv' := [(4, .ref b_12), (0, .ref a), (1, .int (I i)), (2, .int (I j)), (3, .int (I n))]) hx hb dX10_key_23 hl (by decide) rfl (fun ls hl => ?_)
      refine lv_aload hx hb dX10_key_25 (lv_at hl 0 rfl) ?_
      refine lv_ifnull hx hb dX10_key_27 ?_
      refine lv_iload_n hx hb dX10_key_30 rfl (lv_at hl 3 rfl) ?_
      refine th_calli (va_runS (As := [.int (I j)]) (rest := []) ⟨hx, hb, hml, hown, hts⟩ (n8_isWord l G y b0 σ E hO j (show rng j from rj)) (va_cwS 1 hts gX10_key_X10_isWord rfl rfl rfl (by decide +kernel) ⟨Nat.le_of_ble_eq_true rfl, Nat.le_of_ble_eq_true rfl⟩) (th_PS hK hH) rfl rfl hl.1 rfl (lv_room (Nat.le_of_ble_eq_true rfl)) dX10_key_31 ⟨Nat.le_of_ble_eq_true rfl, Nat.le_of_ble_eq_true rfl⟩) hS (fun z_23 σ_s_22 H locs rz_23 hw_21 hH hS => ?_)
      obtain ⟨e9, bhw_21, hw_21⟩ := hw_21
      replace e9 := e9.symm
      subst e9
      replace hw_21 : (z_23 = 1 ∧ isW j) ∨ (z_23 = 0 ∧ ¬ isW j) := hw_21
      refine lv_if_ne (tgt := 42) hx hb dX10_key_34 (by decide) (fun c_24 => ?_) (fun c_24 => ?_)
      · replace c_24 := mt (I_eq (a := z_23) (b := 0) rz_23 (show rng 0 from ⟨by decide, by decide⟩)).mpr c_24
        refine lv_aload_n hx hb dX10_key_42 rfl (lv_at hl 1 rfl) ?_
        refine lv_iload_n hx hb dX10_key_43 rfl (lv_at hl 4 rfl) ?_
        obtain ⟨_, hc_25⟩ := hO.cell h_a (by decide) (ci := 10) rfl
        refine th_calli (va_runV (As := [.int (I n)]) (rest := []) ⟨hx, hb, hml, hown, hts⟩ (q8_readData l G y b0 σ E hO a h_a n (show rng n from rn) (hy0) (by omega) (hy1)) (cwV 1 hts gX10_key_X10_readData rfl rfl rfl (by decide +kernel) ⟨Nat.le_of_ble_eq_true rfl, Nat.le_of_ble_eq_true rfl⟩) (th_PV hK hH rfl hc_25) rfl rfl hl.1 rfl (lv_room (Nat.le_of_ble_eq_true rfl)) dX10_key_44 ⟨Nat.le_of_ble_eq_true rfl, Nat.le_of_ble_eq_true rfl⟩) hS (fun z_28 σ_s_27 H locs rz_28 hw_26 hH hS => ?_)
        obtain ⟨hO9, hF9, hw_26⟩ := hw_26
        replace hO := hO9
        replace hF := hF.ex hX hF9 (by decide)
        replace hw_26 : gI σ_s_27 a 1 = 0 ∧ aQ σ_s_27 (ad E a 3) = aQ σ (ad E a 3) ∧ ∃ T p, tkSt (byf (aF σ (ad E a 0)) n) T ∧ TopR T z_28 p ∧ gI σ_s_27 a 2 = p := hw_26
        obtain ⟨z_29, e_30, rz_29, lz_29, uz_29⟩ := hO.gi h_a (by decide) k12_1
        obtain ⟨z_31, e_32, rz_31, lz_31, uz_31⟩ := hO.gi h_a (by decide) k12_2
        have eq_33 : aQ σ_s_27 (ad E a 3) = f_1 := (hw_26.2.1).trans eq_2
        refine lv_if_eq (tgt := 53) hx hb dX10_key_47 (by decide) (fun c_34 => ?_) (fun c_34 => ?_)
        · replace c_34 := (I_eq (a := z_28) (b := 0) rz_28 (show rng 0 from ⟨by decide, by decide⟩)).mp c_34
          refine lv_aload_n hx hb dX10_key_53 rfl (lv_at hl 1 rfl) ?_
          refine lv_aload_n hx hb dX10_key_54 rfl (lv_at hl 1 rfl) ?_
          have hp_35 : kd E (ad E a 12) = 6 := ok.pk hO h_a (by decide) k12_12 rfl
          refine ok.getR hO h_a (by decide) k12_12 (by decide) (fun _ _ he hv kk => th_get (ci := 10) (C := RX10) (T := TX10) (N := 18) hx hb hts inX10 hown hK hH he rfl 12 (by decide) fl0 hv dX10_key_55 kk) ?_
          refine lv_aload hx hb dX10_key_58 (lv_at hl 0 rfl) ?_
          refine lv_aload_n hx hb dX10_key_60 rfl (lv_at hl 1 rfl) ?_
          have hp_36 : kd E (ad E a 9) = 5 := ok.pk hO h_a (by decide) k12_9 rfl
          refine ok.getR hO h_a (by decide) k12_9 (by decide) (fun _ _ he hv kk => th_get (ci := 10) (C := RX10) (T := TX10) (N := 18) hx hb hts inX10 hown hK hH he rfl 9 (by decide) fl1 hv dX10_key_61 kk) ?_
          have hp_37 : kd E (ad E (ad E a 9) 0) = 1 := ok.pk hO hp_36 (by decide) k5_0 rfl
          refine ok.getR hO hp_36 (by decide) k5_0 (by decide) (fun _ _ he hv kk => th_getN (ci := 6) (C := RX6) (T := TX6) (N := 7) hx hb hts inX6 hown hK hH he rfl 0 (by decide) (nl_13 hK) hv dX10_key_64 kk) ?_
          refine lv_bipush (v := I 8) hx hb dX10_key_67 (by decide) ?_
          obtain ⟨_, hc_38⟩ := hO.cell hb_13 (by decide) (ci := 4) rfl
          refine th_calll (va_runV (As := [.ref (ad E (ad E a 9) 0), .int (I 8)]) (rest := [.ref (ad E a 12), .ref a]) ⟨hx, hb, hml, hown, hts⟩ (p_answersIn l G y b0 σ_s_27 E hO b_12 hb_13 (ad E (ad E a 9) 0) hp_37 8 (show rng 8 from (show rng 8 from ⟨by decide, by decide⟩))) (cwV 2 hts gX10_key_X4_answersIn rfl rfl rfl (by decide +kernel) ⟨Nat.le_of_ble_eq_true rfl, Nat.le_of_ble_eq_true rfl⟩) (th_PV hK hH rfl hc_38) rfl rfl hl.1 rfl (lv_room (Nat.le_of_ble_eq_true rfl)) dX10_key_69 ⟨Nat.le_of_ble_eq_true rfl, Nat.le_of_ble_eq_true rfl⟩) hS (fun w_41 σ_s_40 H locs hw_39 hH hS => ?_)
          obtain ⟨e9, hw_39⟩ := hw_39
          replace e9 := e9.symm
          subst e9
          refine lv_iload_n hx hb dX10_key_72 rfl (lv_at hl 3 rfl) ?_
          refine lv_aload_n hx hb dX10_key_73 rfl (lv_at hl 1 rfl) ?_
          have hp_42 : kd E (ad E a 8) = 1 := ok.pk hO h_a (by decide) k12_8 rfl
          refine ok.getR hO h_a (by decide) k12_8 (by decide) (fun _ _ he hv kk => th_get (ci := 10) (C := RX10) (T := TX10) (N := 18) hx hb hts inX10 hown hK hH he rfl 8 (by decide) fl2 hv dX10_key_74 kk) ?_
          obtain ⟨_, hc_43⟩ := hO.cell hp_35 (by decide) (ci := 0) rfl
          refine th_calli (va_runV (As := [.long w_41, .int (I j), .ref (ad E a 8)]) (rest := [.ref a]) ⟨hx, hb, hml, hown, hts⟩ (c_keyAll l G y b0 σ_s_27 E hO (ad E a 12) hp_35 w_41 j (show rng j from rj) (ad E a 8) hp_42) (cwV 3 hts gX10_key_X0_keyAll rfl rfl rfl (by decide +kernel) ⟨Nat.le_of_ble_eq_true rfl, Nat.le_of_ble_eq_true rfl⟩) (th_PV hK hH rfl hc_43) rfl rfl hl.1 rfl (lv_room (Nat.le_of_ble_eq_true rfl)) dX10_key_77 ⟨Nat.le_of_ble_eq_true rfl, Nat.le_of_ble_eq_true rfl⟩) hS (fun z_46 σ_s_45 H locs rz_46 hw_44 hH hS => ?_)
          obtain ⟨E_47, hX9, hO9, hF9, hw_44⟩ := hw_44
          have e_48 : gI σ_s_45 a 1 = z_29 := (fr.ki hO hF9 h_a (by decide) (by decide) _).trans e_30
          have e_49 : gI σ_s_45 a 2 = z_31 := (fr.ki hO hF9 h_a (by decide) (by decide) _).trans e_32
          have eq_50 : aQ σ_s_45 (ad E a 3) = f_1 := (fr.aq hO hF9 h_a (by decide) (by decide) k12_3).trans eq_33
          replace hO := hO9
          replace hF := hF.ex hX hF9 (by decide)
          replace hX := hX.tr hX9
          have hp_51 : kd E_47 b_12 = 4 := hX9.kd2 hb_13 (by decide)
          have hp_52 : kd E_47 a = 12 := hX9.kd2 h_a (by decide)
          have ef_53 : aQ σ_s_45 (ad E_47 a 3) = f_1 := by rw [hX9.ad2 h_a (by decide) 3]; exact eq_50
          obtain ⟨_, hc_54⟩ := hO.cell hp_52 (by decide) (ci := 10) rfl
          refine th_calli (va_runV (As := [.int (I z_46)]) (rest := []) ⟨hx, hb, hml, hown, hts⟩ (q_actDone l G y b0 σ_s_45 E_47 hO a hp_52 z_46 (show rng z_46 from rz_46)) (cwV 1 hts gX10_key_X10_actDone rfl rfl rfl (by decide +kernel) ⟨Nat.le_of_ble_eq_true rfl, Nat.le_of_ble_eq_true rfl⟩) (th_PV hK hH rfl hc_54) rfl rfl hl.1 rfl (lv_room (Nat.le_of_ble_eq_true rfl)) dX10_key_80 ⟨Nat.le_of_ble_eq_true rfl, Nat.le_of_ble_eq_true rfl⟩) hS (fun z_57 σ_s_56 H locs rz_57 hw_55 hH hS => ?_)
          obtain ⟨hO9, hF9, hw_55⟩ := hw_55
          have e_58 : gI σ_s_56 a 1 = z_29 := (fr.ki hO hF9 hp_52 (by decide) (by decide) _).trans e_48
          have e_59 : gI σ_s_56 a 2 = z_31 := (fr.ki hO hF9 hp_52 (by decide) (by decide) _).trans e_49
          have eq_60 : aQ σ_s_56 (ad E_47 a 3) = f_1 := (fr.aq hO hF9 hp_52 (by decide) (by decide) k12_3).trans ef_53
          replace hO := hO9
          replace hF := hF.ex hX hF9 (by decide)
          refine vx_ret ?_
          exact th_iret hx hb hr hlocks hH hS (z := z_57) rz_57 ⟨E_47, hX, hO, hF, ⟨by omega, ((congrArg (aQ σ_s_56) (hX.ad2 h_a (by decide) 3)).symm.trans (eq_60.trans h0q.symm)), fun _ => by obtain ⟨T, p, h7, h8, h9⟩ := hw_26.2.2; exact ⟨T, _, p, h7, h8, by omega⟩, fun h9 => absurd ⟨(by rw [← hw_9]; rfl), (hw_21.resolve_right (fun h8 => absurd h8.1 (by omega))).2⟩ h9⟩⟩ dX10_key_83
        · replace c_34 := mt (I_eq (a := z_28) (b := 0) rz_28 (show rng 0 from ⟨by decide, by decide⟩)).mpr c_34
          refine lv_bipush (v := I (-2)) hx hb dX10_key_50 (by decide) ?_
          refine vx_ret ?_
          refine W.widen (k := 5) (n := 245) (Nat.le_of_ble_eq_true rfl) (Nat.le_of_ble_eq_true rfl) ?_
          exact th_iret hx hb hr hlocks hH hS (z := (-2)) (show rng (-2) from ⟨by decide, by decide⟩) ⟨E, hX, hO, hF, ⟨by omega, (eq_33.trans h0q.symm), fun _ => by obtain ⟨T, p, h7, h8, h9⟩ := hw_26.2.2; exact ⟨T, _, p, h7, h8, by omega⟩, fun h9 => absurd ⟨(by rw [← hw_9]; rfl), (hw_21.resolve_right (fun h8 => absurd h8.1 (by omega))).2⟩ h9⟩⟩ dX10_key_52
      · replace c_24 := (I_eq (a := z_23) (b := 0) rz_23 (show rng 0 from ⟨by decide, by decide⟩)).mp c_24
        refine lv_aload_n hx hb dX10_key_37 rfl (lv_at hl 1 rfl) ?_
        obtain ⟨_, hc_61⟩ := hO.cell h_a (by decide) (ci := 10) rfl
        refine th_calli (va_runV (As := []) (rest := []) ⟨hx, hb, hml, hown, hts⟩ (q_unread l G y b0 σ E hO a h_a) (cwV 0 hts gX10_key_X10_refusedUnread rfl rfl rfl (by decide +kernel) ⟨Nat.le_of_ble_eq_true rfl, Nat.le_of_ble_eq_true rfl⟩) (th_PV hK hH rfl hc_61) rfl rfl hl.1 rfl (lv_room (Nat.le_of_ble_eq_true rfl)) dX10_key_38 ⟨Nat.le_of_ble_eq_true rfl, Nat.le_of_ble_eq_true rfl⟩) hS (fun z_64 σ_s_63 H locs rz_64 hw_62 hH hS => ?_)
        obtain ⟨hO9, hF9, hw_62⟩ := hw_62
        replace hO := hO9
        replace hF := hF.ex hX hF9 (by decide)
        replace hw_62 : (gI σ_s_63 a 2 = gI σ a 2 ∧ gI σ_s_63 a 1 = 0) ∧ aF σ_s_63 (ad E a 0) = aF σ (ad E a 0) ∧ aQ σ_s_63 (ad E a 3) = aQ σ (ad E a 3) := hw_62
        have eq_65 : aQ σ_s_63 (ad E a 3) = f_1 := (hw_62.2.2).trans eq_2
        obtain ⟨z_66, e_67, rz_66, lz_66, uz_66⟩ := hO.gi h_a (by decide) k12_2
        refine vx_ret ?_
        refine W.widen (k := 5) (n := 245) (Nat.le_of_ble_eq_true rfl) (Nat.le_of_ble_eq_true rfl) ?_
        exact th_iret hx hb hr hlocks hH hS (z := z_64) rz_64 ⟨E, hX, hO, hF, ⟨by omega, (eq_65.trans h0q.symm), fun h9 => absurd h9.2 (hw_21.resolve_left (fun h8 => absurd h8.1 (by omega))).2, fun _ => by omega⟩⟩ dX10_key_41
  · replace c_7 := (I_eq (a := z_6) (b := 0) rz_6 (show rng 0 from ⟨by decide, by decide⟩)).mp c_7
    exact th_throwI (text := "the tape has not so many bytes") hx hb hl0 hown hts (by first | exact fun w h => List.mem_cons_of_mem _ (List.mem_append_right _ h) | exact fun w h => List.mem_cons_of_mem _ (List.mem_append_left _ (List.mem_append_right _ h)) | decide +kernel) (by decide +kernel) (by decide +kernel) hXs hS hH (hl.1.trans hml.symm) htab hlocks (List.mem_of_getElem? (i := 0) rfl) dX10_key_8 dX10_key_11 dX10_key_12 dX10_key_14 dX10_key_17 (Nat.le_of_ble_eq_true rfl) (Nat.le_of_ble_eq_true rfl) (Nat.le_of_ble_eq_true rfl) (Nat.le_of_ble_eq_true rfl) ⟨E, hX, hO, hF, ⟨rfl, by omega, by omega, by omega, rfl, rfl⟩⟩ (Nat.le_of_ble_eq_true rfl) (Nat.le_of_ble_eq_true rfl)

set_option maxHeartbeats 4000000 in
set_option maxRecDepth 100000 in
theorem q8_layBytes (l : Launch) (G : va_G) (y : Nat → ClassId) (b0 : Nat) (σ : th_M) (E : th_E) (hO : ok y E σ) (a : Nat) (h_a : kd E a = 12) (x : Int) (rx : rng x) (hy0 : gI σ a 1 + 4 ≤ 400) : Met l yX10_layBytes wsX10_layBytes ({ frames := 0, cells := 0, slots := 0, locals := 0 }) (th_P G y b0 σ [.ref a, .int (I x)]) (th_Qv G b0 (fun σ1 => ok y E σ1 ∧ fr [12] E σ σ1 ∧ (gI σ1 a 1 = gI σ a 1 + 4 ∧ gI σ1 a 2 = gI σ a 2 ∧ lay4 (aF σ (ad E a 0)) (aF σ1 (ad E a 0)) (gI σ a 1) 4 x ∧ aQ σ1 (ad E a 3) = aQ σ (ad E a 3)))) 0 0 (th_A b0) := by
  refine Met.ofW (cc := cX10_layBytes) (maxL := 3) (ret := none) (by decide) rfl ?_
  intro p e s m args below meth c s₁ B hml hv
  obtain ⟨rfl, hH, hK⟩ := hv
  have hx := B.exec
  have hb := B.bytes
  have hr := B.returns
  have hts := atoms_spec (ws := wsX10_layBytes) B.pre
  have hown : s.vm.findClass RX10 = some m.cls := findClass_of_methodNamed B.named
  have hlocks := B.notSynchronized
  have h00 : b0 ≤ s.heap.size := hH.1
  have hS : va_S (th_A b0) s.heap s.heap [] := va_S.rf
  have hF : fr [12] E σ σ := fr.rf
  have inX10 : ∀ w ∈ wsX100, w ∈ wsX10_layBytes := by decide +kernel
  have fl0 := hts (.fieldLink RX10 114 "NestQuery" "tapeCount" "I") (by decide +kernel)
  have fl1 := hts (.fieldLink RX10 9 "NestQuery" "tape" "[I") (by decide +kernel)
  have hl := lv_entry ([.ref a, .int (I x)]) (n := 3) (Nat.le_of_ble_eq_true rfl)
  rw [lg_entry_eq]
  generalize (lg_sl ([.ref a, .int (I x)]) ++ List.replicate (3 - (lg_sl ([.ref a, .int (I x)])).length) Slot.unset).toArray = ls at hl ⊢
  have hl : lv_has ls 3 [(0, .ref a), (1, .int (I x))] := hl
  obtain ⟨a10, ea10, ra10, la10, ua10⟩ := hO.gi h_a (by decide) k12_1
  obtain ⟨a20, ea20, ra20, la20, ua20⟩ := hO.gi h_a (by decide) k12_2
  obtain ⟨f_1, eq_2⟩ : ∃ f9, aQ σ (ad E a 3) = f9 := ⟨_, rfl⟩
  have h0q := eq_2
  refine lv_bipush (v := I 24) hx hb dX10_layBytes_0 (by decide) ?_
  refine lv_istore_n (lv' := [(2, .int (I 24)), (0, .ref a), (1, .int (I x))]) hx hb dX10_layBytes_2 rfl hl (by decide) rfl (fun ls hl => ?_)
  refine th_loop (α := Int) (pc := 3) (fun x9 => (x9 + 8).toNat) (fun x9 σ9 H9 l9 ls9 => ok y E σ9 ∧ fr [12] E σ σ9 ∧ th_H G b0 σ9 H9 ∧ va_S (th_A b0) s.heap H9 l9 ∧ lv_has ls9 3 [(0, .ref a), (1, .int (I x)), (2, .int (I x9))] ∧ rng x9 ∧ (-8 ≤ x9) ∧ (x9 ≤ 24) ∧ (x9 % 8 = 0) ∧ (8 * gI σ9 a 1 = 8 * gI σ a 1 + 24 - x9) ∧ (lay4 (aF σ (ad E a 0)) (aF σ9 (ad E a 0)) (gI σ a 1) (gI σ9 a 1 - gI σ a 1) x) ∧ (gI σ9 a 2 = a20) ∧ (aQ σ9 (ad E a 3) = f_1)) ?_ (24) σ _ _ _ ⟨hO, hF, hH, hS, lv_sub hl [1, 2, 0] rfl, (show rng 24 from ⟨by decide, by decide⟩), by first | omega | (dsimp only; omega), by first | omega | (dsimp only; omega), by first | omega | (dsimp only; omega), by first | omega | (dsimp only; omega), (lay4.zero (by omega)), ea20, eq_2⟩
  intro x9 σ_J_42 H locs ls hI9 ihJ_42
  obtain ⟨v2q41, ex9⟩ : ∃ z, z = x9 := ⟨_, rfl⟩
  subst ex9
  obtain ⟨hO, hF, hH, hS, hl, rv2q41, J_42_0, J_42_1, J_42_2, J_42_3, J_42_4, J_42_5, J_42_6⟩ := hI9
  have hl : lv_has ls 3 [(0, .ref a), (1, .int (I x)), (2, .int (I v2q41))] := hl
  have rv2q41 : rng v2q41 := rv2q41
  replace J_42_0 : -8 ≤ v2q41 := J_42_0
  replace J_42_1 : v2q41 ≤ 24 := J_42_1
  replace J_42_2 : v2q41 % 8 = 0 := J_42_2
  replace J_42_3 : 8 * gI σ_J_42 a 1 = 8 * gI σ a 1 + 24 - v2q41 := J_42_3
  replace J_42_4 : lay4 (aF σ (ad E a 0)) (aF σ_J_42 (ad E a 0)) (gI σ a 1) (gI σ_J_42 a 1 - gI σ a 1) x := J_42_4
  replace J_42_5 : gI σ_J_42 a 2 = a20 := J_42_5
  replace J_42_6 : aQ σ_J_42 (ad E a 3) = f_1 := J_42_6
  obtain ⟨f_43, ef_44⟩ : ∃ f9, aF σ_J_42 (ad E a 0) = f9 := ⟨_, rfl⟩
  refine lv_iload_n hx hb dX10_layBytes_3 rfl (lv_at hl 2 rfl) ?_
  refine lv_if_lt (tgt := 56) hx hb dX10_layBytes_4 (by decide) (fun c_45 => ?_) (fun c_45 => ?_)
  · replace c_45 := (I_lt (a := v2q41) (b := 0) rv2q41 (show rng 0 from ⟨by decide, by decide⟩)).mp c_45
    exact th_vret hx hb hr hlocks hH hS ⟨hO, hF, ⟨by omega, by omega, by have h9 := J_42_4; rw [show gI σ_J_42 a 1 - gI σ a 1 = 4 by omega] at h9; exact h9, (J_42_6.trans h0q.symm)⟩⟩ dX10_layBytes_56
  · replace c_45 := mt (I_lt (a := v2q41) (b := 0) rv2q41 (show rng 0 from ⟨by decide, by decide⟩)).mpr c_45
    refine lv_aload_n hx hb dX10_layBytes_7 rfl (lv_at hl 0 rfl) ?_
    refine ok.getI hO h_a (by decide) k12_1 (fun _ _ he hv kk => th_get (ci := 10) (C := RX10) (T := TX10) (N := 18) hx hb hts inX10 hown hK hH he rfl 1 (by decide) fl0 hv dX10_layBytes_8 kk) (fun z_46 e_47 rz_46 lz_46 uz_46 => ?_)
    refine lv_if_lt (tgt := 50) hx hb dX10_layBytes_11 (by decide) (fun c_48 => ?_) (fun c_48 => ?_)
    · replace c_48 := (I_lt (a := z_46) (b := 0) rz_46 (show rng 0 from ⟨by decide, by decide⟩)).mp c_48
      refine lv_iinc (v := I (v2q41 + (-8))) (lv' := [(2, .int (I (v2q41 + (-8)))), (0, .ref a), (1, .int (I x))]) hx hb dX10_layBytes_50 hl (k := 2) rfl (I_add _ _) (by decide) rfl (fun ls hl => ?_)
      refine lv_goto (tgt := 3) hx hb dX10_layBytes_53 (by decide) ?_
      exact ihJ_42 (v2q41 + (-8)) σ_J_42 _ _ _ (by first | omega | (dsimp only; omega)) ⟨hO, hF, hH, hS, lv_sub hl [1, 2, 0] rfl, ⟨by first | omega | (dsimp only; omega), by first | omega | (dsimp only; omega)⟩, by first | omega | (dsimp only; omega), by first | omega | (dsimp only; omega), by first | omega | (dsimp only; omega), by first | omega | (dsimp only; omega), (by exfalso; omega), J_42_5, J_42_6⟩
    · replace c_48 := mt (I_lt (a := z_46) (b := 0) rz_46 (show rng 0 from ⟨by decide, by decide⟩)).mpr c_48
      refine lv_aload_n hx hb dX10_layBytes_14 rfl (lv_at hl 0 rfl) ?_
      refine ok.getIc hO h_a (by decide) k12_1 e_47 (fun _ _ he hv kk => th_get (ci := 10) (C := RX10) (T := TX10) (N := 18) hx hb hts inX10 hown hK hH he rfl 1 (by decide) fl0 hv dX10_layBytes_15 kk) ?_
      refine lv_sipush (v := I 400) hx hb dX10_layBytes_18 (by decide) ?_
      refine lv_icmp_ge (tgt := 50) hx hb dX10_layBytes_21 (by decide) (fun c_49 => ?_) (fun c_49 => ?_)
      · replace c_49 := (I_le (a := 400) (b := z_46) (show rng 400 from ⟨by decide, by decide⟩) rz_46).mp c_49
        refine lv_iinc (v := I (v2q41 + (-8))) (lv' := [(2, .int (I (v2q41 + (-8)))), (0, .ref a), (1, .int (I x))]) hx hb dX10_layBytes_50 hl (k := 2) rfl (I_add _ _) (by decide) rfl (fun ls hl => ?_)
        refine lv_goto (tgt := 3) hx hb dX10_layBytes_53 (by decide) ?_
        exact ihJ_42 (v2q41 + (-8)) σ_J_42 _ _ _ (by first | omega | (dsimp only; omega)) ⟨hO, hF, hH, hS, lv_sub hl [1, 2, 0] rfl, ⟨by first | omega | (dsimp only; omega), by first | omega | (dsimp only; omega)⟩, by first | omega | (dsimp only; omega), by first | omega | (dsimp only; omega), by first | omega | (dsimp only; omega), by first | omega | (dsimp only; omega), (by exfalso; omega), J_42_5, J_42_6⟩
      · replace c_49 := mt (I_le (a := 400) (b := z_46) (show rng 400 from ⟨by decide, by decide⟩) rz_46).mpr c_49
        refine lv_aload_n hx hb dX10_layBytes_24 rfl (lv_at hl 0 rfl) ?_
        refine ok.getR hO h_a (by decide) k12_0 (by decide) (fun _ _ he hv kk => th_get (ci := 10) (C := RX10) (T := TX10) (N := 18) hx hb hts inX10 hown hK hH he rfl 0 (by decide) fl1 hv dX10_layBytes_25 kk) ?_
        refine lv_aload_n hx hb dX10_layBytes_28 rfl (lv_at hl 0 rfl) ?_
        refine ok.getIc hO h_a (by decide) k12_1 e_47 (fun _ _ he hv kk => th_get (ci := 10) (C := RX10) (T := TX10) (N := 18) hx hb hts inX10 hown hK hH he rfl 1 (by decide) fl0 hv dX10_layBytes_29 kk) ?_
        refine lv_iload_n hx hb dX10_layBytes_32 rfl (lv_at hl 1 rfl) ?_
        refine lv_iload_n hx hb dX10_layBytes_33 rfl (lv_at hl 2 rfl) ?_
        refine lv_iushr hx hb dX10_layBytes_34 rfl ?_
        refine lv_sipush (v := I 255) hx hb dX10_layBytes_35 (by decide) ?_
        refine lv_iand hx hb dX10_layBytes_38 ?_
        refine th_sb (fun z_50 rz_50 hz_50 => ?_)
        have hrz_50 := sb_rng (I x) v2q41
        refine ok_iastw hx hb hK hH hS h00 hO h_a (by decide) k12_0 isA1 rz_46 (by omega) (by omega) rz_50 el1 dX10_layBytes_39 (fun σ_s_51 H locs hO hF9 hi9 ha9 hu9 hH hS => ?_)
        replace hF := hF.tu hF9 (by decide)
        have e_52 : gI σ_s_51 a 2 = a20 := (hi9 _ _).trans J_42_5
        have e_53 : gI σ_s_51 a 1 = z_46 := (hi9 _ _).trans e_47
        have eq_54 : aQ σ_s_51 (ad E a 3) = f_1 := (hu9.q (ok.qa hO h_a (by decide) k12_3 k12_0 isA1 (by decide))).trans J_42_6
        obtain ⟨g_55, dg_55⟩ : ∃ g9, g9 = upd f_43 (z_46).toNat (I z_50) := ⟨_, rfl⟩
        have ef_56 : aF σ_s_51 (ad E a 0) = g_55 := by rw [ha9.1, ef_44, dg_55]
        refine lv_aload_n hx hb dX10_layBytes_40 rfl (lv_at hl 0 rfl) ?_
        refine lv_dup hx hb dX10_layBytes_41 rfl ?_
        refine ok.getIc hO h_a (by decide) k12_1 e_53 (fun _ _ he hv kk => th_get (ci := 10) (C := RX10) (T := TX10) (N := 18) hx hb hts inX10 hown hK hH he rfl 1 (by decide) fl0 hv dX10_layBytes_42 kk) ?_
        refine lv_iconst (v := I 1) hx hb dX10_layBytes_45 (by decide) ?_
        refine lv_iadd hx hb dX10_layBytes_46 ?_
        refine nq_top (I_add _ _) ?_
        refine ok.putIw hO h_a (by decide) k12_1 ⟨by omega, by omega⟩ (by omega) (by omega) (fun _ he hl9 kk => th_put (ci := 10) (v := .int (I (z_46 + 1))) (ty := .int) (C := RX10) (T := TX10) (N := 18) hx hb hts inX10 tyX10 tyX10_ok nmX10 hown hK hH hS h00 he rfl 1 (by decide) fl0 rfl (by decide +kernel) rfl rfl hl9 dX10_layBytes_47 kk) (fun σ_s_57 H locs hO hF9 hg9 hi9 ha9 hu9 hH hS => ?_)
        replace hF := hF.tu hF9 (by decide)
        have e_58 : gI σ_s_57 a 2 = a20 := (hi9 _ _ (Or.inr (by decide))).trans e_52
        have ef_59 : aF σ_s_57 (ad E a 0) = g_55 := (ha9 _).trans ef_56
        have eq_60 : aQ σ_s_57 (ad E a 3) = f_1 := (hu9.q (ok.qo hO h_a (by decide) k12_3 (by decide))).trans eq_54
        have e_61 := hg9
        refine lv_iinc (v := I (v2q41 + (-8))) (lv' := [(2, .int (I (v2q41 + (-8)))), (0, .ref a), (1, .int (I x))]) hx hb dX10_layBytes_50 hl (k := 2) rfl (I_add _ _) (by decide) rfl (fun ls hl => ?_)
        refine lv_goto (tgt := 3) hx hb dX10_layBytes_53 (by decide) ?_
        exact ihJ_42 (v2q41 + (-8)) σ_s_57 _ _ _ (by first | omega | (dsimp only; omega)) ⟨hO, hF, hH, hS, lv_sub hl [1, 2, 0] rfl, ⟨by first | omega | (dsimp only; omega), by first | omega | (dsimp only; omega)⟩, by first | omega | (dsimp only; omega), by first | omega | (dsimp only; omega), by first | omega | (dsimp only; omega), by first | omega | (dsimp only; omega), (by have h9 := J_42_4; rw [ef_44] at h9; rw [ef_59]; exact lay4.step h9 dg_55 rz_50 (by omega) (by omega) (by omega) (by omega) (by omega) hz_50), e_58, eq_60⟩

set_option maxHeartbeats 4000000 in
set_option maxRecDepth 100000 in
theorem q8_feed (l : Launch) (G : va_G) (y : Nat → ClassId) (b0 : Nat) (σ : th_M) (E : th_E) (hO : ok y E σ) (a : Nat) (h_a : kd E a = 12) (w1 : Int) (rw1 : rng w1) (w2 : Int) (rw2 : rng w2) (w3 : Int) (rw3 : rng w3) (w4 : Int) (rw4 : rng w4) (w5 : Int) (rw5 : rng w5) : Met l yX10_feed wsX10_feed ({ frames := 1, cells := 0, slots := 0, locals := 26 }) (th_P G y b0 σ [.ref a, .int (I w1), .int (I w2), .int (I w3), .int (I w4), .int (I w5)]) (th_Qi G b0 (fun r σ1 => ok y E σ1 ∧ fr [12] E σ σ1 ∧ (((gI σ a 1 + 20 ≤ 400 ∧ gI σ1 a 1 = gI σ a 1 + 20 ∧ r = gI σ a 1 + 20) ∨ (¬ gI σ a 1 + 20 ≤ 400 ∧ gI σ1 a 1 = gI σ a 1 ∧ r = -1)) ∧ gI σ1 a 2 = gI σ a 2 ∧ (gI σ a 1 + 20 ≤ 400 → fdp (aF σ (ad E a 0)) (aF σ1 (ad E a 0)) (gI σ a 1) 20 w1 w2 w3 w4 w5) ∧ (¬ gI σ a 1 + 20 ≤ 400 → aF σ1 (ad E a 0) = aF σ (ad E a 0)) ∧ aQ σ1 (ad E a 3) = aQ σ (ad E a 3)))) 0 0 (th_A b0) := by
  refine Met.ofW (cc := cX10_feed) (maxL := 6) (ret := (some .int)) (by decide) rfl ?_
  intro p e s m args below meth c s₁ B hml hv
  obtain ⟨rfl, hH, hK⟩ := hv
  have hx := B.exec
  have hb := B.bytes
  have hr := B.returns
  have hts := atoms_spec (ws := wsX10_feed) B.pre
  have hown : s.vm.findClass RX10 = some m.cls := findClass_of_methodNamed B.named
  have hlocks := B.notSynchronized
  have h00 : b0 ≤ s.heap.size := hH.1
  have hS : va_S (th_A b0) s.heap s.heap [] := va_S.rf
  have hF : fr [12] E σ σ := fr.rf
  have inX10 : ∀ w ∈ wsX100, w ∈ wsX10_feed := by decide +kernel
  have fl0 := hts (.fieldLink RX10 114 "NestQuery" "tapeCount" "I") (by decide +kernel)
  have hl := lv_entry ([.ref a, .int (I w1), .int (I w2), .int (I w3), .int (I w4), .int (I w5)]) (n := 6) (Nat.le_of_ble_eq_true rfl)
  rw [lg_entry_eq]
  generalize (lg_sl ([.ref a, .int (I w1), .int (I w2), .int (I w3), .int (I w4), .int (I w5)]) ++ List.replicate (6 - (lg_sl ([.ref a, .int (I w1), .int (I w2), .int (I w3), .int (I w4), .int (I w5)])).length) Slot.unset).toArray = ls at hl ⊢
  have hl : lv_has ls 6 [(0, .ref a), (1, .int (I w1)), (2, .int (I w2)), (3, .int (I w3)), (4, .int (I w4)), (5, .int (I w5))] := hl
  obtain ⟨a10, ea10, ra10, la10, ua10⟩ := hO.gi h_a (by decide) k12_1
  obtain ⟨a20, ea20, ra20, la20, ua20⟩ := hO.gi h_a (by decide) k12_2
  obtain ⟨f_1, eq_2⟩ : ∃ f9, aQ σ (ad E a 3) = f9 := ⟨_, rfl⟩
  have h0q := eq_2
  refine lv_aload_n hx hb dX10_feed_0 rfl (lv_at hl 0 rfl) ?_
  refine ok.getIc hO h_a (by decide) k12_1 ea10 (fun _ _ he hv kk => th_get (ci := 10) (C := RX10) (T := TX10) (N := 18) hx hb hts inX10 hown hK hH he rfl 1 (by decide) fl0 hv dX10_feed_1 kk) ?_
  refine lv_bipush (v := I 20) hx hb dX10_feed_4 (by decide) ?_
  refine lv_iadd hx hb dX10_feed_6 ?_
  refine nq_top (I_add _ _) ?_
  refine lv_sipush (v := I 400) hx hb dX10_feed_7 (by decide) ?_
  refine lv_icmp_le (tgt := 15) hx hb dX10_feed_10 (by decide) (fun c_3 => ?_) (fun c_3 => ?_)
  · replace c_3 := (I_le (a := a10 + 20) (b := 400) ⟨by omega, by omega⟩ (show rng 400 from ⟨by decide, by decide⟩)).mp c_3
    refine lv_aload_n hx hb dX10_feed_15 rfl (lv_at hl 0 rfl) ?_
    refine lv_iload_n hx hb dX10_feed_16 rfl (lv_at hl 1 rfl) ?_
    obtain ⟨_, hc_4⟩ := hO.cell h_a (by decide) (ci := 10) rfl
    refine th_callv (va_runV (As := [.int (I w1)]) (rest := []) ⟨hx, hb, hml, hown, hts⟩ (q8_layBytes l G y b0 σ E hO a h_a w1 (show rng w1 from rw1) (by omega)) (cwV 1 hts gX10_feed_X10_layBytes rfl rfl rfl (by decide +kernel) ⟨Nat.le_of_ble_eq_true rfl, Nat.le_of_ble_eq_true rfl⟩) (th_PV hK hH rfl hc_4) rfl rfl hl.1 rfl (lv_room (Nat.le_of_ble_eq_true rfl)) dX10_feed_17 ⟨Nat.le_of_ble_eq_true rfl, Nat.le_of_ble_eq_true rfl⟩) hS (fun σ_s_6 H locs hw_5 hH hS => ?_)
    obtain ⟨hO9, hF9, hw_5⟩ := hw_5
    replace hO := hO9
    replace hF := hF.tu hF9 (by decide)
    replace hw_5 : gI σ_s_6 a 1 = gI σ a 1 + 4 ∧ gI σ_s_6 a 2 = gI σ a 2 ∧ lay4 (aF σ (ad E a 0)) (aF σ_s_6 (ad E a 0)) (gI σ a 1) 4 w1 ∧ aQ σ_s_6 (ad E a 3) = aQ σ (ad E a 3) := hw_5
    have eq_7 : aQ σ_s_6 (ad E a 3) = f_1 := (hw_5.2.2.2).trans eq_2
    obtain ⟨z_8, e_9, rz_8, lz_8, uz_8⟩ := hO.gi h_a (by decide) k12_2
    refine lv_aload_n hx hb dX10_feed_20 rfl (lv_at hl 0 rfl) ?_
    refine lv_iload_n hx hb dX10_feed_21 rfl (lv_at hl 2 rfl) ?_
    obtain ⟨_, hc_10⟩ := hO.cell h_a (by decide) (ci := 10) rfl
    refine th_callv (va_runV (As := [.int (I w2)]) (rest := []) ⟨hx, hb, hml, hown, hts⟩ (q8_layBytes l G y b0 σ_s_6 E hO a h_a w2 (show rng w2 from rw2) (by omega)) (cwV 1 hts gX10_feed_X10_layBytes rfl rfl rfl (by decide +kernel) ⟨Nat.le_of_ble_eq_true rfl, Nat.le_of_ble_eq_true rfl⟩) (th_PV hK hH rfl hc_10) rfl rfl hl.1 rfl (lv_room (Nat.le_of_ble_eq_true rfl)) dX10_feed_22 ⟨Nat.le_of_ble_eq_true rfl, Nat.le_of_ble_eq_true rfl⟩) hS (fun σ_s_12 H locs hw_11 hH hS => ?_)
    obtain ⟨hO9, hF9, hw_11⟩ := hw_11
    replace hO := hO9
    replace hF := hF.tu hF9 (by decide)
    replace hw_11 : gI σ_s_12 a 1 = gI σ_s_6 a 1 + 4 ∧ gI σ_s_12 a 2 = gI σ_s_6 a 2 ∧ lay4 (aF σ_s_6 (ad E a 0)) (aF σ_s_12 (ad E a 0)) (gI σ_s_6 a 1) 4 w2 ∧ aQ σ_s_12 (ad E a 3) = aQ σ_s_6 (ad E a 3) := hw_11
    have eq_13 : aQ σ_s_12 (ad E a 3) = f_1 := (hw_11.2.2.2).trans eq_7
    obtain ⟨z_14, e_15, rz_14, lz_14, uz_14⟩ := hO.gi h_a (by decide) k12_2
    refine lv_aload_n hx hb dX10_feed_25 rfl (lv_at hl 0 rfl) ?_
    refine lv_iload_n hx hb dX10_feed_26 rfl (lv_at hl 3 rfl) ?_
    obtain ⟨_, hc_16⟩ := hO.cell h_a (by decide) (ci := 10) rfl
    refine th_callv (va_runV (As := [.int (I w3)]) (rest := []) ⟨hx, hb, hml, hown, hts⟩ (q8_layBytes l G y b0 σ_s_12 E hO a h_a w3 (show rng w3 from rw3) (by omega)) (cwV 1 hts gX10_feed_X10_layBytes rfl rfl rfl (by decide +kernel) ⟨Nat.le_of_ble_eq_true rfl, Nat.le_of_ble_eq_true rfl⟩) (th_PV hK hH rfl hc_16) rfl rfl hl.1 rfl (lv_room (Nat.le_of_ble_eq_true rfl)) dX10_feed_27 ⟨Nat.le_of_ble_eq_true rfl, Nat.le_of_ble_eq_true rfl⟩) hS (fun σ_s_18 H locs hw_17 hH hS => ?_)
    obtain ⟨hO9, hF9, hw_17⟩ := hw_17
    replace hO := hO9
    replace hF := hF.tu hF9 (by decide)
    replace hw_17 : gI σ_s_18 a 1 = gI σ_s_12 a 1 + 4 ∧ gI σ_s_18 a 2 = gI σ_s_12 a 2 ∧ lay4 (aF σ_s_12 (ad E a 0)) (aF σ_s_18 (ad E a 0)) (gI σ_s_12 a 1) 4 w3 ∧ aQ σ_s_18 (ad E a 3) = aQ σ_s_12 (ad E a 3) := hw_17
    have eq_19 : aQ σ_s_18 (ad E a 3) = f_1 := (hw_17.2.2.2).trans eq_13
    obtain ⟨z_20, e_21, rz_20, lz_20, uz_20⟩ := hO.gi h_a (by decide) k12_2
    refine lv_aload_n hx hb dX10_feed_30 rfl (lv_at hl 0 rfl) ?_
    refine lv_iload hx hb dX10_feed_31 (lv_at hl 4 rfl) ?_
    obtain ⟨_, hc_22⟩ := hO.cell h_a (by decide) (ci := 10) rfl
    refine th_callv (va_runV (As := [.int (I w4)]) (rest := []) ⟨hx, hb, hml, hown, hts⟩ (q8_layBytes l G y b0 σ_s_18 E hO a h_a w4 (show rng w4 from rw4) (by omega)) (cwV 1 hts gX10_feed_X10_layBytes rfl rfl rfl (by decide +kernel) ⟨Nat.le_of_ble_eq_true rfl, Nat.le_of_ble_eq_true rfl⟩) (th_PV hK hH rfl hc_22) rfl rfl hl.1 rfl (lv_room (Nat.le_of_ble_eq_true rfl)) dX10_feed_33 ⟨Nat.le_of_ble_eq_true rfl, Nat.le_of_ble_eq_true rfl⟩) hS (fun σ_s_24 H locs hw_23 hH hS => ?_)
    obtain ⟨hO9, hF9, hw_23⟩ := hw_23
    replace hO := hO9
    replace hF := hF.tu hF9 (by decide)
    replace hw_23 : gI σ_s_24 a 1 = gI σ_s_18 a 1 + 4 ∧ gI σ_s_24 a 2 = gI σ_s_18 a 2 ∧ lay4 (aF σ_s_18 (ad E a 0)) (aF σ_s_24 (ad E a 0)) (gI σ_s_18 a 1) 4 w4 ∧ aQ σ_s_24 (ad E a 3) = aQ σ_s_18 (ad E a 3) := hw_23
    have eq_25 : aQ σ_s_24 (ad E a 3) = f_1 := (hw_23.2.2.2).trans eq_19
    obtain ⟨z_26, e_27, rz_26, lz_26, uz_26⟩ := hO.gi h_a (by decide) k12_2
    refine lv_aload_n hx hb dX10_feed_36 rfl (lv_at hl 0 rfl) ?_
    refine lv_iload hx hb dX10_feed_37 (lv_at hl 5 rfl) ?_
    obtain ⟨_, hc_28⟩ := hO.cell h_a (by decide) (ci := 10) rfl
    refine th_callv (va_runV (As := [.int (I w5)]) (rest := []) ⟨hx, hb, hml, hown, hts⟩ (q8_layBytes l G y b0 σ_s_24 E hO a h_a w5 (show rng w5 from rw5) (by omega)) (cwV 1 hts gX10_feed_X10_layBytes rfl rfl rfl (by decide +kernel) ⟨Nat.le_of_ble_eq_true rfl, Nat.le_of_ble_eq_true rfl⟩) (th_PV hK hH rfl hc_28) rfl rfl hl.1 rfl (lv_room (Nat.le_of_ble_eq_true rfl)) dX10_feed_39 ⟨Nat.le_of_ble_eq_true rfl, Nat.le_of_ble_eq_true rfl⟩) hS (fun σ_s_30 H locs hw_29 hH hS => ?_)
    obtain ⟨hO9, hF9, hw_29⟩ := hw_29
    replace hO := hO9
    replace hF := hF.tu hF9 (by decide)
    replace hw_29 : gI σ_s_30 a 1 = gI σ_s_24 a 1 + 4 ∧ gI σ_s_30 a 2 = gI σ_s_24 a 2 ∧ lay4 (aF σ_s_24 (ad E a 0)) (aF σ_s_30 (ad E a 0)) (gI σ_s_24 a 1) 4 w5 ∧ aQ σ_s_30 (ad E a 3) = aQ σ_s_24 (ad E a 3) := hw_29
    have eq_31 : aQ σ_s_30 (ad E a 3) = f_1 := (hw_29.2.2.2).trans eq_25
    obtain ⟨z_32, e_33, rz_32, lz_32, uz_32⟩ := hO.gi h_a (by decide) k12_2
    refine lv_aload_n hx hb dX10_feed_42 rfl (lv_at hl 0 rfl) ?_
    refine ok.getI hO h_a (by decide) k12_1 (fun _ _ he hv kk => th_get (ci := 10) (C := RX10) (T := TX10) (N := 18) hx hb hts inX10 hown hK hH he rfl 1 (by decide) fl0 hv dX10_feed_43 kk) (fun z_34 e_35 rz_34 lz_34 uz_34 => ?_)
    exact th_iret hx hb hr hlocks hH hS (z := z_34) rz_34 ⟨hO, hF, ⟨by omega, by omega, fun _ => lay4.fdp5 (by omega) hw_5.2.2.1 (by have h9 := hw_11.2.2.1; rw [show gI σ_s_6 a 1 = gI σ a 1 + 4 by omega] at h9; exact h9) (by have h9 := hw_17.2.2.1; rw [show gI σ_s_12 a 1 = gI σ a 1 + 8 by omega] at h9; exact h9) (by have h9 := hw_23.2.2.1; rw [show gI σ_s_18 a 1 = gI σ a 1 + 12 by omega] at h9; exact h9) (by have h9 := hw_29.2.2.1; rw [show gI σ_s_24 a 1 = gI σ a 1 + 16 by omega] at h9; exact h9), fun h9 => absurd (show gI σ a 1 + 20 ≤ 400 by omega) h9, (eq_31.trans h0q.symm)⟩⟩ dX10_feed_46
  · replace c_3 := mt (I_le (a := a10 + 20) (b := 400) ⟨by omega, by omega⟩ (show rng 400 from ⟨by decide, by decide⟩)).mpr c_3
    refine lv_iconst (v := I (-1)) hx hb dX10_feed_13 (by decide) ?_
    exact th_iret hx hb hr hlocks hH hS (z := (-1)) (show rng (-1) from ⟨by decide, by decide⟩) ⟨hO, hF, ⟨by omega, by omega, fun h9 => absurd h9 (by omega), fun _ => rfl, (eq_2.trans h0q.symm)⟩⟩ dX10_feed_14
