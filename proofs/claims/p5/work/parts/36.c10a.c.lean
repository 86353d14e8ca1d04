set_option maxHeartbeats 4000000 in
set_option maxRecDepth 100000 in
theorem m_tell (l : Launch) (G : va_G) (y : Nat → ClassId) (b0 : Nat) (σ : th_M) (E : th_E) (hO : ok y E σ) (a : Nat) (h_a : kd E a = 13) (ch : Int) (rch : rng ch) (hy0 : gI σ a 50 + 1 ≤ 2000) : Met l yX11_tell wsX11_tell ({ frames := 0, cells := 0, slots := 0, locals := 0 }) (th_P G y b0 σ [.ref a, .int (I ch)]) (th_Qv G b0 (fun σ1 => ok y E σ1 ∧ fr [13] E σ σ1 ∧ fm [49, 50] E σ σ1 a ∧ (gI σ1 a 50 = gI σ a 50 + 1))) 0 0 (th_A b0) := by
  refine Met.ofW (cc := cX11_tell) (maxL := 2) (ret := none) (by decide) rfl ?_
  intro p e s m args below meth c s₁ B hml hv
  obtain ⟨rfl, hH, hK⟩ := hv
  have hx := B.exec
  have hb := B.bytes
  have hr := B.returns
  have hts := atoms_spec (ws := wsX11_tell) B.pre
  have hown : s.vm.findClass RX11 = some m.cls := findClass_of_methodNamed B.named
  have hlocks := B.notSynchronized
  have h00 : b0 ≤ s.heap.size := hH.1
  have hS : va_S (th_A b0) s.heap s.heap [] := va_S.rf
  have hF : fr [13] E σ σ := fr.rf
  have hM : fm [49, 50] E σ σ a := fm.rf
  have inX11 : ∀ w ∈ wsX110, w ∈ wsX11_tell := by decide +kernel
  have fl0 := hts (.fieldLink RX11 78 "NestQueryModel" "out" "[I") (by decide +kernel)
  have fl1 := hts (.fieldLink RX11 471 "NestQueryModel" "outMany" "I") (by decide +kernel)
  have hl := lv_entry ([.ref a, .int (I ch)]) (n := 2) (Nat.le_of_ble_eq_true rfl)
  rw [lg_entry_eq]
  generalize (lg_sl ([.ref a, .int (I ch)]) ++ List.replicate (2 - (lg_sl ([.ref a, .int (I ch)])).length) Slot.unset).toArray = ls at hl ⊢
  have hl : lv_has ls 2 [(0, .ref a), (1, .int (I ch))] := hl
  obtain ⟨a500, ea500, ra500, la500, ua500⟩ := hO.gi h_a (by decide) k13_50
  refine lv_aload_n hx hb dX11_tell_0 rfl (lv_at hl 0 rfl) ?_
  refine ok.getR hO h_a (by decide) k13_49 (by decide) (fun _ _ he hv kk => th_get (ci := 11) (C := RX11) (T := TX11) (N := 66) hx hb hts inX11 hown hK hH he rfl 49 (by decide) fl0 hv dX11_tell_1 kk) ?_
  refine lv_aload_n hx hb dX11_tell_4 rfl (lv_at hl 0 rfl) ?_
  refine ok.getIc hO h_a (by decide) k13_50 ea500 (fun _ _ he hv kk => th_get (ci := 11) (C := RX11) (T := TX11) (N := 66) hx hb hts inX11 hown hK hH he rfl 50 (by decide) fl1 hv dX11_tell_5 kk) ?_
  refine lv_iload_n hx hb dX11_tell_8 rfl (lv_at hl 1 rfl) ?_
  obtain ⟨f_2, ef_3⟩ : ∃ f9, aF σ (ad E a 49) = f9 := ⟨_, rfl⟩
  refine m_iast hx hb hK hH hS h00 hO h_a k13_49 isA1 (by decide) ef_3 ra500 (by omega) (by omega) rch el1 dX11_tell_9 (fun σ_s_1 H locs hO hF9 hM9 ha9 hH hS => ?_)
  replace hM := hM.tu hM9 (by decide)
  replace hF := hF.tu hF9 (by decide)
  have e_4 : gI σ_s_1 a 50 = a500 := (hM9.i (by decide)).trans ea500
  obtain ⟨g_5, dg_5⟩ : ∃ g9, g9 = upd f_2 (a500).toNat (I ch) := ⟨_, rfl⟩
  rw [← dg_5] at ha9
  have ef_6 := ha9
  refine lv_aload_n hx hb dX11_tell_10 rfl (lv_at hl 0 rfl) ?_
  refine lv_dup hx hb dX11_tell_11 rfl ?_
  refine ok.getIc hO h_a (by decide) k13_50 e_4 (fun _ _ he hv kk => th_get (ci := 11) (C := RX11) (T := TX11) (N := 66) hx hb hts inX11 hown hK hH he rfl 50 (by decide) fl1 hv dX11_tell_12 kk) ?_
  refine lv_iconst (v := I 1) hx hb dX11_tell_15 (by decide) ?_
  refine lv_iadd hx hb dX11_tell_16 ?_
  refine nq_top (I_add _ _) ?_
  refine ok.putJ hO h_a k13_50 ⟨by omega, by omega⟩ (by omega) (by omega) (fun _ he hl9 kk => th_put (ci := 11) (v := .int (I (a500 + 1))) (ty := .int) (C := RX11) (T := TX11) (N := 66) hx hb hts inX11 tyX11 tyX11_ok nmX11 hown hK hH hS h00 he rfl 50 (by decide) fl1 rfl (by decide +kernel) rfl rfl hl9 dX11_tell_17 kk) (fun σ_s_7 H locs hO hF9 hM9 hg9 ha9 hH hS => ?_)
  replace hM := hM.tu hM9 (by decide)
  replace hF := hF.tu hF9 (by decide)
  have e_8 : aF σ_s_7 (ad E a 49) = g_5 := (hM9.a (by decide) (by decide)).trans ef_6
  have e_9 := hg9
  exact th_vret hx hb hr hlocks hH hS ⟨hO, hF, hM, by omega⟩ dX11_tell_20

set_option maxHeartbeats 4000000 in
set_option maxRecDepth 100000 in
theorem m_tellNumber (l : Launch) (G : va_G) (y : Nat → ClassId) (b0 : Nat) (σ : th_M) (E : th_E) (hO : ok y E σ) (a : Nat) (h_a : kd E a = 13) (nu : Int) (rnu : rng nu) (hy0 : gI σ a 50 + 4 ≤ 2000) : Met l yX11_tellNumber wsX11_tellNumber ({ frames := 1, cells := 0, slots := 0, locals := 25 }) (th_P G y b0 σ [.ref a, .int (I nu)]) (th_Qv G b0 (fun σ1 => ok y E σ1 ∧ fr [13] E σ σ1 ∧ fm [49, 50] E σ σ1 a ∧ (gI σ a 50 ≤ gI σ1 a 50 ∧ gI σ1 a 50 ≤ gI σ a 50 + 4))) 0 0 (th_A b0) := by
  refine Met.ofW (cc := cX11_tellNumber) (maxL := 4) (ret := none) (by decide) rfl ?_
  intro p e s m args below meth c s₁ B hml hv
  obtain ⟨rfl, hH, hK⟩ := hv
  have hx := B.exec
  have hb := B.bytes
  have hr := B.returns
  have hts := atoms_spec (ws := wsX11_tellNumber) B.pre
  have hown : s.vm.findClass RX11 = some m.cls := findClass_of_methodNamed B.named
  have hlocks := B.notSynchronized
  have h00 : b0 ≤ s.heap.size := hH.1
  have hS : va_S (th_A b0) s.heap s.heap [] := va_S.rf
  have hF : fr [13] E σ σ := fr.rf
  have hM : fm [49, 50] E σ σ a := fm.rf
  have hl := lv_entry ([.ref a, .int (I nu)]) (n := 4) (Nat.le_of_ble_eq_true rfl)
  rw [lg_entry_eq]
  generalize (lg_sl ([.ref a, .int (I nu)]) ++ List.replicate (4 - (lg_sl ([.ref a, .int (I nu)])).length) Slot.unset).toArray = ls at hl ⊢
  have hl : lv_has ls 4 [(0, .ref a), (1, .int (I nu))] := hl
  obtain ⟨a500, ea500, ra500, la500, ua500⟩ := hO.gi h_a (by decide) k13_50
  refine lv_iload_n hx hb dX11_tellNumber_0 rfl (lv_at hl 1 rfl) ?_
  refine th_join (α := Unit) (J := 10) (stk := fun x9 => []) (fun x9 σ9 H9 l9 ls9 => ok y E σ9 ∧ fr [13] E σ σ9 ∧ fm [49, 50] E σ σ9 a ∧ th_H G b0 σ9 H9 ∧ va_S (th_A b0) s.heap H9 l9 ∧ lv_has ls9 4 [(0, .ref a), (1, .int (I nu))] ∧ (gI σ a 50 ≤ gI σ9 a 50 ∧ gI σ9 a 50 ≤ gI σ a 50 + 1)) ?_ (fun jK_6 => ?_)
  · intro x9 σ_K_6 H locs ls hI9
    obtain ⟨hO, hF, hM, hH, hS, hl, K_6_0⟩ := hI9
    have hl : lv_has ls 4 [(0, .ref a), (1, .int (I nu))] := hl
    have K_6_0 : gI σ a 50 ≤ gI σ_K_6 a 50 ∧ gI σ_K_6 a 50 ≤ gI σ a 50 + 1 := K_6_0
    refine lv_iload_n hx hb dX11_tellNumber_10 rfl (lv_at hl 1 rfl) ?_
    refine th_join (α := Int) (J := 20) (stk := fun x9 => [.int (I x9)]) (fun x9 σ9 H9 l9 ls9 => σ9 = σ_K_6 ∧ th_H G b0 σ9 H9 ∧ va_S (th_A b0) s.heap H9 l9 ∧ lv_has ls9 4 [(0, .ref a)] ∧ rng x9) ?_ (fun jK_10 => ?_)
    · intro x9 σ_K_10 H locs ls hI9
      obtain ⟨w0q9, ex9⟩ : ∃ z, z = x9 := ⟨_, rfl⟩
      subst ex9
      obtain ⟨eK_10, hH, hS, hl, rw0q9⟩ := hI9
      replace eK_10 := eK_10.symm
      subst eK_10
      have hl : lv_has ls 4 [(0, .ref a)] := hl
      have rw0q9 : rng w0q9 := rw0q9
      refine lv_istore_n (lv' := [(2, .int (I w0q9)), (0, .ref a)]) hx hb dX11_tellNumber_20 rfl hl (by decide) rfl (fun ls hl => ?_)
      refine lv_iload_n hx hb dX11_tellNumber_21 rfl (lv_at hl 0 rfl) ?_
      refine lv_bipush (v := I 99) hx hb dX11_tellNumber_22 (by decide) ?_
      refine th_join (α := Int) (J := 44) (stk := fun x9 => [.int (I x9)]) (fun x9 σ9 H9 l9 ls9 => σ9 = σ_K_6 ∧ th_H G b0 σ9 H9 ∧ va_S (th_A b0) s.heap H9 l9 ∧ lv_has ls9 4 [(0, .ref a), (2, .int (I w0q9))] ∧ rng x9 ∧ (x9 = 1 ∨ x9 = 10 ∨ x9 = 100)) ?_ (fun jK_14 => ?_)
      · intro x9 σ_K_14 H locs ls hI9
        obtain ⟨w0q13, ex9⟩ : ∃ z, z = x9 := ⟨_, rfl⟩
        subst ex9
        obtain ⟨eK_14, hH, hS, hl, rw0q13, K_14_0⟩ := hI9
        replace eK_14 := eK_14.symm
        subst eK_14
        have hl : lv_has ls 4 [(0, .ref a), (2, .int (I w0q9))] := hl
        have rw0q13 : rng w0q13 := rw0q13
        have K_14_0 : w0q13 = 1 ∨ w0q13 = 10 ∨ w0q13 = 100 := K_14_0
        refine lv_istore_n (lv' := [(3, .int (I w0q13)), (0, .ref a), (2, .int (I w0q9))]) hx hb dX11_tellNumber_44 rfl hl (by decide) rfl (fun ls hl => ?_)
        refine th_loop (α := Int) (pc := 45) (fun x9 => (x9).toNat) (fun x9 σ9 H9 l9 ls9 => ok y E σ9 ∧ fr [13] E σ σ9 ∧ fm [49, 50] E σ σ9 a ∧ th_H G b0 σ9 H9 ∧ va_S (th_A b0) s.heap H9 l9 ∧ lv_has ls9 4 [(0, .ref a), (2, .int (I w0q9)), (3, .int (I x9))] ∧ rng x9 ∧ ((x9 = 100 ∧ gI σ a 50 ≤ gI σ9 a 50 ∧ gI σ9 a 50 ≤ gI σ a 50 + 1) ∨ (x9 = 10 ∧ gI σ a 50 ≤ gI σ9 a 50 ∧ gI σ9 a 50 ≤ gI σ a 50 + 2) ∨ (x9 = 1 ∧ gI σ a 50 ≤ gI σ9 a 50 ∧ gI σ9 a 50 ≤ gI σ a 50 + 3) ∨ (x9 = 0 ∧ gI σ a 50 ≤ gI σ9 a 50 ∧ gI σ9 a 50 ≤ gI σ a 50 + 4)) ∧ (0 ≤ x9) ∧ (x9 ≤ 100)) ?_ (w0q13) σ_K_6 _ _ _ ⟨hO, hF, hM, hH, hS, lv_sub hl [1, 2, 0] rfl, rw0q13, by first | (dsimp only; omega) | omega, by first | (dsimp only; omega) | omega, by first | (dsimp only; omega) | omega⟩
        intro x9 σ_J_25 H locs ls hI9 ihJ_25
        obtain ⟨v3q24, ex9⟩ : ∃ z, z = x9 := ⟨_, rfl⟩
        subst ex9
        obtain ⟨hO, hF, hM, hH, hS, hl, rv3q24, J_25_0, J_25_1, J_25_2⟩ := hI9
        have hl : lv_has ls 4 [(0, .ref a), (2, .int (I w0q9)), (3, .int (I v3q24))] := hl
        have rv3q24 : rng v3q24 := rv3q24
        have J_25_0 : (v3q24 = 100 ∧ gI σ a 50 ≤ gI σ_J_25 a 50 ∧ gI σ_J_25 a 50 ≤ gI σ a 50 + 1) ∨ (v3q24 = 10 ∧ gI σ a 50 ≤ gI σ_J_25 a 50 ∧ gI σ_J_25 a 50 ≤ gI σ a 50 + 2) ∨ (v3q24 = 1 ∧ gI σ a 50 ≤ gI σ_J_25 a 50 ∧ gI σ_J_25 a 50 ≤ gI σ a 50 + 3) ∨ (v3q24 = 0 ∧ gI σ a 50 ≤ gI σ_J_25 a 50 ∧ gI σ_J_25 a 50 ≤ gI σ a 50 + 4) := J_25_0
        have J_25_1 : 0 ≤ v3q24 := J_25_1
        have J_25_2 : v3q24 ≤ 100 := J_25_2
        refine lv_iload_n hx hb dX11_tellNumber_45 rfl (lv_at hl 2 rfl) ?_
        refine lv_if_le (tgt := 70) hx hb dX11_tellNumber_46 (by decide) (fun c_26 => ?_) (fun c_26 => ?_)
        · replace c_26 := (I_le (a := v3q24) (b := 0) rv3q24 (show rng 0 from ⟨by decide, by decide⟩)).mp c_26
          exact th_vret hx hb hr hlocks hH hS ⟨hO, hF, hM, by omega⟩ dX11_tellNumber_70
        · replace c_26 := mt (I_le (a := v3q24) (b := 0) rv3q24 (show rng 0 from ⟨by decide, by decide⟩)).mpr c_26
          refine lv_aload_n hx hb dX11_tellNumber_49 rfl (lv_at hl 0 rfl) ?_
          refine lv_bipush (v := I 48) hx hb dX11_tellNumber_50 (by decide) ?_
          refine lv_iload_n hx hb dX11_tellNumber_52 rfl (lv_at hl 1 rfl) ?_
          refine lv_iload_n hx hb dX11_tellNumber_53 rfl (lv_at hl 2 rfl) ?_
          refine lv_idiv hx hb dX11_tellNumber_54 (I_ne0 rv3q24 (by omega)) ?_
          refine th_topi (fun z_27 rz_27 => ?_)
          refine lv_bipush (v := I 10) hx hb dX11_tellNumber_55 (by decide) ?_
          refine lv_irem hx hb dX11_tellNumber_57 (by decide) ?_
          refine th_topi (fun z_28 rz_28 => ?_)
          refine lv_iadd hx hb dX11_tellNumber_58 ?_
          refine th_addo (fun z_29 rz_29 hz_29 => ?_)
          obtain ⟨_, hc_30⟩ := hO.cell h_a (by decide) (ci := 11) rfl
          refine th_callv (va_runV (As := [.int (I z_29)]) (rest := []) ⟨hx, hb, hml, hown, hts⟩ (m_tell l G y b0 σ_J_25 E hO a h_a z_29 (show rng z_29 from rz_29) (by omega)) (cwV 1 hts gX11_tellNumber_X11_tell rfl rfl rfl (by decide +kernel) ⟨Nat.le_of_ble_eq_true rfl, Nat.le_of_ble_eq_true rfl⟩) (th_PV hK hH rfl hc_30) rfl rfl hl.1 rfl (lv_room (Nat.le_of_ble_eq_true rfl)) dX11_tellNumber_59 ⟨Nat.le_of_ble_eq_true rfl, Nat.le_of_ble_eq_true rfl⟩) hS (fun σ_s_32 H locs hw_31 hH hS => ?_)
          obtain ⟨hO9, hF9, hM9, hw_31⟩ := hw_31
          replace hM := hM.tu hM9 (by decide)
          replace hF := hF.tu hF9 (by decide)
          replace hO := hO9
          have hw_31 : gI σ_s_32 a 50 = gI σ_J_25 a 50 + 1 := hw_31
          refine lv_iload_n hx hb dX11_tellNumber_62 rfl (lv_at hl 2 rfl) ?_
          refine lv_bipush (v := I 10) hx hb dX11_tellNumber_63 (by decide) ?_
          refine lv_idiv hx hb dX11_tellNumber_65 (by decide) ?_
          refine th_div (n := 10) rv3q24 (by omega) (by decide) (fun z_33 rz_33 hz_33 => ?_)
          refine lv_istore_n (lv' := [(3, .int (I z_33)), (0, .ref a), (2, .int (I w0q9))]) hx hb dX11_tellNumber_66 rfl hl (by decide) rfl (fun ls hl => ?_)
          refine lv_goto (tgt := 45) hx hb dX11_tellNumber_67 (by decide) ?_
          exact ihJ_25 (z_33) σ_s_32 _ _ _ (by first | (dsimp only; omega) | omega) ⟨hO, hF, hM, hH, hS, lv_sub hl [1, 2, 0] rfl, rz_33, by first | (dsimp only; omega) | omega, by first | (dsimp only; omega) | omega, by first | (dsimp only; omega) | omega⟩
      · refine lv_icmp_le (tgt := 32) hx hb dX11_tellNumber_24 (by decide) (fun c_34 => ?_) (fun c_34 => ?_)
        · replace c_34 := (I_le (a := w0q9) (b := 99) rw0q9 (show rng 99 from ⟨by decide, by decide⟩)).mp c_34
          refine lv_iload_n hx hb dX11_tellNumber_32 rfl (lv_at hl 0 rfl) ?_
          refine lv_bipush (v := I 9) hx hb dX11_tellNumber_33 (by decide) ?_
          refine lv_icmp_le (tgt := 43) hx hb dX11_tellNumber_35 (by decide) (fun c_35 => ?_) (fun c_35 => ?_)
          · replace c_35 := (I_le (a := w0q9) (b := 9) rw0q9 (show rng 9 from ⟨by decide, by decide⟩)).mp c_35
            refine lv_iconst (v := I 1) hx hb dX11_tellNumber_43 (by decide) ?_
            exact jK_14 (1) σ_K_6 _ _ _ ⟨rfl, hH, hS, lv_sub hl [1, 0] rfl, (show rng 1 from ⟨by decide, by decide⟩), by first | (dsimp only; omega) | omega⟩
          · replace c_35 := mt (I_le (a := w0q9) (b := 9) rw0q9 (show rng 9 from ⟨by decide, by decide⟩)).mpr c_35
            refine lv_bipush (v := I 10) hx hb dX11_tellNumber_38 (by decide) ?_
            refine lv_goto (tgt := 44) hx hb dX11_tellNumber_40 (by decide) ?_
            exact jK_14 (10) σ_K_6 _ _ _ ⟨rfl, hH, hS, lv_sub hl [1, 0] rfl, (show rng 10 from ⟨by decide, by decide⟩), by first | (dsimp only; omega) | omega⟩
        · replace c_34 := mt (I_le (a := w0q9) (b := 99) rw0q9 (show rng 99 from ⟨by decide, by decide⟩)).mpr c_34
          refine lv_bipush (v := I 100) hx hb dX11_tellNumber_27 (by decide) ?_
          refine lv_goto (tgt := 44) hx hb dX11_tellNumber_29 (by decide) ?_
          exact jK_14 (100) σ_K_6 _ _ _ ⟨rfl, hH, hS, lv_sub hl [1, 0] rfl, (show rng 100 from ⟨by decide, by decide⟩), by first | (dsimp only; omega) | omega⟩
    · refine lv_if_ge (tgt := 19) hx hb dX11_tellNumber_11 (by decide) (fun c_36 => ?_) (fun c_36 => ?_)
      · replace c_36 := (I_le (a := 0) (b := nu) (show rng 0 from ⟨by decide, by decide⟩) rnu).mp c_36
        refine lv_iload_n hx hb dX11_tellNumber_19 rfl (lv_at hl 1 rfl) ?_
        replace hl : lv_has ls 4 [(0, .ref a)] := lv_sub hl [0] rfl
        exact jK_10 (nu) σ_K_6 _ _ _ ⟨rfl, hH, hS, lv_sub hl [0] rfl, rnu⟩
      · replace c_36 := mt (I_le (a := 0) (b := nu) (show rng 0 from ⟨by decide, by decide⟩) rnu).mpr c_36
        refine lv_iload_n hx hb dX11_tellNumber_14 rfl (lv_at hl 1 rfl) ?_
        refine lv_ineg hx hb dX11_tellNumber_15 ?_
        refine th_nego (fun z_37 rz_37 hz_37 => ?_)
        refine lv_goto (tgt := 20) hx hb dX11_tellNumber_16 (by decide) ?_
        replace hl : lv_has ls 4 [(0, .ref a)] := lv_sub hl [0] rfl
        exact jK_10 (z_37) σ_K_6 _ _ _ ⟨rfl, hH, hS, lv_sub hl [0] rfl, rz_37⟩
  · refine lv_if_ge (tgt := 10) hx hb dX11_tellNumber_1 (by decide) (fun c_38 => ?_) (fun c_38 => ?_)
    · replace c_38 := (I_le (a := 0) (b := nu) (show rng 0 from ⟨by decide, by decide⟩) rnu).mp c_38
      exact jK_6 () σ _ _ _ ⟨hO, hF, hM, hH, hS, lv_sub hl [0, 1] rfl, by first | (dsimp only; omega) | omega⟩
    · replace c_38 := mt (I_le (a := 0) (b := nu) (show rng 0 from ⟨by decide, by decide⟩) rnu).mpr c_38
      refine lv_aload_n hx hb dX11_tellNumber_4 rfl (lv_at hl 0 rfl) ?_
      refine lv_bipush (v := I 45) hx hb dX11_tellNumber_5 (by decide) ?_
      obtain ⟨_, hc_39⟩ := hO.cell h_a (by decide) (ci := 11) rfl
      refine th_callv (va_runV (As := [.int (I 45)]) (rest := []) ⟨hx, hb, hml, hown, hts⟩ (m_tell l G y b0 σ E hO a h_a 45 (show rng 45 from (show rng 45 from ⟨by decide, by decide⟩)) (by omega)) (cwV 1 hts gX11_tellNumber_X11_tell rfl rfl rfl (by decide +kernel) ⟨Nat.le_of_ble_eq_true rfl, Nat.le_of_ble_eq_true rfl⟩) (th_PV hK hH rfl hc_39) rfl rfl hl.1 rfl (lv_room (Nat.le_of_ble_eq_true rfl)) dX11_tellNumber_7 ⟨Nat.le_of_ble_eq_true rfl, Nat.le_of_ble_eq_true rfl⟩) hS (fun σ_s_41 H locs hw_40 hH hS => ?_)
      obtain ⟨hO9, hF9, hM9, hw_40⟩ := hw_40
      replace hM := hM.tu hM9 (by decide)
      replace hF := hF.tu hF9 (by decide)
      replace hO := hO9
      have hw_40 : gI σ_s_41 a 50 = gI σ a 50 + 1 := hw_40
      exact jK_6 () σ_s_41 _ _ _ ⟨hO, hF, hM, hH, hS, lv_sub hl [0, 1] rfl, by first | (dsimp only; omega) | omega⟩

set_option maxHeartbeats 4000000 in
set_option maxRecDepth 100000 in
theorem m_tellWord (l : Launch) (G : va_G) (y : Nat → ClassId) (b0 : Nat) (σ : th_M) (E : th_E) (hO : ok y E σ) (a : Nat) (h_a : kd E a = 13) (wo : Int) (rwo : rng wo) (hy0 : gI σ a 50 + 7 ≤ 2000) : Met l yX11_tellWord wsX11_tellWord ({ frames := 1, cells := 0, slots := 0, locals := 26 }) (th_P G y b0 σ [.ref a, .int (I wo)]) (th_Qv G b0 (fun σ1 => ok y E σ1 ∧ fr [13] E σ σ1 ∧ fm [49, 50] E σ σ1 a ∧ (gI σ a 50 ≤ gI σ1 a 50 ∧ gI σ1 a 50 ≤ gI σ a 50 + 7))) 0 0 (th_A b0) := by
  refine Met.ofW (cc := cX11_tellWord) (maxL := 3) (ret := none) (by decide) rfl ?_
  intro p e s m args below meth c s₁ B hml hv
  obtain ⟨rfl, hH, hK⟩ := hv
  have hx := B.exec
  have hb := B.bytes
  have hr := B.returns
  have hts := atoms_spec (ws := wsX11_tellWord) B.pre
  have hown : s.vm.findClass RX11 = some m.cls := findClass_of_methodNamed B.named
  have hlocks := B.notSynchronized
  have h00 : b0 ≤ s.heap.size := hH.1
  have hS : va_S (th_A b0) s.heap s.heap [] := va_S.rf
  have hF : fr [13] E σ σ := fr.rf
  have hM : fm [49, 50] E σ σ a := fm.rf
  have hl := lv_entry ([.ref a, .int (I wo)]) (n := 3) (Nat.le_of_ble_eq_true rfl)
  rw [lg_entry_eq]
  generalize (lg_sl ([.ref a, .int (I wo)]) ++ List.replicate (3 - (lg_sl ([.ref a, .int (I wo)])).length) Slot.unset).toArray = ls at hl ⊢
  have hl : lv_has ls 3 [(0, .ref a), (1, .int (I wo))] := hl
  obtain ⟨a500, ea500, ra500, la500, ua500⟩ := hO.gi h_a (by decide) k13_50
  refine lv_iload_n hx hb dX11_tellWord_0 rfl (lv_at hl 1 rfl) ?_
  refine th_calli (va_runS (As := [.int (I wo)]) (rest := []) ⟨hx, hb, hml, hown, hts⟩ (w_lettersOf l G y b0 σ E hO wo (show rng wo from rwo)) (va_cwS 1 hts gX11_tellWord_X11_lettersOf rfl rfl rfl (by decide +kernel) ⟨Nat.le_of_ble_eq_true rfl, Nat.le_of_ble_eq_true rfl⟩) (th_PS hK hH) rfl rfl hl.1 rfl (lv_room (Nat.le_of_ble_eq_true rfl)) dX11_tellWord_1 ⟨Nat.le_of_ble_eq_true rfl, Nat.le_of_ble_eq_true rfl⟩) hS (fun z_3 σ_s_2 H locs rz_3 hw_1 hH hS => ?_)
  obtain ⟨e9, hw_1⟩ := hw_1
  replace e9 := e9.symm
  subst e9
  have hw_1 : 0 ≤ z_3 ∧ z_3 ≤ 7 := hw_1
  refine lv_iconst (v := I 1) hx hb dX11_tellWord_4 (by decide) ?_
  refine lv_isub hx hb dX11_tellWord_5 ?_
  refine nq_top (I_sub _ _) ?_
  refine lv_istore_n (lv' := [(2, .int (I (z_3 - 1))), (0, .ref a), (1, .int (I wo))]) hx hb dX11_tellWord_6 rfl hl (by decide) rfl (fun ls hl => ?_)
  refine th_loop (α := Int) (pc := 7) (fun x9 => (x9 + 1).toNat) (fun x9 σ9 H9 l9 ls9 => ok y E σ9 ∧ fr [13] E σ σ9 ∧ fm [49, 50] E σ σ9 a ∧ th_H G b0 σ9 H9 ∧ va_S (th_A b0) s.heap H9 l9 ∧ lv_has ls9 3 [(0, .ref a), (1, .int (I wo)), (2, .int (I x9))] ∧ rng x9 ∧ (-1 ≤ x9) ∧ (x9 ≤ 6) ∧ (gI σ a 50 ≤ gI σ9 a 50) ∧ (gI σ9 a 50 + x9 + 1 ≤ gI σ a 50 + 7)) ?_ (z_3 - 1) σ _ _ _ ⟨hO, hF, hM, hH, hS, lv_sub hl [1, 2, 0] rfl, ⟨by first | (dsimp only; omega) | omega, by first | (dsimp only; omega) | omega⟩, by first | (dsimp only; omega) | omega, by first | (dsimp only; omega) | omega, by first | (dsimp only; omega) | omega, by first | (dsimp only; omega) | omega⟩
  intro x9 σ_J_19 H locs ls hI9 ihJ_19
  obtain ⟨v2q18, ex9⟩ : ∃ z, z = x9 := ⟨_, rfl⟩
  subst ex9
  obtain ⟨hO, hF, hM, hH, hS, hl, rv2q18, J_19_0, J_19_1, J_19_2, J_19_3⟩ := hI9
  have hl : lv_has ls 3 [(0, .ref a), (1, .int (I wo)), (2, .int (I v2q18))] := hl
  have rv2q18 : rng v2q18 := rv2q18
  have J_19_0 : -1 ≤ v2q18 := J_19_0
  have J_19_1 : v2q18 ≤ 6 := J_19_1
  have J_19_2 : gI σ a 50 ≤ gI σ_J_19 a 50 := J_19_2
  have J_19_3 : gI σ_J_19 a 50 + v2q18 + 1 ≤ gI σ a 50 + 7 := J_19_3
  refine lv_iload_n hx hb dX11_tellWord_7 rfl (lv_at hl 2 rfl) ?_
  refine lv_if_lt (tgt := 32) hx hb dX11_tellWord_8 (by decide) (fun c_20 => ?_) (fun c_20 => ?_)
  · replace c_20 := (I_lt (a := v2q18) (b := 0) rv2q18 (show rng 0 from ⟨by decide, by decide⟩)).mp c_20
    exact th_vret hx hb hr hlocks hH hS ⟨hO, hF, hM, by omega⟩ dX11_tellWord_32
  · replace c_20 := mt (I_lt (a := v2q18) (b := 0) rv2q18 (show rng 0 from ⟨by decide, by decide⟩)).mpr c_20
    refine lv_aload_n hx hb dX11_tellWord_11 rfl (lv_at hl 0 rfl) ?_
    refine lv_bipush (v := I 96) hx hb dX11_tellWord_12 (by decide) ?_
    refine lv_iload_n hx hb dX11_tellWord_14 rfl (lv_at hl 1 rfl) ?_
    refine lv_iconst (v := I 5) hx hb dX11_tellWord_15 (by decide) ?_
    refine lv_iload_n hx hb dX11_tellWord_16 rfl (lv_at hl 2 rfl) ?_
    refine lv_imul hx hb dX11_tellWord_17 ?_
    refine nq_top (I_mul _ _) ?_
    refine lv_ishr hx hb dX11_tellWord_18 ?_
    refine th_topi (fun z_21 rz_21 => ?_)
    refine lv_bipush (v := I 31) hx hb dX11_tellWord_19 (by decide) ?_
    refine lv_iand hx hb dX11_tellWord_21 ?_
    refine th_and31 (fun z_22 rz_22 hz_22 => ?_)
    refine lv_iadd hx hb dX11_tellWord_22 ?_
    refine nq_top (I_add _ _) ?_
    obtain ⟨_, hc_23⟩ := hO.cell h_a (by decide) (ci := 11) rfl
    refine th_callv (va_runV (As := [.int (I (96 + z_22))]) (rest := []) ⟨hx, hb, hml, hown, hts⟩ (m_tell l G y b0 σ_J_19 E hO a h_a (96 + z_22) (show rng (96 + z_22) from ⟨by omega, by omega⟩) (by omega)) (cwV 1 hts gX11_tellWord_X11_tell rfl rfl rfl (by decide +kernel) ⟨Nat.le_of_ble_eq_true rfl, Nat.le_of_ble_eq_true rfl⟩) (th_PV hK hH rfl hc_23) rfl rfl hl.1 rfl (lv_room (Nat.le_of_ble_eq_true rfl)) dX11_tellWord_23 ⟨Nat.le_of_ble_eq_true rfl, Nat.le_of_ble_eq_true rfl⟩) hS (fun σ_s_25 H locs hw_24 hH hS => ?_)
    obtain ⟨hO9, hF9, hM9, hw_24⟩ := hw_24
    replace hM := hM.tu hM9 (by decide)
    replace hF := hF.tu hF9 (by decide)
    replace hO := hO9
    have hw_24 : gI σ_s_25 a 50 = gI σ_J_19 a 50 + 1 := hw_24
    refine lv_iinc (v := I (v2q18 + (-1))) (lv' := [(2, .int (I (v2q18 + (-1)))), (0, .ref a), (1, .int (I wo))]) hx hb dX11_tellWord_26 hl (k := 2) rfl (I_add _ _) (by decide) rfl (fun ls hl => ?_)
    refine lv_goto (tgt := 7) hx hb dX11_tellWord_29 (by decide) ?_
    exact ihJ_19 (v2q18 + (-1)) σ_s_25 _ _ _ (by first | (dsimp only; omega) | omega) ⟨hO, hF, hM, hH, hS, lv_sub hl [1, 2, 0] rfl, ⟨by first | (dsimp only; omega) | omega, by first | (dsimp only; omega) | omega⟩, by first | (dsimp only; omega) | omega, by first | (dsimp only; omega) | omega, by first | (dsimp only; omega) | omega, by first | (dsimp only; omega) | omega⟩

set_option maxHeartbeats 4000000 in
set_option maxRecDepth 100000 in
theorem m_tellStep (l : Launch) (G : va_G) (y : Nat → ClassId) (b0 : Nat) (σ : th_M) (E : th_E) (hO : ok y E σ) (a : Nat) (h_a : kd E a = 13) (st : Int) (rst : rng st) (hy0 : gI σ a 50 + 8 ≤ 2000) : Met l yX11_tellStep wsX11_tellStep ({ frames := 2, cells := 0, slots := 0, locals := 52 }) (th_P G y b0 σ [.ref a, .int (I st)]) (th_Qv G b0 (fun σ1 => ok y E σ1 ∧ fr [13] E σ σ1 ∧ fm [49, 50] E σ σ1 a ∧ (gI σ a 50 ≤ gI σ1 a 50 ∧ gI σ1 a 50 ≤ gI σ a 50 + 8))) 0 0 (th_A b0) := by
  refine Met.ofW (cc := cX11_tellStep) (maxL := 2) (ret := none) (by decide) rfl ?_
  intro p e s m args below meth c s₁ B hml hv
  obtain ⟨rfl, hH, hK⟩ := hv
  have hx := B.exec
  have hb := B.bytes
  have hr := B.returns
  have hts := atoms_spec (ws := wsX11_tellStep) B.pre
  have hown : s.vm.findClass RX11 = some m.cls := findClass_of_methodNamed B.named
  have hlocks := B.notSynchronized
  have h00 : b0 ≤ s.heap.size := hH.1
  have hS : va_S (th_A b0) s.heap s.heap [] := va_S.rf
  have hF : fr [13] E σ σ := fr.rf
  have hM : fm [49, 50] E σ σ a := fm.rf
  have hl := lv_entry ([.ref a, .int (I st)]) (n := 2) (Nat.le_of_ble_eq_true rfl)
  rw [lg_entry_eq]
  generalize (lg_sl ([.ref a, .int (I st)]) ++ List.replicate (2 - (lg_sl ([.ref a, .int (I st)])).length) Slot.unset).toArray = ls at hl ⊢
  have hl : lv_has ls 2 [(0, .ref a), (1, .int (I st))] := hl
  obtain ⟨a500, ea500, ra500, la500, ua500⟩ := hO.gi h_a (by decide) k13_50
  refine lv_iload_n hx hb dX11_tellStep_0 rfl (lv_at hl 1 rfl) ?_
  refine lv_if_le (tgt := 16) hx hb dX11_tellStep_1 (by decide) (fun c_1 => ?_) (fun c_1 => ?_)
  · replace c_1 := (I_le (a := st) (b := 0) rst (show rng 0 from ⟨by decide, by decide⟩)).mp c_1
    refine lv_aload_n hx hb dX11_tellStep_16 rfl (lv_at hl 0 rfl) ?_
    refine lv_bipush (v := I 91) hx hb dX11_tellStep_17 (by decide) ?_
    obtain ⟨_, hc_2⟩ := hO.cell h_a (by decide) (ci := 11) rfl
    refine th_callv (va_runV (As := [.int (I 91)]) (rest := []) ⟨hx, hb, hml, hown, hts⟩ (m_tell l G y b0 σ E hO a h_a 91 (show rng 91 from (show rng 91 from ⟨by decide, by decide⟩)) (by omega)) (cwV 1 hts gX11_tellStep_X11_tell rfl rfl rfl (by decide +kernel) ⟨Nat.le_of_ble_eq_true rfl, Nat.le_of_ble_eq_true rfl⟩) (th_PV hK hH rfl hc_2) rfl rfl hl.1 rfl (lv_room (Nat.le_of_ble_eq_true rfl)) dX11_tellStep_19 ⟨Nat.le_of_ble_eq_true rfl, Nat.le_of_ble_eq_true rfl⟩) hS (fun σ_s_4 H locs hw_3 hH hS => ?_)
    obtain ⟨hO9, hF9, hM9, hw_3⟩ := hw_3
    replace hM := hM.tu hM9 (by decide)
    replace hF := hF.tu hF9 (by decide)
    replace hO := hO9
    have hw_3 : gI σ_s_4 a 50 = gI σ a 50 + 1 := hw_3
    refine lv_aload_n hx hb dX11_tellStep_22 rfl (lv_at hl 0 rfl) ?_
    refine lv_iconst (v := I (-1)) hx hb dX11_tellStep_23 (by decide) ?_
    refine lv_iload_n hx hb dX11_tellStep_24 rfl (lv_at hl 1 rfl) ?_
    refine lv_isub hx hb dX11_tellStep_25 ?_
    refine th_subo (fun z_5 rz_5 hz_5 => ?_)
    obtain ⟨_, hc_6⟩ := hO.cell h_a (by decide) (ci := 11) rfl
    refine th_callv (va_runV (As := [.int (I z_5)]) (rest := []) ⟨hx, hb, hml, hown, hts⟩ (m_tellNumber l G y b0 σ_s_4 E hO a h_a z_5 (show rng z_5 from rz_5) (by omega)) (cwV 1 hts gX11_tellStep_X11_tellNumber rfl rfl rfl (by decide +kernel) ⟨Nat.le_of_ble_eq_true rfl, Nat.le_of_ble_eq_true rfl⟩) (th_PV hK hH rfl hc_6) rfl rfl hl.1 rfl (lv_room (Nat.le_of_ble_eq_true rfl)) dX11_tellStep_26 ⟨Nat.le_of_ble_eq_true rfl, Nat.le_of_ble_eq_true rfl⟩) hS (fun σ_s_8 H locs hw_7 hH hS => ?_)
    obtain ⟨hO9, hF9, hM9, hw_7⟩ := hw_7
    replace hM := hM.tu hM9 (by decide)
    replace hF := hF.tu hF9 (by decide)
    replace hO := hO9
    have hw_7 : gI σ_s_4 a 50 ≤ gI σ_s_8 a 50 ∧ gI σ_s_8 a 50 ≤ gI σ_s_4 a 50 + 4 := hw_7
    refine lv_aload_n hx hb dX11_tellStep_29 rfl (lv_at hl 0 rfl) ?_
    refine lv_bipush (v := I 93) hx hb dX11_tellStep_30 (by decide) ?_
    obtain ⟨_, hc_9⟩ := hO.cell h_a (by decide) (ci := 11) rfl
    refine th_callv (va_runV (As := [.int (I 93)]) (rest := []) ⟨hx, hb, hml, hown, hts⟩ (m_tell l G y b0 σ_s_8 E hO a h_a 93 (show rng 93 from (show rng 93 from ⟨by decide, by decide⟩)) (by omega)) (cwV 1 hts gX11_tellStep_X11_tell rfl rfl rfl (by decide +kernel) ⟨Nat.le_of_ble_eq_true rfl, Nat.le_of_ble_eq_true rfl⟩) (th_PV hK hH rfl hc_9) rfl rfl hl.1 rfl (lv_room (Nat.le_of_ble_eq_true rfl)) dX11_tellStep_32 ⟨Nat.le_of_ble_eq_true rfl, Nat.le_of_ble_eq_true rfl⟩) hS (fun σ_s_11 H locs hw_10 hH hS => ?_)
    obtain ⟨hO9, hF9, hM9, hw_10⟩ := hw_10
    replace hM := hM.tu hM9 (by decide)
    replace hF := hF.tu hF9 (by decide)
    replace hO := hO9
    have hw_10 : gI σ_s_11 a 50 = gI σ_s_8 a 50 + 1 := hw_10
    exact th_vret hx hb hr hlocks hH hS ⟨hO, hF, hM, by omega⟩ dX11_tellStep_35
  · replace c_1 := mt (I_le (a := st) (b := 0) rst (show rng 0 from ⟨by decide, by decide⟩)).mpr c_1
    refine lv_aload_n hx hb dX11_tellStep_4 rfl (lv_at hl 0 rfl) ?_
    refine lv_bipush (v := I 46) hx hb dX11_tellStep_5 (by decide) ?_
    obtain ⟨_, hc_12⟩ := hO.cell h_a (by decide) (ci := 11) rfl
    refine th_callv (va_runV (As := [.int (I 46)]) (rest := []) ⟨hx, hb, hml, hown, hts⟩ (m_tell l G y b0 σ E hO a h_a 46 (show rng 46 from (show rng 46 from ⟨by decide, by decide⟩)) (by omega)) (cwV 1 hts gX11_tellStep_X11_tell rfl rfl rfl (by decide +kernel) ⟨Nat.le_of_ble_eq_true rfl, Nat.le_of_ble_eq_true rfl⟩) (th_PV hK hH rfl hc_12) rfl rfl hl.1 rfl (lv_room (Nat.le_of_ble_eq_true rfl)) dX11_tellStep_7 ⟨Nat.le_of_ble_eq_true rfl, Nat.le_of_ble_eq_true rfl⟩) hS (fun σ_s_14 H locs hw_13 hH hS => ?_)
    obtain ⟨hO9, hF9, hM9, hw_13⟩ := hw_13
    replace hM := hM.tu hM9 (by decide)
    replace hF := hF.tu hF9 (by decide)
    replace hO := hO9
    have hw_13 : gI σ_s_14 a 50 = gI σ a 50 + 1 := hw_13
    refine lv_aload_n hx hb dX11_tellStep_10 rfl (lv_at hl 0 rfl) ?_
    refine lv_iload_n hx hb dX11_tellStep_11 rfl (lv_at hl 1 rfl) ?_
    obtain ⟨_, hc_15⟩ := hO.cell h_a (by decide) (ci := 11) rfl
    refine th_callv (va_runV (As := [.int (I st)]) (rest := []) ⟨hx, hb, hml, hown, hts⟩ (m_tellWord l G y b0 σ_s_14 E hO a h_a st (show rng st from rst) (by omega)) (cwV 1 hts gX11_tellStep_X11_tellWord rfl rfl rfl (by decide +kernel) ⟨Nat.le_of_ble_eq_true rfl, Nat.le_of_ble_eq_true rfl⟩) (th_PV hK hH rfl hc_15) rfl rfl hl.1 rfl (lv_room (Nat.le_of_ble_eq_true rfl)) dX11_tellStep_12 ⟨Nat.le_of_ble_eq_true rfl, Nat.le_of_ble_eq_true rfl⟩) hS (fun σ_s_17 H locs hw_16 hH hS => ?_)
    obtain ⟨hO9, hF9, hM9, hw_16⟩ := hw_16
    replace hM := hM.tu hM9 (by decide)
    replace hF := hF.tu hF9 (by decide)
    replace hO := hO9
    have hw_16 : gI σ_s_14 a 50 ≤ gI σ_s_17 a 50 ∧ gI σ_s_17 a 50 ≤ gI σ_s_14 a 50 + 7 := hw_16
    exact th_vret hx hb hr hlocks hH hS ⟨hO, hF, hM, by omega⟩ dX11_tellStep_15

set_option maxHeartbeats 4000000 in
set_option maxRecDepth 100000 in
theorem m_tellThing1 (n : Nat) : ∀ (l : Launch) (G : va_G) (y : Nat → ClassId) (b0 : Nat) (σ : th_M) (E : th_E) (hO : ok y E σ) (a : Nat) (h_a : kd E a = 13) (i : Int) (ri : rng i) (l_i : 0 ≤ i) (u_i : i ≤ 59) (f1 : Nat → Int32) (ef1 : aF σ (ad E a 1) = f1) (hy0 : wf f1 i (i + mS f1 i)) (hy1 : 1 ≤ mS f1 i ∧ mS f1 i ≤ 60 ∧ i + mS f1 i ≤ 60) (hy2 : gI σ a 50 + 16 * mS f1 i ≤ 2000) (hn : (mS f1 i).toNat < n), Met l yX11_tellThing wsX11_tellThing ({ frames := 2*n+10, cells := 0, slots := 0, locals := (60*n+300) }) (th_P G y b0 σ [.ref a, .ref (ad E a 1), .int (I i)]) (th_Qv G b0 (fun σ1 => ok y E σ1 ∧ fr [13] E σ σ1 ∧ fm [49, 50] E σ σ1 a ∧ (gI σ a 50 ≤ gI σ1 a 50 ∧ gI σ1 a 50 + 9 ≤ gI σ a 50 + 16 * mS f1 i))) 0 0 (th_A b0) := by
  induction n with
  | zero => intro l G y b0 σ E hO a h_a i ri l_i u_i f1 ef1 hy0 hy1 hy2 hn; exact absurd hn (Nat.not_lt_zero _)
  | succ n ih =>
    intro l G y b0 σ E hO a h_a i ri l_i u_i f1 ef1 hy0 hy1 hy2 hn
    refine Met.ofW (cc := cX11_tellThing) (maxL := 5) (ret := none) (by decide) rfl ?_
    intro p e s m args below meth c s₁ B hml hv
    obtain ⟨rfl, hH, hK⟩ := hv
    have hx := B.exec
    have hb := B.bytes
    have hr := B.returns
    have hts := atoms_spec (ws := wsX11_tellThing) B.pre
    have hown : s.vm.findClass RX11 = some m.cls := findClass_of_methodNamed B.named
    have hlocks := B.notSynchronized
    have h00 : b0 ≤ s.heap.size := hH.1
    have hS : va_S (th_A b0) s.heap s.heap [] := va_S.rf
    have hF : fr [13] E σ σ := fr.rf
    have hM : fm [49, 50] E σ σ a := fm.rf
    have hl := lv_entry ([.ref a, .ref (ad E a 1), .int (I i)]) (n := 5) (Nat.le_of_ble_eq_true rfl)
    rw [lg_entry_eq]
    generalize (lg_sl ([.ref a, .ref (ad E a 1), .int (I i)]) ++ List.replicate (5 - (lg_sl ([.ref a, .ref (ad E a 1), .int (I i)])).length) Slot.unset).toArray = ls at hl ⊢
    have hl : lv_has ls 5 [(0, .ref a), (1, .ref (ad E a 1)), (2, .int (I i))] := hl
    obtain ⟨a500, ea500, ra500, la500, ua500⟩ := hO.gi h_a (by decide) k13_50
    refine lv_aload_n hx hb dX11_tellThing_0 rfl (lv_at hl 1 rfl) ?_
    refine lv_iload_n hx hb dX11_tellThing_1 rfl (lv_at hl 2 rfl) ?_
    refine th_calli (va_runS (As := [.ref (ad E a 1), .int (I i)]) (rest := []) ⟨hx, hb, hml, hown, hts⟩ (w_holds l G y b0 σ E hO (ad E a 1) 240 f1 (hO.roww h_a k13_1 isA1 ef1 rfl) i (show rng i from ri) (by omega) (by omega) (by omega)) (va_cwS 2 hts gX11_tellThing_X11_holds rfl rfl rfl (by decide +kernel) ⟨(by first | (simp only [headSpec]; omega) | omega | (dsimp only; omega)), (by first | (simp only [headSpec]; omega) | omega | (dsimp only; omega))⟩) (th_PS hK hH) rfl rfl hl.1 rfl (lv_room (Nat.le_of_ble_eq_true rfl)) dX11_tellThing_2 ⟨(by first | (simp only [headSpec]; omega) | omega | (dsimp only; omega)), (by first | (simp only [headSpec]; omega) | omega | (dsimp only; omega))⟩) hS (fun z_3 σ_s_2 H locs rz_3 hw_1 hH hS => ?_)
    obtain ⟨e9, bhw_1, hw_1⟩ := hw_1
    replace e9 := e9.symm
    subst e9
    have hw_1 : (z_3 = 1 ∧ 2 ≤ mK f1 i) ∨ (z_3 = 0 ∧ ¬ 2 ≤ mK f1 i) := hw_1
    refine lv_if_ne (tgt := 42) hx hb dX11_tellThing_5 (by decide) (fun c_4 => ?_) (fun c_4 => ?_)
    · replace c_4 := mt (I_eq (a := z_3) (b := 0) rz_3 (show rng 0 from ⟨by decide, by decide⟩)).mpr c_4
      refine lv_aload_n hx hb dX11_tellThing_42 rfl (lv_at hl 1 rfl) ?_
      refine lv_iload_n hx hb dX11_tellThing_43 rfl (lv_at hl 2 rfl) ?_
      refine th_calli (va_runS (As := [.ref (ad E a 1), .int (I i)]) (rest := []) ⟨hx, hb, hml, hown, hts⟩ (w_kind l G y b0 σ E hO (ad E a 1) 240 f1 (hO.roww h_a k13_1 isA1 ef1 rfl) i (show rng i from ri) (by omega) (by omega) (by omega)) (va_cwS 2 hts gX11_tellThing_X11_kind rfl rfl rfl (by decide +kernel) ⟨(by first | (simp only [headSpec]; omega) | omega | (dsimp only; omega)), (by first | (simp only [headSpec]; omega) | omega | (dsimp only; omega))⟩) (th_PS hK hH) rfl rfl hl.1 rfl (lv_room (Nat.le_of_ble_eq_true rfl)) dX11_tellThing_44 ⟨(by first | (simp only [headSpec]; omega) | omega | (dsimp only; omega)), (by first | (simp only [headSpec]; omega) | omega | (dsimp only; omega))⟩) hS (fun z_7 σ_s_6 H locs rz_7 hw_5 hH hS => ?_)
      obtain ⟨e9, hw_5⟩ := hw_5
      replace e9 := e9.symm
      subst e9
      have hw_5 : z_7 = mK f1 i := hw_5
      refine lv_iconst (v := I 3) hx hb dX11_tellThing_47 (by decide) ?_
      refine th_join (α := Int) (J := 56) (stk := fun x9 => [.int (I x9)]) (fun x9 σ9 H9 l9 ls9 => σ9 = σ ∧ th_H G b0 σ9 H9 ∧ va_S (th_A b0) s.heap H9 l9 ∧ lv_has ls9 5 [(0, .ref a), (1, .ref (ad E a 1)), (2, .int (I i))] ∧ rng x9 ∧ (x9 = 0 ∨ x9 = 1)) ?_ (fun jK_10 => ?_)
      · intro x9 σ_K_10 H locs ls hI9
        obtain ⟨w0q9, ex9⟩ : ∃ z, z = x9 := ⟨_, rfl⟩
        subst ex9
        obtain ⟨eK_10, hH, hS, hl, rw0q9, K_10_0⟩ := hI9
        replace eK_10 := eK_10.symm
        subst eK_10
        have hl : lv_has ls 5 [(0, .ref a), (1, .ref (ad E a 1)), (2, .int (I i))] := hl
        have rw0q9 : rng w0q9 := rw0q9
        have K_10_0 : w0q9 = 0 ∨ w0q9 = 1 := K_10_0
        refine lv_istore_n (lv' := [(3, .int (I w0q9)), (0, .ref a), (1, .ref (ad E a 1)), (2, .int (I i))]) hx hb dX11_tellThing_56 rfl hl (by decide) rfl (fun ls hl => ?_)
        refine lv_aload_n hx hb dX11_tellThing_57 rfl (lv_at hl 1 rfl) ?_
        refine lv_iload_n hx hb dX11_tellThing_58 rfl (lv_at hl 0 rfl) ?_
        refine th_join (α := Int) (J := 69) (stk := fun x9 => [.int (I x9), .ref a]) (fun x9 σ9 H9 l9 ls9 => σ9 = σ ∧ th_H G b0 σ9 H9 ∧ va_S (th_A b0) s.heap H9 l9 ∧ lv_has ls9 5 [(0, .ref a), (1, .ref (ad E a 1)), (2, .int (I i)), (3, .int (I w0q9))] ∧ rng x9 ∧ (x9 = 91 ∨ x9 = 123)) ?_ (fun jK_13 => ?_)
        · intro x9 σ_K_13 H locs ls hI9
          obtain ⟨w0q12, ex9⟩ : ∃ z, z = x9 := ⟨_, rfl⟩
          subst ex9
          obtain ⟨eK_13, hH, hS, hl, rw0q12, K_13_0⟩ := hI9
          replace eK_13 := eK_13.symm
          subst eK_13
          have hl : lv_has ls 5 [(0, .ref a), (1, .ref (ad E a 1)), (2, .int (I i)), (3, .int (I w0q9))] := hl
          have rw0q12 : rng w0q12 := rw0q12
          have K_13_0 : w0q12 = 91 ∨ w0q12 = 123 := K_13_0
          obtain ⟨_, hc_14⟩ := hO.cell h_a (by decide) (ci := 11) rfl
          refine th_callv (va_runV (As := [.int (I w0q12)]) (rest := []) ⟨hx, hb, hml, hown, hts⟩ (m_tell l G y b0 σ E hO a h_a w0q12 (show rng w0q12 from rw0q12) (by omega)) (cwV 1 hts gX11_tellThing_X11_tell rfl rfl rfl (by decide +kernel) ⟨(by first | (simp only [headSpec]; omega) | omega | (dsimp only; omega)), (by first | (simp only [headSpec]; omega) | omega | (dsimp only; omega))⟩) (th_PV hK hH rfl hc_14) rfl rfl hl.1 rfl (lv_room (Nat.le_of_ble_eq_true rfl)) dX11_tellThing_69 ⟨(by first | (simp only [headSpec]; omega) | omega | (dsimp only; omega)), (by first | (simp only [headSpec]; omega) | omega | (dsimp only; omega))⟩) hS (fun σ_s_16 H locs hw_15 hH hS => ?_)
          obtain ⟨hO9, hF9, hM9, hw_15⟩ := hw_15
          replace hM := hM.tu hM9 (by decide)
          replace hF := hF.tu hF9 (by decide)
          have e_17 : aF σ_s_16 (ad E a 1) = f1 := (hM9.a (by decide) (by decide)).trans ef1
          replace hO := hO9
          have hw_15 : gI σ_s_16 a 50 = gI σ a 50 + 1 := hw_15
          refine lv_iload_n hx hb dX11_tellThing_72 rfl (lv_at hl 2 rfl) ?_
          refine lv_iconst (v := I 1) hx hb dX11_tellThing_73 (by decide) ?_
          refine lv_iadd hx hb dX11_tellThing_74 ?_
          refine nq_top (I_add _ _) ?_
          refine lv_istore (lv' := [(4, .int (I (i + 1))), (0, .ref a), (1, .ref (ad E a 1)), (2, .int (I i)), (3, .int (I w0q9))]) hx hb dX11_tellThing_75 hl (by decide) rfl (fun ls hl => ?_)
          refine th_loop (α := Int) (pc := 77) (fun x9 => (i + mS f1 i - x9).toNat) (fun x9 σ9 H9 l9 ls9 => ok y E σ9 ∧ fr [13] E σ σ9 ∧ fm [49, 50] E σ σ9 a ∧ th_H G b0 σ9 H9 ∧ va_S (th_A b0) s.heap H9 l9 ∧ lv_has ls9 5 [(0, .ref a), (1, .ref (ad E a 1)), (2, .int (I i)), (3, .int (I w0q9)), (4, .int (I x9))] ∧ rng x9 ∧ (i + 1 ≤ x9) ∧ (x9 ≤ i + mS f1 i) ∧ (0 ≤ x9) ∧ (x9 ≤ 60) ∧ (gI σ a 50 ≤ gI σ9 a 50) ∧ (gI σ9 a 50 ≤ gI σ a 50 + 1 + 16 * (x9 - (i + 1))) ∧ (aF σ9 (ad E a 1) = f1)) ?_ (i + 1) σ_s_16 _ _ _ ⟨hO, hF, hM, hH, hS, lv_sub hl [1, 2, 3, 4, 0] rfl, ⟨by first | (dsimp only; omega) | omega, by first | (dsimp only; omega) | omega⟩, by first | (dsimp only; omega) | omega, by first | (dsimp only; omega) | omega, by first | (dsimp only; omega) | omega, by first | (dsimp only; omega) | omega, by first | (dsimp only; omega) | omega, by first | (dsimp only; omega) | omega, e_17⟩
          intro x9 σ_J_69 H locs ls hI9 ihJ_69
          obtain ⟨v4q68, ex9⟩ : ∃ z, z = x9 := ⟨_, rfl⟩
          subst ex9
          obtain ⟨hO, hF, hM, hH, hS, hl, rv4q68, J_69_0, J_69_1, J_69_2, J_69_3, J_69_4, J_69_5, J_69_6⟩ := hI9
          have hl : lv_has ls 5 [(0, .ref a), (1, .ref (ad E a 1)), (2, .int (I i)), (3, .int (I w0q9)), (4, .int (I v4q68))] := hl
          have rv4q68 : rng v4q68 := rv4q68
          have J_69_0 : i + 1 ≤ v4q68 := J_69_0
          have J_69_1 : v4q68 ≤ i + mS f1 i := J_69_1
          have J_69_2 : 0 ≤ v4q68 := J_69_2
          have J_69_3 : v4q68 ≤ 60 := J_69_3
          have J_69_4 : gI σ a 50 ≤ gI σ_J_69 a 50 := J_69_4
          have J_69_5 : gI σ_J_69 a 50 ≤ gI σ a 50 + 1 + 16 * (v4q68 - (i + 1)) := J_69_5
          have J_69_6 : aF σ_J_69 (ad E a 1) = f1 := J_69_6
          refine lv_iload hx hb dX11_tellThing_77 (lv_at hl 4 rfl) ?_
          refine lv_iload_n hx hb dX11_tellThing_79 rfl (lv_at hl 2 rfl) ?_
          refine lv_aload_n hx hb dX11_tellThing_80 rfl (lv_at hl 1 rfl) ?_
          refine lv_iload_n hx hb dX11_tellThing_81 rfl (lv_at hl 2 rfl) ?_
          refine th_calli (va_runS (As := [.ref (ad E a 1), .int (I i)]) (rest := [.int (I i), .int (I v4q68)]) ⟨hx, hb, hml, hown, hts⟩ (w_size l G y b0 σ_J_69 E hO (ad E a 1) 240 f1 (hO.roww h_a k13_1 isA1 J_69_6 rfl) i (show rng i from ri) (by omega) (by omega) (by omega)) (va_cwS 2 hts gX11_tellThing_X11_size rfl rfl rfl (by decide +kernel) ⟨(by first | (simp only [headSpec]; omega) | omega | (dsimp only; omega)), (by first | (simp only [headSpec]; omega) | omega | (dsimp only; omega))⟩) (th_PS hK hH) rfl rfl hl.1 rfl (lv_room (Nat.le_of_ble_eq_true rfl)) dX11_tellThing_82 ⟨(by first | (simp only [headSpec]; omega) | omega | (dsimp only; omega)), (by first | (simp only [headSpec]; omega) | omega | (dsimp only; omega))⟩) hS (fun z_72 σ_s_71 H locs rz_72 hw_70 hH hS => ?_)
          obtain ⟨e9, hw_70⟩ := hw_70
          replace e9 := e9.symm
          subst e9
          have hw_70 : z_72 = mS f1 i := hw_70
          refine lv_iadd hx hb dX11_tellThing_85 ?_
          refine th_addo (fun z_73 rz_73 hz_73 => ?_)
          refine lv_icmp_ge (tgt := 146) hx hb dX11_tellThing_86 (by decide) (fun c_74 => ?_) (fun c_74 => ?_)
          · replace c_74 := (I_le (a := z_73) (b := v4q68) rz_73 rv4q68).mp c_74
            refine lv_aload_n hx hb dX11_tellThing_146 rfl (lv_at hl 0 rfl) ?_
            refine lv_iload_n hx hb dX11_tellThing_147 rfl (lv_at hl 3 rfl) ?_
            refine th_join (α := Int) (J := 158) (stk := fun x9 => [.int (I x9), .ref a]) (fun x9 σ9 H9 l9 ls9 => σ9 = σ_J_69 ∧ th_H G b0 σ9 H9 ∧ va_S (th_A b0) s.heap H9 l9 ∧ lv_has ls9 5 [] ∧ rng x9 ∧ (x9 = 93 ∨ x9 = 125)) ?_ (fun jK_77 => ?_)
            · intro x9 σ_K_77 H locs ls hI9
              obtain ⟨w0q76, ex9⟩ : ∃ z, z = x9 := ⟨_, rfl⟩
              subst ex9
              obtain ⟨eK_77, hH, hS, hl, rw0q76, K_77_0⟩ := hI9
              replace eK_77 := eK_77.symm
              subst eK_77
              have hl : lv_has ls 5 [] := hl
              have rw0q76 : rng w0q76 := rw0q76
              have K_77_0 : w0q76 = 93 ∨ w0q76 = 125 := K_77_0
              obtain ⟨_, hc_78⟩ := hO.cell h_a (by decide) (ci := 11) rfl
              refine th_callv (va_runV (As := [.int (I w0q76)]) (rest := []) ⟨hx, hb, hml, hown, hts⟩ (m_tell l G y b0 σ_J_69 E hO a h_a w0q76 (show rng w0q76 from rw0q76) (by omega)) (cwV 1 hts gX11_tellThing_X11_tell rfl rfl rfl (by decide +kernel) ⟨(by first | (simp only [headSpec]; omega) | omega | (dsimp only; omega)), (by first | (simp only [headSpec]; omega) | omega | (dsimp only; omega))⟩) (th_PV hK hH rfl hc_78) rfl rfl hl.1 rfl (lv_room (Nat.le_of_ble_eq_true rfl)) dX11_tellThing_158 ⟨(by first | (simp only [headSpec]; omega) | omega | (dsimp only; omega)), (by first | (simp only [headSpec]; omega) | omega | (dsimp only; omega))⟩) hS (fun σ_s_80 H locs hw_79 hH hS => ?_)
              obtain ⟨hO9, hF9, hM9, hw_79⟩ := hw_79
              replace hM := hM.tu hM9 (by decide)
              replace hF := hF.tu hF9 (by decide)
              have e_81 : aF σ_s_80 (ad E a 1) = f1 := (hM9.a (by decide) (by decide)).trans J_69_6
              replace hO := hO9
              have hw_79 : gI σ_s_80 a 50 = gI σ_J_69 a 50 + 1 := hw_79
              exact th_vret hx hb hr hlocks hH hS ⟨hO, hF, hM, by omega⟩ dX11_tellThing_161
            · refine lv_if_eq (tgt := 156) hx hb dX11_tellThing_148 (by decide) (fun c_82 => ?_) (fun c_82 => ?_)
              · replace c_82 := (I_eq (a := w0q9) (b := 0) rw0q9 (show rng 0 from ⟨by decide, by decide⟩)).mp c_82
                refine lv_bipush (v := I 93) hx hb dX11_tellThing_156 (by decide) ?_
                replace hl : lv_has ls 5 [] := lv_sub hl [] rfl
                exact jK_77 (93) σ_J_69 _ _ _ ⟨rfl, hH, hS, lv_sub hl [] rfl, (show rng 93 from ⟨by decide, by decide⟩), by first | (dsimp only; omega) | omega⟩
              · replace c_82 := mt (I_eq (a := w0q9) (b := 0) rw0q9 (show rng 0 from ⟨by decide, by decide⟩)).mpr c_82
                refine lv_bipush (v := I 125) hx hb dX11_tellThing_151 (by decide) ?_
                refine lv_goto (tgt := 158) hx hb dX11_tellThing_153 (by decide) ?_
                replace hl : lv_has ls 5 [] := lv_sub hl [] rfl
                exact jK_77 (125) σ_J_69 _ _ _ ⟨rfl, hH, hS, lv_sub hl [] rfl, (show rng 125 from ⟨by decide, by decide⟩), by first | (dsimp only; omega) | omega⟩
          · replace c_74 := mt (I_le (a := z_73) (b := v4q68) rz_73 rv4q68).mpr c_74
            obtain ⟨z_83, e_84, rz_83, lz_83, uz_83⟩ := hO.gi h_a (by decide) k13_50
            have hk9 := hy0 v4q68 (by omega) (by omega)
            refine lv_iload hx hb dX11_tellThing_89 (lv_at hl 4 rfl) ?_
            refine lv_iload_n hx hb dX11_tellThing_91 rfl (lv_at hl 2 rfl) ?_
            refine lv_iconst (v := I 1) hx hb dX11_tellThing_92 (by decide) ?_
            refine lv_iadd hx hb dX11_tellThing_93 ?_
            refine nq_top (I_add _ _) ?_
            refine th_join (α := Unit) (J := 103) (stk := fun x9 => []) (fun x9 σ9 H9 l9 ls9 => ok y E σ9 ∧ fr [13] E σ σ9 ∧ fm [49, 50] E σ σ9 a ∧ th_H G b0 σ9 H9 ∧ va_S (th_A b0) s.heap H9 l9 ∧ lv_has ls9 5 [(0, .ref a), (1, .ref (ad E a 1)), (2, .int (I i)), (3, .int (I w0q9)), (4, .int (I v4q68))] ∧ (gI σ9 a 50 ≤ z_83 + 1) ∧ (z_83 ≤ gI σ9 a 50) ∧ (aF σ9 (ad E a 1) = f1)) ?_ (fun jK_91 => ?_)
            · intro x9 σ_K_91 H locs ls hI9
              obtain ⟨hO, hF, hM, hH, hS, hl, K_91_0, K_91_1, K_91_2⟩ := hI9
              have hl : lv_has ls 5 [(0, .ref a), (1, .ref (ad E a 1)), (2, .int (I i)), (3, .int (I w0q9)), (4, .int (I v4q68))] := hl
              have K_91_0 : gI σ_K_91 a 50 ≤ z_83 + 1 := K_91_0
              have K_91_1 : z_83 ≤ gI σ_K_91 a 50 := K_91_1
              have K_91_2 : aF σ_K_91 (ad E a 1) = f1 := K_91_2
              refine lv_iload_n hx hb dX11_tellThing_103 rfl (lv_at hl 3 rfl) ?_
              refine th_join (α := Unit) (J := 125) (stk := fun x9 => []) (fun x9 σ9 H9 l9 ls9 => ok y E σ9 ∧ fr [13] E σ σ9 ∧ fm [49, 50] E σ σ9 a ∧ th_H G b0 σ9 H9 ∧ va_S (th_A b0) s.heap H9 l9 ∧ lv_has ls9 5 [(0, .ref a), (1, .ref (ad E a 1)), (2, .int (I i)), (3, .int (I w0q9)), (4, .int (I v4q68))] ∧ (gI σ9 a 50 ≤ z_83 + 9) ∧ (z_83 ≤ gI σ9 a 50) ∧ (aF σ9 (ad E a 1) = f1)) ?_ (fun jK_103 => ?_)
              · intro x9 σ_K_103 H locs ls hI9
                obtain ⟨hO, hF, hM, hH, hS, hl, K_103_0, K_103_1, K_103_2⟩ := hI9
                have hl : lv_has ls 5 [(0, .ref a), (1, .ref (ad E a 1)), (2, .int (I i)), (3, .int (I w0q9)), (4, .int (I v4q68))] := hl
                have K_103_0 : gI σ_K_103 a 50 ≤ z_83 + 9 := K_103_0
                have K_103_1 : z_83 ≤ gI σ_K_103 a 50 := K_103_1
                have K_103_2 : aF σ_K_103 (ad E a 1) = f1 := K_103_2
                refine lv_aload_n hx hb dX11_tellThing_125 rfl (lv_at hl 0 rfl) ?_
                refine lv_aload_n hx hb dX11_tellThing_126 rfl (lv_at hl 1 rfl) ?_
                refine lv_iload hx hb dX11_tellThing_127 (lv_at hl 4 rfl) ?_
                obtain ⟨_, hc_104⟩ := hO.cell h_a (by decide) (ci := 11) rfl
                refine th_callv (va_runV (As := [.ref (ad E a 1), .int (I v4q68)]) (rest := []) ⟨hx, hb, hml, hown, hts⟩ (ih l G y b0 σ_K_103 E hO a h_a v4q68 (show rng v4q68 from rv4q68) (by omega) (by omega) f1 K_103_2 ((hy0.sub (by omega) (by omega))) (by omega) (by omega) (by omega)) (cwV 2 hts gX11_tellThing_X11_tellThing rfl rfl rfl (by decide +kernel) ⟨(by first | (simp only [headSpec]; omega) | omega | (dsimp only; omega)), (by first | (simp only [headSpec]; omega) | omega | (dsimp only; omega))⟩) (th_PV hK hH rfl hc_104) rfl rfl hl.1 rfl (lv_room (Nat.le_of_ble_eq_true rfl)) dX11_tellThing_129 ⟨(by first | (simp only [headSpec]; omega) | omega | (dsimp only; omega)), (by first | (simp only [headSpec]; omega) | omega | (dsimp only; omega))⟩) hS (fun σ_s_106 H locs hw_105 hH hS => ?_)
                obtain ⟨hO9, hF9, hM9, hw_105⟩ := hw_105
                replace hM := hM.tu hM9 (by decide)
                replace hF := hF.tu hF9 (by decide)
                have e_107 : aF σ_s_106 (ad E a 1) = f1 := (hM9.a (by decide) (by decide)).trans K_103_2
                replace hO := hO9
                have hw_105 : gI σ_K_103 a 50 ≤ gI σ_s_106 a 50 ∧ gI σ_s_106 a 50 + 9 ≤ gI σ_K_103 a 50 + 16 * mS f1 v4q68 := hw_105
                refine lv_iload hx hb dX11_tellThing_132 (lv_at hl 4 rfl) ?_
                refine lv_aload_n hx hb dX11_tellThing_134 rfl (lv_at hl 1 rfl) ?_
                refine lv_iload hx hb dX11_tellThing_135 (lv_at hl 4 rfl) ?_
                refine th_calli (va_runS (As := [.ref (ad E a 1), .int (I v4q68)]) (rest := [.int (I v4q68)]) ⟨hx, hb, hml, hown, hts⟩ (w_size l G y b0 σ_s_106 E hO (ad E a 1) 240 f1 (hO.roww h_a k13_1 isA1 e_107 rfl) v4q68 (show rng v4q68 from rv4q68) (by omega) (by omega) (by omega)) (va_cwS 2 hts gX11_tellThing_X11_size rfl rfl rfl (by decide +kernel) ⟨(by first | (simp only [headSpec]; omega) | omega | (dsimp only; omega)), (by first | (simp only [headSpec]; omega) | omega | (dsimp only; omega))⟩) (th_PS hK hH) rfl rfl hl.1 rfl (lv_room (Nat.le_of_ble_eq_true rfl)) dX11_tellThing_137 ⟨(by first | (simp only [headSpec]; omega) | omega | (dsimp only; omega)), (by first | (simp only [headSpec]; omega) | omega | (dsimp only; omega))⟩) hS (fun z_110 σ_s_109 H locs rz_110 hw_108 hH hS => ?_)
                obtain ⟨e9, hw_108⟩ := hw_108
                replace e9 := e9.symm
                subst e9
                have hw_108 : z_110 = mS f1 v4q68 := hw_108
                refine lv_iadd hx hb dX11_tellThing_140 ?_
                refine th_addo (fun z_111 rz_111 hz_111 => ?_)
                refine lv_istore (lv' := [(4, .int (I z_111)), (0, .ref a), (1, .ref (ad E a 1)), (2, .int (I i)), (3, .int (I w0q9))]) hx hb dX11_tellThing_141 hl (by decide) rfl (fun ls hl => ?_)
                refine lv_goto (tgt := 77) hx hb dX11_tellThing_143 (by decide) ?_
                exact ihJ_69 (z_111) σ_s_106 _ _ _ (by first | (dsimp only; omega) | omega) ⟨hO, hF, hM, hH, hS, lv_sub hl [1, 2, 3, 4, 0] rfl, rz_111, by first | (dsimp only; omega) | omega, by first | (dsimp only; omega) | omega, by first | (dsimp only; omega) | omega, by first | (dsimp only; omega) | omega, by first | (dsimp only; omega) | omega, by first | (dsimp only; omega) | omega, e_107⟩
              · refine lv_if_eq (tgt := 125) hx hb dX11_tellThing_104 (by decide) (fun c_112 => ?_) (fun c_112 => ?_)
                · replace c_112 := (I_eq (a := w0q9) (b := 0) rw0q9 (show rng 0 from ⟨by decide, by decide⟩)).mp c_112
                  exact jK_103 () σ_K_91 _ _ _ ⟨hO, hF, hM, hH, hS, lv_sub hl [0, 1, 2, 3, 4] rfl, by first | (dsimp only; omega) | omega, by first | (dsimp only; omega) | omega, K_91_2⟩
                · replace c_112 := mt (I_eq (a := w0q9) (b := 0) rw0q9 (show rng 0 from ⟨by decide, by decide⟩)).mpr c_112
                  refine lv_aload_n hx hb dX11_tellThing_107 rfl (lv_at hl 0 rfl) ?_
                  refine lv_aload_n hx hb dX11_tellThing_108 rfl (lv_at hl 1 rfl) ?_
                  refine lv_iconst (v := I 4) hx hb dX11_tellThing_109 (by decide) ?_
                  refine lv_iload hx hb dX11_tellThing_110 (lv_at hl 4 rfl) ?_
                  refine lv_imul hx hb dX11_tellThing_112 ?_
                  refine nq_top (I_mul _ _) ?_
                  refine lv_iconst (v := I 2) hx hb dX11_tellThing_113 (by decide) ?_
                  refine lv_iadd hx hb dX11_tellThing_114 ?_
                  refine nq_top (I_add _ _) ?_
                  refine m_iald hx hb hK hH hO h_a k13_1 isA1 K_91_2 ⟨by omega, by omega⟩ (by omega) (by omega) dX11_tellThing_115 (fun z_113 ez_113 rz_113 elx9 => ?_)
                  obtain ⟨_, hc_114⟩ := hO.cell h_a (by decide) (ci := 11) rfl
                  refine th_callv (va_runV (As := [.int (I z_113)]) (rest := []) ⟨hx, hb, hml, hown, hts⟩ (m_tellWord l G y b0 σ_K_91 E hO a h_a z_113 (show rng z_113 from rz_113) (by omega)) (cwV 1 hts gX11_tellThing_X11_tellWord rfl rfl rfl (by decide +kernel) ⟨(by first | (simp only [headSpec]; omega) | omega | (dsimp only; omega)), (by first | (simp only [headSpec]; omega) | omega | (dsimp only; omega))⟩) (th_PV hK hH rfl hc_114) rfl rfl hl.1 rfl (lv_room (Nat.le_of_ble_eq_true rfl)) dX11_tellThing_116 ⟨(by first | (simp only [headSpec]; omega) | omega | (dsimp only; omega)), (by first | (simp only [headSpec]; omega) | omega | (dsimp only; omega))⟩) hS (fun σ_s_116 H locs hw_115 hH hS => ?_)
                  obtain ⟨hO9, hF9, hM9, hw_115⟩ := hw_115
                  replace hM := hM.tu hM9 (by decide)
                  replace hF := hF.tu hF9 (by decide)
                  have e_117 : aF σ_s_116 (ad E a 1) = f1 := (hM9.a (by decide) (by decide)).trans K_91_2
                  replace hO := hO9
                  have hw_115 : gI σ_K_91 a 50 ≤ gI σ_s_116 a 50 ∧ gI σ_s_116 a 50 ≤ gI σ_K_91 a 50 + 7 := hw_115
                  refine lv_aload_n hx hb dX11_tellThing_119 rfl (lv_at hl 0 rfl) ?_
                  refine lv_bipush (v := I 58) hx hb dX11_tellThing_120 (by decide) ?_
                  obtain ⟨_, hc_118⟩ := hO.cell h_a (by decide) (ci := 11) rfl
                  refine th_callv (va_runV (As := [.int (I 58)]) (rest := []) ⟨hx, hb, hml, hown, hts⟩ (m_tell l G y b0 σ_s_116 E hO a h_a 58 (show rng 58 from (show rng 58 from ⟨by decide, by decide⟩)) (by omega)) (cwV 1 hts gX11_tellThing_X11_tell rfl rfl rfl (by decide +kernel) ⟨(by first | (simp only [headSpec]; omega) | omega | (dsimp only; omega)), (by first | (simp only [headSpec]; omega) | omega | (dsimp only; omega))⟩) (th_PV hK hH rfl hc_118) rfl rfl hl.1 rfl (lv_room (Nat.le_of_ble_eq_true rfl)) dX11_tellThing_122 ⟨(by first | (simp only [headSpec]; omega) | omega | (dsimp only; omega)), (by first | (simp only [headSpec]; omega) | omega | (dsimp only; omega))⟩) hS (fun σ_s_120 H locs hw_119 hH hS => ?_)
                  obtain ⟨hO9, hF9, hM9, hw_119⟩ := hw_119
                  replace hM := hM.tu hM9 (by decide)
                  replace hF := hF.tu hF9 (by decide)
                  have e_121 : aF σ_s_120 (ad E a 1) = f1 := (hM9.a (by decide) (by decide)).trans e_117
                  replace hO := hO9
                  have hw_119 : gI σ_s_120 a 50 = gI σ_s_116 a 50 + 1 := hw_119
                  exact jK_103 () σ_s_120 _ _ _ ⟨hO, hF, hM, hH, hS, lv_sub hl [0, 1, 2, 3, 4] rfl, by first | (dsimp only; omega) | omega, by first | (dsimp only; omega) | omega, e_121⟩
            · refine lv_icmp_le (tgt := 103) hx hb dX11_tellThing_94 (by decide) (fun c_122 => ?_) (fun c_122 => ?_)
              · replace c_122 := (I_le (a := v4q68) (b := i + 1) rv4q68 ⟨by omega, by omega⟩).mp c_122
                exact jK_91 () σ_J_69 _ _ _ ⟨hO, hF, hM, hH, hS, lv_sub hl [0, 1, 2, 3, 4] rfl, by first | (dsimp only; omega) | omega, by first | (dsimp only; omega) | omega, J_69_6⟩
              · replace c_122 := mt (I_le (a := v4q68) (b := i + 1) rv4q68 ⟨by omega, by omega⟩).mpr c_122
                refine lv_aload_n hx hb dX11_tellThing_97 rfl (lv_at hl 0 rfl) ?_
                refine lv_bipush (v := I 44) hx hb dX11_tellThing_98 (by decide) ?_
                obtain ⟨_, hc_123⟩ := hO.cell h_a (by decide) (ci := 11) rfl
                refine th_callv (va_runV (As := [.int (I 44)]) (rest := []) ⟨hx, hb, hml, hown, hts⟩ (m_tell l G y b0 σ_J_69 E hO a h_a 44 (show rng 44 from (show rng 44 from ⟨by decide, by decide⟩)) (by omega)) (cwV 1 hts gX11_tellThing_X11_tell rfl rfl rfl (by decide +kernel) ⟨(by first | (simp only [headSpec]; omega) | omega | (dsimp only; omega)), (by first | (simp only [headSpec]; omega) | omega | (dsimp only; omega))⟩) (th_PV hK hH rfl hc_123) rfl rfl hl.1 rfl (lv_room (Nat.le_of_ble_eq_true rfl)) dX11_tellThing_100 ⟨(by first | (simp only [headSpec]; omega) | omega | (dsimp only; omega)), (by first | (simp only [headSpec]; omega) | omega | (dsimp only; omega))⟩) hS (fun σ_s_125 H locs hw_124 hH hS => ?_)
                obtain ⟨hO9, hF9, hM9, hw_124⟩ := hw_124
                replace hM := hM.tu hM9 (by decide)
                replace hF := hF.tu hF9 (by decide)
                have e_126 : aF σ_s_125 (ad E a 1) = f1 := (hM9.a (by decide) (by decide)).trans J_69_6
                replace hO := hO9
                have hw_124 : gI σ_s_125 a 50 = gI σ_J_69 a 50 + 1 := hw_124
                exact jK_91 () σ_s_125 _ _ _ ⟨hO, hF, hM, hH, hS, lv_sub hl [0, 1, 2, 3, 4] rfl, by first | (dsimp only; omega) | omega, by first | (dsimp only; omega) | omega, e_126⟩
        · refine lv_if_eq (tgt := 67) hx hb dX11_tellThing_59 (by decide) (fun c_127 => ?_) (fun c_127 => ?_)
          · replace c_127 := (I_eq (a := w0q9) (b := 0) rw0q9 (show rng 0 from ⟨by decide, by decide⟩)).mp c_127
            refine lv_bipush (v := I 91) hx hb dX11_tellThing_67 (by decide) ?_
            exact jK_13 (91) σ _ _ _ ⟨rfl, hH, hS, lv_sub hl [1, 2, 3, 0] rfl, (show rng 91 from ⟨by decide, by decide⟩), by first | (dsimp only; omega) | omega⟩
          · replace c_127 := mt (I_eq (a := w0q9) (b := 0) rw0q9 (show rng 0 from ⟨by decide, by decide⟩)).mpr c_127
            refine lv_bipush (v := I 123) hx hb dX11_tellThing_62 (by decide) ?_
            refine lv_goto (tgt := 69) hx hb dX11_tellThing_64 (by decide) ?_
            exact jK_13 (123) σ _ _ _ ⟨rfl, hH, hS, lv_sub hl [1, 2, 3, 0] rfl, (show rng 123 from ⟨by decide, by decide⟩), by first | (dsimp only; omega) | omega⟩
      · refine lv_icmp_ne (tgt := 55) hx hb dX11_tellThing_48 (by decide) (fun c_128 => ?_) (fun c_128 => ?_)
        · replace c_128 := mt (I_eq (a := z_7) (b := 3) rz_7 (show rng 3 from ⟨by decide, by decide⟩)).mpr c_128
          refine lv_iconst (v := I 0) hx hb dX11_tellThing_55 (by decide) ?_
          exact jK_10 (0) σ _ _ _ ⟨rfl, hH, hS, lv_sub hl [0, 1, 2] rfl, (show rng 0 from ⟨by decide, by decide⟩), by first | (dsimp only; omega) | omega⟩
        · replace c_128 := (I_eq (a := z_7) (b := 3) rz_7 (show rng 3 from ⟨by decide, by decide⟩)).mp c_128
          refine lv_iconst (v := I 1) hx hb dX11_tellThing_51 (by decide) ?_
          refine lv_goto (tgt := 56) hx hb dX11_tellThing_52 (by decide) ?_
          exact jK_10 (1) σ _ _ _ ⟨rfl, hH, hS, lv_sub hl [0, 1, 2] rfl, (show rng 1 from ⟨by decide, by decide⟩), by first | (dsimp only; omega) | omega⟩
    · replace c_4 := (I_eq (a := z_3) (b := 0) rz_3 (show rng 0 from ⟨by decide, by decide⟩)).mp c_4
      refine lv_aload_n hx hb dX11_tellThing_8 rfl (lv_at hl 1 rfl) ?_
      refine lv_iload_n hx hb dX11_tellThing_9 rfl (lv_at hl 2 rfl) ?_
      refine th_calli (va_runS (As := [.ref (ad E a 1), .int (I i)]) (rest := []) ⟨hx, hb, hml, hown, hts⟩ (w_kind l G y b0 σ E hO (ad E a 1) 240 f1 (hO.roww h_a k13_1 isA1 ef1 rfl) i (show rng i from ri) (by omega) (by omega) (by omega)) (va_cwS 2 hts gX11_tellThing_X11_kind rfl rfl rfl (by decide +kernel) ⟨(by first | (simp only [headSpec]; omega) | omega | (dsimp only; omega)), (by first | (simp only [headSpec]; omega) | omega | (dsimp only; omega))⟩) (th_PS hK hH) rfl rfl hl.1 rfl (lv_room (Nat.le_of_ble_eq_true rfl)) dX11_tellThing_10 ⟨(by first | (simp only [headSpec]; omega) | omega | (dsimp only; omega)), (by first | (simp only [headSpec]; omega) | omega | (dsimp only; omega))⟩) hS (fun z_131 σ_s_130 H locs rz_131 hw_129 hH hS => ?_)
      obtain ⟨e9, hw_129⟩ := hw_129
      replace e9 := e9.symm
      subst e9
      have hw_129 : z_131 = mK f1 i := hw_129
      refine lv_if_ne (tgt := 30) hx hb dX11_tellThing_13 (by decide) (fun c_132 => ?_) (fun c_132 => ?_)
      · replace c_132 := mt (I_eq (a := z_131) (b := 0) rz_131 (show rng 0 from ⟨by decide, by decide⟩)).mpr c_132
        refine lv_aload_n hx hb dX11_tellThing_30 rfl (lv_at hl 0 rfl) ?_
        refine lv_aload_n hx hb dX11_tellThing_31 rfl (lv_at hl 1 rfl) ?_
        refine lv_iconst (v := I 4) hx hb dX11_tellThing_32 (by decide) ?_
        refine lv_iload_n hx hb dX11_tellThing_33 rfl (lv_at hl 2 rfl) ?_
        refine lv_imul hx hb dX11_tellThing_34 ?_
        refine nq_top (I_mul _ _) ?_
        refine lv_iconst (v := I 1) hx hb dX11_tellThing_35 (by decide) ?_
        refine lv_iadd hx hb dX11_tellThing_36 ?_
        refine nq_top (I_add _ _) ?_
        refine m_iald hx hb hK hH hO h_a k13_1 isA1 ef1 ⟨by omega, by omega⟩ (by omega) (by omega) dX11_tellThing_37 (fun z_133 ez_133 rz_133 elx9 => ?_)
        obtain ⟨_, hc_134⟩ := hO.cell h_a (by decide) (ci := 11) rfl
        refine th_callv (va_runV (As := [.int (I z_133)]) (rest := []) ⟨hx, hb, hml, hown, hts⟩ (m_tellWord l G y b0 σ E hO a h_a z_133 (show rng z_133 from rz_133) (by omega)) (cwV 1 hts gX11_tellThing_X11_tellWord rfl rfl rfl (by decide +kernel) ⟨(by first | (simp only [headSpec]; omega) | omega | (dsimp only; omega)), (by first | (simp only [headSpec]; omega) | omega | (dsimp only; omega))⟩) (th_PV hK hH rfl hc_134) rfl rfl hl.1 rfl (lv_room (Nat.le_of_ble_eq_true rfl)) dX11_tellThing_38 ⟨(by first | (simp only [headSpec]; omega) | omega | (dsimp only; omega)), (by first | (simp only [headSpec]; omega) | omega | (dsimp only; omega))⟩) hS (fun σ_s_136 H locs hw_135 hH hS => ?_)
        obtain ⟨hO9, hF9, hM9, hw_135⟩ := hw_135
        replace hM := hM.tu hM9 (by decide)
        replace hF := hF.tu hF9 (by decide)
        have e_137 : aF σ_s_136 (ad E a 1) = f1 := (hM9.a (by decide) (by decide)).trans ef1
        replace hO := hO9
        have hw_135 : gI σ a 50 ≤ gI σ_s_136 a 50 ∧ gI σ_s_136 a 50 ≤ gI σ a 50 + 7 := hw_135
        exact th_vret hx hb hr hlocks hH hS ⟨hO, hF, hM, by omega⟩ dX11_tellThing_41
      · replace c_132 := (I_eq (a := z_131) (b := 0) rz_131 (show rng 0 from ⟨by decide, by decide⟩)).mp c_132
        refine lv_aload_n hx hb dX11_tellThing_16 rfl (lv_at hl 0 rfl) ?_
        refine lv_aload_n hx hb dX11_tellThing_17 rfl (lv_at hl 1 rfl) ?_
        refine lv_iconst (v := I 4) hx hb dX11_tellThing_18 (by decide) ?_
        refine lv_iload_n hx hb dX11_tellThing_19 rfl (lv_at hl 2 rfl) ?_
        refine lv_imul hx hb dX11_tellThing_20 ?_
        refine nq_top (I_mul _ _) ?_
        refine lv_iconst (v := I 1) hx hb dX11_tellThing_21 (by decide) ?_
        refine lv_iadd hx hb dX11_tellThing_22 ?_
        refine nq_top (I_add _ _) ?_
        refine m_iald hx hb hK hH hO h_a k13_1 isA1 ef1 ⟨by omega, by omega⟩ (by omega) (by omega) dX11_tellThing_23 (fun z_138 ez_138 rz_138 elx9 => ?_)
        obtain ⟨_, hc_139⟩ := hO.cell h_a (by decide) (ci := 11) rfl
        refine th_callv (va_runV (As := [.int (I z_138)]) (rest := []) ⟨hx, hb, hml, hown, hts⟩ (m_tellNumber l G y b0 σ E hO a h_a z_138 (show rng z_138 from rz_138) (by omega)) (cwV 1 hts gX11_tellThing_X11_tellNumber rfl rfl rfl (by decide +kernel) ⟨(by first | (simp only [headSpec]; omega) | omega | (dsimp only; omega)), (by first | (simp only [headSpec]; omega) | omega | (dsimp only; omega))⟩) (th_PV hK hH rfl hc_139) rfl rfl hl.1 rfl (lv_room (Nat.le_of_ble_eq_true rfl)) dX11_tellThing_24 ⟨(by first | (simp only [headSpec]; omega) | omega | (dsimp only; omega)), (by first | (simp only [headSpec]; omega) | omega | (dsimp only; omega))⟩) hS (fun σ_s_141 H locs hw_140 hH hS => ?_)
        obtain ⟨hO9, hF9, hM9, hw_140⟩ := hw_140
        replace hM := hM.tu hM9 (by decide)
        replace hF := hF.tu hF9 (by decide)
        have e_142 : aF σ_s_141 (ad E a 1) = f1 := (hM9.a (by decide) (by decide)).trans ef1
        replace hO := hO9
        have hw_140 : gI σ a 50 ≤ gI σ_s_141 a 50 ∧ gI σ_s_141 a 50 ≤ gI σ a 50 + 4 := hw_140
        refine lv_goto (tgt := 41) hx hb dX11_tellThing_27 (by decide) ?_
        exact th_vret hx hb hr hlocks hH hS ⟨hO, hF, hM, by omega⟩ dX11_tellThing_41

set_option maxHeartbeats 4000000 in
set_option maxRecDepth 100000 in
theorem m_tellThing44 (n : Nat) : ∀ (l : Launch) (G : va_G) (y : Nat → ClassId) (b0 : Nat) (σ : th_M) (E : th_E) (hO : ok y E σ) (a : Nat) (h_a : kd E a = 13) (i : Int) (ri : rng i) (l_i : 0 ≤ i) (u_i : i ≤ 299) (f44 : Nat → Int32) (ef44 : aF σ (ad E a 44) = f44) (hy0 : wf f44 i (i + mS f44 i)) (hy1 : 1 ≤ mS f44 i ∧ mS f44 i ≤ 60 ∧ i + mS f44 i ≤ 300) (hy2 : gI σ a 50 + 16 * mS f44 i ≤ 2000) (hn : (mS f44 i).toNat < n), Met l yX11_tellThing wsX11_tellThing ({ frames := 2*n+10, cells := 0, slots := 0, locals := (60*n+300) }) (th_P G y b0 σ [.ref a, .ref (ad E a 44), .int (I i)]) (th_Qv G b0 (fun σ1 => ok y E σ1 ∧ fr [13] E σ σ1 ∧ fm [49, 50] E σ σ1 a ∧ (gI σ a 50 ≤ gI σ1 a 50 ∧ gI σ1 a 50 + 9 ≤ gI σ a 50 + 16 * mS f44 i))) 0 0 (th_A b0) := by
  induction n with
  | zero => intro l G y b0 σ E hO a h_a i ri l_i u_i f44 ef44 hy0 hy1 hy2 hn; exact absurd hn (Nat.not_lt_zero _)
  | succ n ih =>
    intro l G y b0 σ E hO a h_a i ri l_i u_i f44 ef44 hy0 hy1 hy2 hn
    refine Met.ofW (cc := cX11_tellThing) (maxL := 5) (ret := none) (by decide) rfl ?_
    intro p e s m args below meth c s₁ B hml hv
    obtain ⟨rfl, hH, hK⟩ := hv
    have hx := B.exec
    have hb := B.bytes
    have hr := B.returns
    have hts := atoms_spec (ws := wsX11_tellThing) B.pre
    have hown : s.vm.findClass RX11 = some m.cls := findClass_of_methodNamed B.named
    have hlocks := B.notSynchronized
    have h00 : b0 ≤ s.heap.size := hH.1
    have hS : va_S (th_A b0) s.heap s.heap [] := va_S.rf
    have hF : fr [13] E σ σ := fr.rf
    have hM : fm [49, 50] E σ σ a := fm.rf
    have hl := lv_entry ([.ref a, .ref (ad E a 44), .int (I i)]) (n := 5) (Nat.le_of_ble_eq_true rfl)
    rw [lg_entry_eq]
    generalize (lg_sl ([.ref a, .ref (ad E a 44), .int (I i)]) ++ List.replicate (5 - (lg_sl ([.ref a, .ref (ad E a 44), .int (I i)])).length) Slot.unset).toArray = ls at hl ⊢
    have hl : lv_has ls 5 [(0, .ref a), (1, .ref (ad E a 44)), (2, .int (I i))] := hl
    obtain ⟨a500, ea500, ra500, la500, ua500⟩ := hO.gi h_a (by decide) k13_50
    refine lv_aload_n hx hb dX11_tellThing_0 rfl (lv_at hl 1 rfl) ?_
    refine lv_iload_n hx hb dX11_tellThing_1 rfl (lv_at hl 2 rfl) ?_
    refine th_calli (va_runS (As := [.ref (ad E a 44), .int (I i)]) (rest := []) ⟨hx, hb, hml, hown, hts⟩ (w_holds l G y b0 σ E hO (ad E a 44) 1200 f44 (hO.roww h_a k13_44 isA1 ef44 rfl) i (show rng i from ri) (by omega) (by omega) (by omega)) (va_cwS 2 hts gX11_tellThing_X11_holds rfl rfl rfl (by decide +kernel) ⟨(by first | (simp only [headSpec]; omega) | omega | (dsimp only; omega)), (by first | (simp only [headSpec]; omega) | omega | (dsimp only; omega))⟩) (th_PS hK hH) rfl rfl hl.1 rfl (lv_room (Nat.le_of_ble_eq_true rfl)) dX11_tellThing_2 ⟨(by first | (simp only [headSpec]; omega) | omega | (dsimp only; omega)), (by first | (simp only [headSpec]; omega) | omega | (dsimp only; omega))⟩) hS (fun z_3 σ_s_2 H locs rz_3 hw_1 hH hS => ?_)
    obtain ⟨e9, bhw_1, hw_1⟩ := hw_1
    replace e9 := e9.symm
    subst e9
    have hw_1 : (z_3 = 1 ∧ 2 ≤ mK f44 i) ∨ (z_3 = 0 ∧ ¬ 2 ≤ mK f44 i) := hw_1
    refine lv_if_ne (tgt := 42) hx hb dX11_tellThing_5 (by decide) (fun c_4 => ?_) (fun c_4 => ?_)
    · replace c_4 := mt (I_eq (a := z_3) (b := 0) rz_3 (show rng 0 from ⟨by decide, by decide⟩)).mpr c_4
      refine lv_aload_n hx hb dX11_tellThing_42 rfl (lv_at hl 1 rfl) ?_
      refine lv_iload_n hx hb dX11_tellThing_43 rfl (lv_at hl 2 rfl) ?_
      refine th_calli (va_runS (As := [.ref (ad E a 44), .int (I i)]) (rest := []) ⟨hx, hb, hml, hown, hts⟩ (w_kind l G y b0 σ E hO (ad E a 44) 1200 f44 (hO.roww h_a k13_44 isA1 ef44 rfl) i (show rng i from ri) (by omega) (by omega) (by omega)) (va_cwS 2 hts gX11_tellThing_X11_kind rfl rfl rfl (by decide +kernel) ⟨(by first | (simp only [headSpec]; omega) | omega | (dsimp only; omega)), (by first | (simp only [headSpec]; omega) | omega | (dsimp only; omega))⟩) (th_PS hK hH) rfl rfl hl.1 rfl (lv_room (Nat.le_of_ble_eq_true rfl)) dX11_tellThing_44 ⟨(by first | (simp only [headSpec]; omega) | omega | (dsimp only; omega)), (by first | (simp only [headSpec]; omega) | omega | (dsimp only; omega))⟩) hS (fun z_7 σ_s_6 H locs rz_7 hw_5 hH hS => ?_)
      obtain ⟨e9, hw_5⟩ := hw_5
      replace e9 := e9.symm
      subst e9
      have hw_5 : z_7 = mK f44 i := hw_5
      refine lv_iconst (v := I 3) hx hb dX11_tellThing_47 (by decide) ?_
      refine th_join (α := Int) (J := 56) (stk := fun x9 => [.int (I x9)]) (fun x9 σ9 H9 l9 ls9 => σ9 = σ ∧ th_H G b0 σ9 H9 ∧ va_S (th_A b0) s.heap H9 l9 ∧ lv_has ls9 5 [(0, .ref a), (1, .ref (ad E a 44)), (2, .int (I i))] ∧ rng x9 ∧ (x9 = 0 ∨ x9 = 1)) ?_ (fun jK_10 => ?_)
      · intro x9 σ_K_10 H locs ls hI9
        obtain ⟨w0q9, ex9⟩ : ∃ z, z = x9 := ⟨_, rfl⟩
        subst ex9
        obtain ⟨eK_10, hH, hS, hl, rw0q9, K_10_0⟩ := hI9
        replace eK_10 := eK_10.symm
        subst eK_10
        have hl : lv_has ls 5 [(0, .ref a), (1, .ref (ad E a 44)), (2, .int (I i))] := hl
        have rw0q9 : rng w0q9 := rw0q9
        have K_10_0 : w0q9 = 0 ∨ w0q9 = 1 := K_10_0
        refine lv_istore_n (lv' := [(3, .int (I w0q9)), (0, .ref a), (1, .ref (ad E a 44)), (2, .int (I i))]) hx hb dX11_tellThing_56 rfl hl (by decide) rfl (fun ls hl => ?_)
        refine lv_aload_n hx hb dX11_tellThing_57 rfl (lv_at hl 1 rfl) ?_
        refine lv_iload_n hx hb dX11_tellThing_58 rfl (lv_at hl 0 rfl) ?_
        refine th_join (α := Int) (J := 69) (stk := fun x9 => [.int (I x9), .ref a]) (fun x9 σ9 H9 l9 ls9 => σ9 = σ ∧ th_H G b0 σ9 H9 ∧ va_S (th_A b0) s.heap H9 l9 ∧ lv_has ls9 5 [(0, .ref a), (1, .ref (ad E a 44)), (2, .int (I i)), (3, .int (I w0q9))] ∧ rng x9 ∧ (x9 = 91 ∨ x9 = 123)) ?_ (fun jK_13 => ?_)
        · intro x9 σ_K_13 H locs ls hI9
          obtain ⟨w0q12, ex9⟩ : ∃ z, z = x9 := ⟨_, rfl⟩
          subst ex9
          obtain ⟨eK_13, hH, hS, hl, rw0q12, K_13_0⟩ := hI9
          replace eK_13 := eK_13.symm
          subst eK_13
          have hl : lv_has ls 5 [(0, .ref a), (1, .ref (ad E a 44)), (2, .int (I i)), (3, .int (I w0q9))] := hl
          have rw0q12 : rng w0q12 := rw0q12
          have K_13_0 : w0q12 = 91 ∨ w0q12 = 123 := K_13_0
          obtain ⟨_, hc_14⟩ := hO.cell h_a (by decide) (ci := 11) rfl
          refine th_callv (va_runV (As := [.int (I w0q12)]) (rest := []) ⟨hx, hb, hml, hown, hts⟩ (m_tell l G y b0 σ E hO a h_a w0q12 (show rng w0q12 from rw0q12) (by omega)) (cwV 1 hts gX11_tellThing_X11_tell rfl rfl rfl (by decide +kernel) ⟨(by first | (simp only [headSpec]; omega) | omega | (dsimp only; omega)), (by first | (simp only [headSpec]; omega) | omega | (dsimp only; omega))⟩) (th_PV hK hH rfl hc_14) rfl rfl hl.1 rfl (lv_room (Nat.le_of_ble_eq_true rfl)) dX11_tellThing_69 ⟨(by first | (simp only [headSpec]; omega) | omega | (dsimp only; omega)), (by first | (simp only [headSpec]; omega) | omega | (dsimp only; omega))⟩) hS (fun σ_s_16 H locs hw_15 hH hS => ?_)
          obtain ⟨hO9, hF9, hM9, hw_15⟩ := hw_15
          replace hM := hM.tu hM9 (by decide)
          replace hF := hF.tu hF9 (by decide)
          have e_17 : aF σ_s_16 (ad E a 44) = f44 := (hM9.a (by decide) (by decide)).trans ef44
          replace hO := hO9
          have hw_15 : gI σ_s_16 a 50 = gI σ a 50 + 1 := hw_15
          refine lv_iload_n hx hb dX11_tellThing_72 rfl (lv_at hl 2 rfl) ?_
          refine lv_iconst (v := I 1) hx hb dX11_tellThing_73 (by decide) ?_
          refine lv_iadd hx hb dX11_tellThing_74 ?_
          refine nq_top (I_add _ _) ?_
          refine lv_istore (lv' := [(4, .int (I (i + 1))), (0, .ref a), (1, .ref (ad E a 44)), (2, .int (I i)), (3, .int (I w0q9))]) hx hb dX11_tellThing_75 hl (by decide) rfl (fun ls hl => ?_)
          refine th_loop (α := Int) (pc := 77) (fun x9 => (i + mS f44 i - x9).toNat) (fun x9 σ9 H9 l9 ls9 => ok y E σ9 ∧ fr [13] E σ σ9 ∧ fm [49, 50] E σ σ9 a ∧ th_H G b0 σ9 H9 ∧ va_S (th_A b0) s.heap H9 l9 ∧ lv_has ls9 5 [(0, .ref a), (1, .ref (ad E a 44)), (2, .int (I i)), (3, .int (I w0q9)), (4, .int (I x9))] ∧ rng x9 ∧ (i + 1 ≤ x9) ∧ (x9 ≤ i + mS f44 i) ∧ (0 ≤ x9) ∧ (x9 ≤ 300) ∧ (gI σ a 50 ≤ gI σ9 a 50) ∧ (gI σ9 a 50 ≤ gI σ a 50 + 1 + 16 * (x9 - (i + 1))) ∧ (aF σ9 (ad E a 44) = f44)) ?_ (i + 1) σ_s_16 _ _ _ ⟨hO, hF, hM, hH, hS, lv_sub hl [1, 2, 3, 4, 0] rfl, ⟨by first | (dsimp only; omega) | omega, by first | (dsimp only; omega) | omega⟩, by first | (dsimp only; omega) | omega, by first | (dsimp only; omega) | omega, by first | (dsimp only; omega) | omega, by first | (dsimp only; omega) | omega, by first | (dsimp only; omega) | omega, by first | (dsimp only; omega) | omega, e_17⟩
          intro x9 σ_J_69 H locs ls hI9 ihJ_69
          obtain ⟨v4q68, ex9⟩ : ∃ z, z = x9 := ⟨_, rfl⟩
          subst ex9
          obtain ⟨hO, hF, hM, hH, hS, hl, rv4q68, J_69_0, J_69_1, J_69_2, J_69_3, J_69_4, J_69_5, J_69_6⟩ := hI9
          have hl : lv_has ls 5 [(0, .ref a), (1, .ref (ad E a 44)), (2, .int (I i)), (3, .int (I w0q9)), (4, .int (I v4q68))] := hl
          have rv4q68 : rng v4q68 := rv4q68
          have J_69_0 : i + 1 ≤ v4q68 := J_69_0
          have J_69_1 : v4q68 ≤ i + mS f44 i := J_69_1
          have J_69_2 : 0 ≤ v4q68 := J_69_2
          have J_69_3 : v4q68 ≤ 300 := J_69_3
          have J_69_4 : gI σ a 50 ≤ gI σ_J_69 a 50 := J_69_4
          have J_69_5 : gI σ_J_69 a 50 ≤ gI σ a 50 + 1 + 16 * (v4q68 - (i + 1)) := J_69_5
          have J_69_6 : aF σ_J_69 (ad E a 44) = f44 := J_69_6
          refine lv_iload hx hb dX11_tellThing_77 (lv_at hl 4 rfl) ?_
          refine lv_iload_n hx hb dX11_tellThing_79 rfl (lv_at hl 2 rfl) ?_
          refine lv_aload_n hx hb dX11_tellThing_80 rfl (lv_at hl 1 rfl) ?_
          refine lv_iload_n hx hb dX11_tellThing_81 rfl (lv_at hl 2 rfl) ?_
          refine th_calli (va_runS (As := [.ref (ad E a 44), .int (I i)]) (rest := [.int (I i), .int (I v4q68)]) ⟨hx, hb, hml, hown, hts⟩ (w_size l G y b0 σ_J_69 E hO (ad E a 44) 1200 f44 (hO.roww h_a k13_44 isA1 J_69_6 rfl) i (show rng i from ri) (by omega) (by omega) (by omega)) (va_cwS 2 hts gX11_tellThing_X11_size rfl rfl rfl (by decide +kernel) ⟨(by first | (simp only [headSpec]; omega) | omega | (dsimp only; omega)), (by first | (simp only [headSpec]; omega) | omega | (dsimp only; omega))⟩) (th_PS hK hH) rfl rfl hl.1 rfl (lv_room (Nat.le_of_ble_eq_true rfl)) dX11_tellThing_82 ⟨(by first | (simp only [headSpec]; omega) | omega | (dsimp only; omega)), (by first | (simp only [headSpec]; omega) | omega | (dsimp only; omega))⟩) hS (fun z_72 σ_s_71 H locs rz_72 hw_70 hH hS => ?_)
          obtain ⟨e9, hw_70⟩ := hw_70
          replace e9 := e9.symm
          subst e9
          have hw_70 : z_72 = mS f44 i := hw_70
          refine lv_iadd hx hb dX11_tellThing_85 ?_
          refine th_addo (fun z_73 rz_73 hz_73 => ?_)
          refine lv_icmp_ge (tgt := 146) hx hb dX11_tellThing_86 (by decide) (fun c_74 => ?_) (fun c_74 => ?_)
          · replace c_74 := (I_le (a := z_73) (b := v4q68) rz_73 rv4q68).mp c_74
            refine lv_aload_n hx hb dX11_tellThing_146 rfl (lv_at hl 0 rfl) ?_
            refine lv_iload_n hx hb dX11_tellThing_147 rfl (lv_at hl 3 rfl) ?_
            refine th_join (α := Int) (J := 158) (stk := fun x9 => [.int (I x9), .ref a]) (fun x9 σ9 H9 l9 ls9 => σ9 = σ_J_69 ∧ th_H G b0 σ9 H9 ∧ va_S (th_A b0) s.heap H9 l9 ∧ lv_has ls9 5 [] ∧ rng x9 ∧ (x9 = 93 ∨ x9 = 125)) ?_ (fun jK_77 => ?_)
            · intro x9 σ_K_77 H locs ls hI9
              obtain ⟨w0q76, ex9⟩ : ∃ z, z = x9 := ⟨_, rfl⟩
              subst ex9
              obtain ⟨eK_77, hH, hS, hl, rw0q76, K_77_0⟩ := hI9
              replace eK_77 := eK_77.symm
              subst eK_77
              have hl : lv_has ls 5 [] := hl
              have rw0q76 : rng w0q76 := rw0q76
              have K_77_0 : w0q76 = 93 ∨ w0q76 = 125 := K_77_0
              obtain ⟨_, hc_78⟩ := hO.cell h_a (by decide) (ci := 11) rfl
              refine th_callv (va_runV (As := [.int (I w0q76)]) (rest := []) ⟨hx, hb, hml, hown, hts⟩ (m_tell l G y b0 σ_J_69 E hO a h_a w0q76 (show rng w0q76 from rw0q76) (by omega)) (cwV 1 hts gX11_tellThing_X11_tell rfl rfl rfl (by decide +kernel) ⟨(by first | (simp only [headSpec]; omega) | omega | (dsimp only; omega)), (by first | (simp only [headSpec]; omega) | omega | (dsimp only; omega))⟩) (th_PV hK hH rfl hc_78) rfl rfl hl.1 rfl (lv_room (Nat.le_of_ble_eq_true rfl)) dX11_tellThing_158 ⟨(by first | (simp only [headSpec]; omega) | omega | (dsimp only; omega)), (by first | (simp only [headSpec]; omega) | omega | (dsimp only; omega))⟩) hS (fun σ_s_80 H locs hw_79 hH hS => ?_)
              obtain ⟨hO9, hF9, hM9, hw_79⟩ := hw_79
              replace hM := hM.tu hM9 (by decide)
              replace hF := hF.tu hF9 (by decide)
              have e_81 : aF σ_s_80 (ad E a 44) = f44 := (hM9.a (by decide) (by decide)).trans J_69_6
              replace hO := hO9
              have hw_79 : gI σ_s_80 a 50 = gI σ_J_69 a 50 + 1 := hw_79
              exact th_vret hx hb hr hlocks hH hS ⟨hO, hF, hM, by omega⟩ dX11_tellThing_161
            · refine lv_if_eq (tgt := 156) hx hb dX11_tellThing_148 (by decide) (fun c_82 => ?_) (fun c_82 => ?_)
              · replace c_82 := (I_eq (a := w0q9) (b := 0) rw0q9 (show rng 0 from ⟨by decide, by decide⟩)).mp c_82
                refine lv_bipush (v := I 93) hx hb dX11_tellThing_156 (by decide) ?_
                replace hl : lv_has ls 5 [] := lv_sub hl [] rfl
                exact jK_77 (93) σ_J_69 _ _ _ ⟨rfl, hH, hS, lv_sub hl [] rfl, (show rng 93 from ⟨by decide, by decide⟩), by first | (dsimp only; omega) | omega⟩
              · replace c_82 := mt (I_eq (a := w0q9) (b := 0) rw0q9 (show rng 0 from ⟨by decide, by decide⟩)).mpr c_82
                refine lv_bipush (v := I 125) hx hb dX11_tellThing_151 (by decide) ?_
                refine lv_goto (tgt := 158) hx hb dX11_tellThing_153 (by decide) ?_
                replace hl : lv_has ls 5 [] := lv_sub hl [] rfl
                exact jK_77 (125) σ_J_69 _ _ _ ⟨rfl, hH, hS, lv_sub hl [] rfl, (show rng 125 from ⟨by decide, by decide⟩), by first | (dsimp only; omega) | omega⟩
          · replace c_74 := mt (I_le (a := z_73) (b := v4q68) rz_73 rv4q68).mpr c_74
            obtain ⟨z_83, e_84, rz_83, lz_83, uz_83⟩ := hO.gi h_a (by decide) k13_50
            have hk9 := hy0 v4q68 (by omega) (by omega)
            refine lv_iload hx hb dX11_tellThing_89 (lv_at hl 4 rfl) ?_
            refine lv_iload_n hx hb dX11_tellThing_91 rfl (lv_at hl 2 rfl) ?_
            refine lv_iconst (v := I 1) hx hb dX11_tellThing_92 (by decide) ?_
            refine lv_iadd hx hb dX11_tellThing_93 ?_
            refine nq_top (I_add _ _) ?_
            refine th_join (α := Unit) (J := 103) (stk := fun x9 => []) (fun x9 σ9 H9 l9 ls9 => ok y E σ9 ∧ fr [13] E σ σ9 ∧ fm [49, 50] E σ σ9 a ∧ th_H G b0 σ9 H9 ∧ va_S (th_A b0) s.heap H9 l9 ∧ lv_has ls9 5 [(0, .ref a), (1, .ref (ad E a 44)), (2, .int (I i)), (3, .int (I w0q9)), (4, .int (I v4q68))] ∧ (gI σ9 a 50 ≤ z_83 + 1) ∧ (z_83 ≤ gI σ9 a 50) ∧ (aF σ9 (ad E a 44) = f44)) ?_ (fun jK_91 => ?_)
            · intro x9 σ_K_91 H locs ls hI9
              obtain ⟨hO, hF, hM, hH, hS, hl, K_91_0, K_91_1, K_91_2⟩ := hI9
              have hl : lv_has ls 5 [(0, .ref a), (1, .ref (ad E a 44)), (2, .int (I i)), (3, .int (I w0q9)), (4, .int (I v4q68))] := hl
              have K_91_0 : gI σ_K_91 a 50 ≤ z_83 + 1 := K_91_0
              have K_91_1 : z_83 ≤ gI σ_K_91 a 50 := K_91_1
              have K_91_2 : aF σ_K_91 (ad E a 44) = f44 := K_91_2
              refine lv_iload_n hx hb dX11_tellThing_103 rfl (lv_at hl 3 rfl) ?_
              refine th_join (α := Unit) (J := 125) (stk := fun x9 => []) (fun x9 σ9 H9 l9 ls9 => ok y E σ9 ∧ fr [13] E σ σ9 ∧ fm [49, 50] E σ σ9 a ∧ th_H G b0 σ9 H9 ∧ va_S (th_A b0) s.heap H9 l9 ∧ lv_has ls9 5 [(0, .ref a), (1, .ref (ad E a 44)), (2, .int (I i)), (3, .int (I w0q9)), (4, .int (I v4q68))] ∧ (gI σ9 a 50 ≤ z_83 + 9) ∧ (z_83 ≤ gI σ9 a 50) ∧ (aF σ9 (ad E a 44) = f44)) ?_ (fun jK_103 => ?_)
              · intro x9 σ_K_103 H locs ls hI9
                obtain ⟨hO, hF, hM, hH, hS, hl, K_103_0, K_103_1, K_103_2⟩ := hI9
                have hl : lv_has ls 5 [(0, .ref a), (1, .ref (ad E a 44)), (2, .int (I i)), (3, .int (I w0q9)), (4, .int (I v4q68))] := hl
                have K_103_0 : gI σ_K_103 a 50 ≤ z_83 + 9 := K_103_0
                have K_103_1 : z_83 ≤ gI σ_K_103 a 50 := K_103_1
                have K_103_2 : aF σ_K_103 (ad E a 44) = f44 := K_103_2
                refine lv_aload_n hx hb dX11_tellThing_125 rfl (lv_at hl 0 rfl) ?_
                refine lv_aload_n hx hb dX11_tellThing_126 rfl (lv_at hl 1 rfl) ?_
                refine lv_iload hx hb dX11_tellThing_127 (lv_at hl 4 rfl) ?_
                obtain ⟨_, hc_104⟩ := hO.cell h_a (by decide) (ci := 11) rfl
                refine th_callv (va_runV (As := [.ref (ad E a 44), .int (I v4q68)]) (rest := []) ⟨hx, hb, hml, hown, hts⟩ (ih l G y b0 σ_K_103 E hO a h_a v4q68 (show rng v4q68 from rv4q68) (by omega) (by omega) f44 K_103_2 ((hy0.sub (by omega) (by omega))) (by omega) (by omega) (by omega)) (cwV 2 hts gX11_tellThing_X11_tellThing rfl rfl rfl (by decide +kernel) ⟨(by first | (simp only [headSpec]; omega) | omega | (dsimp only; omega)), (by first | (simp only [headSpec]; omega) | omega | (dsimp only; omega))⟩) (th_PV hK hH rfl hc_104) rfl rfl hl.1 rfl (lv_room (Nat.le_of_ble_eq_true rfl)) dX11_tellThing_129 ⟨(by first | (simp only [headSpec]; omega) | omega | (dsimp only; omega)), (by first | (simp only [headSpec]; omega) | omega | (dsimp only; omega))⟩) hS (fun σ_s_106 H locs hw_105 hH hS => ?_)
                obtain ⟨hO9, hF9, hM9, hw_105⟩ := hw_105
                replace hM := hM.tu hM9 (by decide)
                replace hF := hF.tu hF9 (by decide)
                have e_107 : aF σ_s_106 (ad E a 44) = f44 := (hM9.a (by decide) (by decide)).trans K_103_2
                replace hO := hO9
                have hw_105 : gI σ_K_103 a 50 ≤ gI σ_s_106 a 50 ∧ gI σ_s_106 a 50 + 9 ≤ gI σ_K_103 a 50 + 16 * mS f44 v4q68 := hw_105
                refine lv_iload hx hb dX11_tellThing_132 (lv_at hl 4 rfl) ?_
                refine lv_aload_n hx hb dX11_tellThing_134 rfl (lv_at hl 1 rfl) ?_
                refine lv_iload hx hb dX11_tellThing_135 (lv_at hl 4 rfl) ?_
                refine th_calli (va_runS (As := [.ref (ad E a 44), .int (I v4q68)]) (rest := [.int (I v4q68)]) ⟨hx, hb, hml, hown, hts⟩ (w_size l G y b0 σ_s_106 E hO (ad E a 44) 1200 f44 (hO.roww h_a k13_44 isA1 e_107 rfl) v4q68 (show rng v4q68 from rv4q68) (by omega) (by omega) (by omega)) (va_cwS 2 hts gX11_tellThing_X11_size rfl rfl rfl (by decide +kernel) ⟨(by first | (simp only [headSpec]; omega) | omega | (dsimp only; omega)), (by first | (simp only [headSpec]; omega) | omega | (dsimp only; omega))⟩) (th_PS hK hH) rfl rfl hl.1 rfl (lv_room (Nat.le_of_ble_eq_true rfl)) dX11_tellThing_137 ⟨(by first | (simp only [headSpec]; omega) | omega | (dsimp only; omega)), (by first | (simp only [headSpec]; omega) | omega | (dsimp only; omega))⟩) hS (fun z_110 σ_s_109 H locs rz_110 hw_108 hH hS => ?_)
                obtain ⟨e9, hw_108⟩ := hw_108
                replace e9 := e9.symm
                subst e9
                have hw_108 : z_110 = mS f44 v4q68 := hw_108
                refine lv_iadd hx hb dX11_tellThing_140 ?_
                refine th_addo (fun z_111 rz_111 hz_111 => ?_)
                refine lv_istore (lv' := [(4, .int (I z_111)), (0, .ref a), (1, .ref (ad E a 44)), (2, .int (I i)), (3, .int (I w0q9))]) hx hb dX11_tellThing_141 hl (by decide) rfl (fun ls hl => ?_)
                refine lv_goto (tgt := 77) hx hb dX11_tellThing_143 (by decide) ?_
                exact ihJ_69 (z_111) σ_s_106 _ _ _ (by first | (dsimp only; omega) | omega) ⟨hO, hF, hM, hH, hS, lv_sub hl [1, 2, 3, 4, 0] rfl, rz_111, by first | (dsimp only; omega) | omega, by first | (dsimp only; omega) | omega, by first | (dsimp only; omega) | omega, by first | (dsimp only; omega) | omega, by first | (dsimp only; omega) | omega, by first | (dsimp only; omega) | omega, e_107⟩
              · refine lv_if_eq (tgt := 125) hx hb dX11_tellThing_104 (by decide) (fun c_112 => ?_) (fun c_112 => ?_)
                · replace c_112 := (I_eq (a := w0q9) (b := 0) rw0q9 (show rng 0 from ⟨by decide, by decide⟩)).mp c_112
                  exact jK_103 () σ_K_91 _ _ _ ⟨hO, hF, hM, hH, hS, lv_sub hl [0, 1, 2, 3, 4] rfl, by first | (dsimp only; omega) | omega, by first | (dsimp only; omega) | omega, K_91_2⟩
                · replace c_112 := mt (I_eq (a := w0q9) (b := 0) rw0q9 (show rng 0 from ⟨by decide, by decide⟩)).mpr c_112
                  refine lv_aload_n hx hb dX11_tellThing_107 rfl (lv_at hl 0 rfl) ?_
                  refine lv_aload_n hx hb dX11_tellThing_108 rfl (lv_at hl 1 rfl) ?_
                  refine lv_iconst (v := I 4) hx hb dX11_tellThing_109 (by decide) ?_
                  refine lv_iload hx hb dX11_tellThing_110 (lv_at hl 4 rfl) ?_
                  refine lv_imul hx hb dX11_tellThing_112 ?_
                  refine nq_top (I_mul _ _) ?_
                  refine lv_iconst (v := I 2) hx hb dX11_tellThing_113 (by decide) ?_
                  refine lv_iadd hx hb dX11_tellThing_114 ?_
                  refine nq_top (I_add _ _) ?_
                  refine m_iald hx hb hK hH hO h_a k13_44 isA1 K_91_2 ⟨by omega, by omega⟩ (by omega) (by omega) dX11_tellThing_115 (fun z_113 ez_113 rz_113 elx9 => ?_)
                  obtain ⟨_, hc_114⟩ := hO.cell h_a (by decide) (ci := 11) rfl
                  refine th_callv (va_runV (As := [.int (I z_113)]) (rest := []) ⟨hx, hb, hml, hown, hts⟩ (m_tellWord l G y b0 σ_K_91 E hO a h_a z_113 (show rng z_113 from rz_113) (by omega)) (cwV 1 hts gX11_tellThing_X11_tellWord rfl rfl rfl (by decide +kernel) ⟨(by first | (simp only [headSpec]; omega) | omega | (dsimp only; omega)), (by first | (simp only [headSpec]; omega) | omega | (dsimp only; omega))⟩) (th_PV hK hH rfl hc_114) rfl rfl hl.1 rfl (lv_room (Nat.le_of_ble_eq_true rfl)) dX11_tellThing_116 ⟨(by first | (simp only [headSpec]; omega) | omega | (dsimp only; omega)), (by first | (simp only [headSpec]; omega) | omega | (dsimp only; omega))⟩) hS (fun σ_s_116 H locs hw_115 hH hS => ?_)
                  obtain ⟨hO9, hF9, hM9, hw_115⟩ := hw_115
                  replace hM := hM.tu hM9 (by decide)
                  replace hF := hF.tu hF9 (by decide)
                  have e_117 : aF σ_s_116 (ad E a 44) = f44 := (hM9.a (by decide) (by decide)).trans K_91_2
                  replace hO := hO9
                  have hw_115 : gI σ_K_91 a 50 ≤ gI σ_s_116 a 50 ∧ gI σ_s_116 a 50 ≤ gI σ_K_91 a 50 + 7 := hw_115
                  refine lv_aload_n hx hb dX11_tellThing_119 rfl (lv_at hl 0 rfl) ?_
                  refine lv_bipush (v := I 58) hx hb dX11_tellThing_120 (by decide) ?_
                  obtain ⟨_, hc_118⟩ := hO.cell h_a (by decide) (ci := 11) rfl
                  refine th_callv (va_runV (As := [.int (I 58)]) (rest := []) ⟨hx, hb, hml, hown, hts⟩ (m_tell l G y b0 σ_s_116 E hO a h_a 58 (show rng 58 from (show rng 58 from ⟨by decide, by decide⟩)) (by omega)) (cwV 1 hts gX11_tellThing_X11_tell rfl rfl rfl (by decide +kernel) ⟨(by first | (simp only [headSpec]; omega) | omega | (dsimp only; omega)), (by first | (simp only [headSpec]; omega) | omega | (dsimp only; omega))⟩) (th_PV hK hH rfl hc_118) rfl rfl hl.1 rfl (lv_room (Nat.le_of_ble_eq_true rfl)) dX11_tellThing_122 ⟨(by first | (simp only [headSpec]; omega) | omega | (dsimp only; omega)), (by first | (simp only [headSpec]; omega) | omega | (dsimp only; omega))⟩) hS (fun σ_s_120 H locs hw_119 hH hS => ?_)
                  obtain ⟨hO9, hF9, hM9, hw_119⟩ := hw_119
                  replace hM := hM.tu hM9 (by decide)
                  replace hF := hF.tu hF9 (by decide)
                  have e_121 : aF σ_s_120 (ad E a 44) = f44 := (hM9.a (by decide) (by decide)).trans e_117
                  replace hO := hO9
                  have hw_119 : gI σ_s_120 a 50 = gI σ_s_116 a 50 + 1 := hw_119
                  exact jK_103 () σ_s_120 _ _ _ ⟨hO, hF, hM, hH, hS, lv_sub hl [0, 1, 2, 3, 4] rfl, by first | (dsimp only; omega) | omega, by first | (dsimp only; omega) | omega, e_121⟩
            · refine lv_icmp_le (tgt := 103) hx hb dX11_tellThing_94 (by decide) (fun c_122 => ?_) (fun c_122 => ?_)
              · replace c_122 := (I_le (a := v4q68) (b := i + 1) rv4q68 ⟨by omega, by omega⟩).mp c_122
                exact jK_91 () σ_J_69 _ _ _ ⟨hO, hF, hM, hH, hS, lv_sub hl [0, 1, 2, 3, 4] rfl, by first | (dsimp only; omega) | omega, by first | (dsimp only; omega) | omega, J_69_6⟩
              · replace c_122 := mt (I_le (a := v4q68) (b := i + 1) rv4q68 ⟨by omega, by omega⟩).mpr c_122
                refine lv_aload_n hx hb dX11_tellThing_97 rfl (lv_at hl 0 rfl) ?_
                refine lv_bipush (v := I 44) hx hb dX11_tellThing_98 (by decide) ?_
                obtain ⟨_, hc_123⟩ := hO.cell h_a (by decide) (ci := 11) rfl
                refine th_callv (va_runV (As := [.int (I 44)]) (rest := []) ⟨hx, hb, hml, hown, hts⟩ (m_tell l G y b0 σ_J_69 E hO a h_a 44 (show rng 44 from (show rng 44 from ⟨by decide, by decide⟩)) (by omega)) (cwV 1 hts gX11_tellThing_X11_tell rfl rfl rfl (by decide +kernel) ⟨(by first | (simp only [headSpec]; omega) | omega | (dsimp only; omega)), (by first | (simp only [headSpec]; omega) | omega | (dsimp only; omega))⟩) (th_PV hK hH rfl hc_123) rfl rfl hl.1 rfl (lv_room (Nat.le_of_ble_eq_true rfl)) dX11_tellThing_100 ⟨(by first | (simp only [headSpec]; omega) | omega | (dsimp only; omega)), (by first | (simp only [headSpec]; omega) | omega | (dsimp only; omega))⟩) hS (fun σ_s_125 H locs hw_124 hH hS => ?_)
                obtain ⟨hO9, hF9, hM9, hw_124⟩ := hw_124
                replace hM := hM.tu hM9 (by decide)
                replace hF := hF.tu hF9 (by decide)
                have e_126 : aF σ_s_125 (ad E a 44) = f44 := (hM9.a (by decide) (by decide)).trans J_69_6
                replace hO := hO9
                have hw_124 : gI σ_s_125 a 50 = gI σ_J_69 a 50 + 1 := hw_124
                exact jK_91 () σ_s_125 _ _ _ ⟨hO, hF, hM, hH, hS, lv_sub hl [0, 1, 2, 3, 4] rfl, by first | (dsimp only; omega) | omega, by first | (dsimp only; omega) | omega, e_126⟩
        · refine lv_if_eq (tgt := 67) hx hb dX11_tellThing_59 (by decide) (fun c_127 => ?_) (fun c_127 => ?_)
          · replace c_127 := (I_eq (a := w0q9) (b := 0) rw0q9 (show rng 0 from ⟨by decide, by decide⟩)).mp c_127
            refine lv_bipush (v := I 91) hx hb dX11_tellThing_67 (by decide) ?_
            exact jK_13 (91) σ _ _ _ ⟨rfl, hH, hS, lv_sub hl [1, 2, 3, 0] rfl, (show rng 91 from ⟨by decide, by decide⟩), by first | (dsimp only; omega) | omega⟩
          · replace c_127 := mt (I_eq (a := w0q9) (b := 0) rw0q9 (show rng 0 from ⟨by decide, by decide⟩)).mpr c_127
            refine lv_bipush (v := I 123) hx hb dX11_tellThing_62 (by decide) ?_
            refine lv_goto (tgt := 69) hx hb dX11_tellThing_64 (by decide) ?_
            exact jK_13 (123) σ _ _ _ ⟨rfl, hH, hS, lv_sub hl [1, 2, 3, 0] rfl, (show rng 123 from ⟨by decide, by decide⟩), by first | (dsimp only; omega) | omega⟩
      · refine lv_icmp_ne (tgt := 55) hx hb dX11_tellThing_48 (by decide) (fun c_128 => ?_) (fun c_128 => ?_)
        · replace c_128 := mt (I_eq (a := z_7) (b := 3) rz_7 (show rng 3 from ⟨by decide, by decide⟩)).mpr c_128
          refine lv_iconst (v := I 0) hx hb dX11_tellThing_55 (by decide) ?_
          exact jK_10 (0) σ _ _ _ ⟨rfl, hH, hS, lv_sub hl [0, 1, 2] rfl, (show rng 0 from ⟨by decide, by decide⟩), by first | (dsimp only; omega) | omega⟩
        · replace c_128 := (I_eq (a := z_7) (b := 3) rz_7 (show rng 3 from ⟨by decide, by decide⟩)).mp c_128
          refine lv_iconst (v := I 1) hx hb dX11_tellThing_51 (by decide) ?_
          refine lv_goto (tgt := 56) hx hb dX11_tellThing_52 (by decide) ?_
          exact jK_10 (1) σ _ _ _ ⟨rfl, hH, hS, lv_sub hl [0, 1, 2] rfl, (show rng 1 from ⟨by decide, by decide⟩), by first | (dsimp only; omega) | omega⟩
    · replace c_4 := (I_eq (a := z_3) (b := 0) rz_3 (show rng 0 from ⟨by decide, by decide⟩)).mp c_4
      refine lv_aload_n hx hb dX11_tellThing_8 rfl (lv_at hl 1 rfl) ?_
      refine lv_iload_n hx hb dX11_tellThing_9 rfl (lv_at hl 2 rfl) ?_
      refine th_calli (va_runS (As := [.ref (ad E a 44), .int (I i)]) (rest := []) ⟨hx, hb, hml, hown, hts⟩ (w_kind l G y b0 σ E hO (ad E a 44) 1200 f44 (hO.roww h_a k13_44 isA1 ef44 rfl) i (show rng i from ri) (by omega) (by omega) (by omega)) (va_cwS 2 hts gX11_tellThing_X11_kind rfl rfl rfl (by decide +kernel) ⟨(by first | (simp only [headSpec]; omega) | omega | (dsimp only; omega)), (by first | (simp only [headSpec]; omega) | omega | (dsimp only; omega))⟩) (th_PS hK hH) rfl rfl hl.1 rfl (lv_room (Nat.le_of_ble_eq_true rfl)) dX11_tellThing_10 ⟨(by first | (simp only [headSpec]; omega) | omega | (dsimp only; omega)), (by first | (simp only [headSpec]; omega) | omega | (dsimp only; omega))⟩) hS (fun z_131 σ_s_130 H locs rz_131 hw_129 hH hS => ?_)
      obtain ⟨e9, hw_129⟩ := hw_129
      replace e9 := e9.symm
      subst e9
      have hw_129 : z_131 = mK f44 i := hw_129
      refine lv_if_ne (tgt := 30) hx hb dX11_tellThing_13 (by decide) (fun c_132 => ?_) (fun c_132 => ?_)
      · replace c_132 := mt (I_eq (a := z_131) (b := 0) rz_131 (show rng 0 from ⟨by decide, by decide⟩)).mpr c_132
        refine lv_aload_n hx hb dX11_tellThing_30 rfl (lv_at hl 0 rfl) ?_
        refine lv_aload_n hx hb dX11_tellThing_31 rfl (lv_at hl 1 rfl) ?_
        refine lv_iconst (v := I 4) hx hb dX11_tellThing_32 (by decide) ?_
        refine lv_iload_n hx hb dX11_tellThing_33 rfl (lv_at hl 2 rfl) ?_
        refine lv_imul hx hb dX11_tellThing_34 ?_
        refine nq_top (I_mul _ _) ?_
        refine lv_iconst (v := I 1) hx hb dX11_tellThing_35 (by decide) ?_
        refine lv_iadd hx hb dX11_tellThing_36 ?_
        refine nq_top (I_add _ _) ?_
        refine m_iald hx hb hK hH hO h_a k13_44 isA1 ef44 ⟨by omega, by omega⟩ (by omega) (by omega) dX11_tellThing_37 (fun z_133 ez_133 rz_133 elx9 => ?_)
        obtain ⟨_, hc_134⟩ := hO.cell h_a (by decide) (ci := 11) rfl
        refine th_callv (va_runV (As := [.int (I z_133)]) (rest := []) ⟨hx, hb, hml, hown, hts⟩ (m_tellWord l G y b0 σ E hO a h_a z_133 (show rng z_133 from rz_133) (by omega)) (cwV 1 hts gX11_tellThing_X11_tellWord rfl rfl rfl (by decide +kernel) ⟨(by first | (simp only [headSpec]; omega) | omega | (dsimp only; omega)), (by first | (simp only [headSpec]; omega) | omega | (dsimp only; omega))⟩) (th_PV hK hH rfl hc_134) rfl rfl hl.1 rfl (lv_room (Nat.le_of_ble_eq_true rfl)) dX11_tellThing_38 ⟨(by first | (simp only [headSpec]; omega) | omega | (dsimp only; omega)), (by first | (simp only [headSpec]; omega) | omega | (dsimp only; omega))⟩) hS (fun σ_s_136 H locs hw_135 hH hS => ?_)
        obtain ⟨hO9, hF9, hM9, hw_135⟩ := hw_135
        replace hM := hM.tu hM9 (by decide)
        replace hF := hF.tu hF9 (by decide)
        have e_137 : aF σ_s_136 (ad E a 44) = f44 := (hM9.a (by decide) (by decide)).trans ef44
        replace hO := hO9
        have hw_135 : gI σ a 50 ≤ gI σ_s_136 a 50 ∧ gI σ_s_136 a 50 ≤ gI σ a 50 + 7 := hw_135
        exact th_vret hx hb hr hlocks hH hS ⟨hO, hF, hM, by omega⟩ dX11_tellThing_41
      · replace c_132 := (I_eq (a := z_131) (b := 0) rz_131 (show rng 0 from ⟨by decide, by decide⟩)).mp c_132
        refine lv_aload_n hx hb dX11_tellThing_16 rfl (lv_at hl 0 rfl) ?_
        refine lv_aload_n hx hb dX11_tellThing_17 rfl (lv_at hl 1 rfl) ?_
        refine lv_iconst (v := I 4) hx hb dX11_tellThing_18 (by decide) ?_
        refine lv_iload_n hx hb dX11_tellThing_19 rfl (lv_at hl 2 rfl) ?_
        refine lv_imul hx hb dX11_tellThing_20 ?_
        refine nq_top (I_mul _ _) ?_
        refine lv_iconst (v := I 1) hx hb dX11_tellThing_21 (by decide) ?_
        refine lv_iadd hx hb dX11_tellThing_22 ?_
        refine nq_top (I_add _ _) ?_
        refine m_iald hx hb hK hH hO h_a k13_44 isA1 ef44 ⟨by omega, by omega⟩ (by omega) (by omega) dX11_tellThing_23 (fun z_138 ez_138 rz_138 elx9 => ?_)
        obtain ⟨_, hc_139⟩ := hO.cell h_a (by decide) (ci := 11) rfl
        refine th_callv (va_runV (As := [.int (I z_138)]) (rest := []) ⟨hx, hb, hml, hown, hts⟩ (m_tellNumber l G y b0 σ E hO a h_a z_138 (show rng z_138 from rz_138) (by omega)) (cwV 1 hts gX11_tellThing_X11_tellNumber rfl rfl rfl (by decide +kernel) ⟨(by first | (simp only [headSpec]; omega) | omega | (dsimp only; omega)), (by first | (simp only [headSpec]; omega) | omega | (dsimp only; omega))⟩) (th_PV hK hH rfl hc_139) rfl rfl hl.1 rfl (lv_room (Nat.le_of_ble_eq_true rfl)) dX11_tellThing_24 ⟨(by first | (simp only [headSpec]; omega) | omega | (dsimp only; omega)), (by first | (simp only [headSpec]; omega) | omega | (dsimp only; omega))⟩) hS (fun σ_s_141 H locs hw_140 hH hS => ?_)
        obtain ⟨hO9, hF9, hM9, hw_140⟩ := hw_140
        replace hM := hM.tu hM9 (by decide)
        replace hF := hF.tu hF9 (by decide)
        have e_142 : aF σ_s_141 (ad E a 44) = f44 := (hM9.a (by decide) (by decide)).trans ef44
        replace hO := hO9
        have hw_140 : gI σ a 50 ≤ gI σ_s_141 a 50 ∧ gI σ_s_141 a 50 ≤ gI σ a 50 + 4 := hw_140
        refine lv_goto (tgt := 41) hx hb dX11_tellThing_27 (by decide) ?_
        exact th_vret hx hb hr hlocks hH hS ⟨hO, hF, hM, by omega⟩ dX11_tellThing_41

set_option maxHeartbeats 4000000 in
set_option maxRecDepth 100000 in
theorem w_stepOfX (l : Launch) (G : va_G) (y : Nat → ClassId) (b0 : Nat) (σ : th_M) (E : th_E) (hO : ok y E σ) (pp : Int) (rpp : rng pp) : Met l yX11_stepOf wsX11_stepOf ({ frames := 0, cells := 0, slots := 0, locals := 0 }) (th_P G y b0 σ [.int (I pp)]) (th_Qi G b0 (fun r σ1 => σ1 = σ ∧ (True))) 0 0 (th_A b0) := by
  refine Met.ofW (cc := cX11_stepOf) (maxL := 1) (ret := (some .int)) (by decide) rfl ?_
  intro p e s m args below meth c s₁ B hml hv
  obtain ⟨rfl, hH, hK⟩ := hv
  have hx := B.exec
  have hb := B.bytes
  have hr := B.returns
  have hts := atoms_spec (ws := wsX11_stepOf) B.pre
  have hown : s.vm.findClass RX11 = some m.cls := findClass_of_methodNamed B.named
  have hlocks := B.notSynchronized
  have h00 : b0 ≤ s.heap.size := hH.1
  have hS : va_S (th_A b0) s.heap s.heap [] := va_S.rf
  have hl := lv_entry ([.int (I pp)]) (n := 1) (Nat.le_of_ble_eq_true rfl)
  rw [lg_entry_eq]
  generalize (lg_sl ([.int (I pp)]) ++ List.replicate (1 - (lg_sl ([.int (I pp)])).length) Slot.unset).toArray = ls at hl ⊢
  have hl : lv_has ls 1 [(0, .int (I pp))] := hl
  refine lv_iconst (v := I (-1)) hx hb dX11_stepOf_0 (by decide) ?_
  refine lv_iload_n hx hb dX11_stepOf_1 rfl (lv_at hl 0 rfl) ?_
  refine lv_isub hx hb dX11_stepOf_2 ?_
  refine th_subo (fun z_1 rz_1 hz_1 => ?_)
  exact th_iret hx hb hr hlocks hH hS (z := z_1) rz_1 ⟨rfl, trivial⟩ dX11_stepOf_3

set_option maxHeartbeats 4000000 in
set_option maxRecDepth 100000 in
theorem m_tellWay (n : Nat) : ∀ (l : Launch) (G : va_G) (y : Nat → ClassId) (b0 : Nat) (σ : th_M) (E : th_E) (hO : ok y E σ) (a : Nat) (h_a : kd E a = 13) (i : Int) (ri : rng i) (l_i : 0 ≤ i) (u_i : i ≤ 59) (f1 : Nat → Int32) (ef1 : aF σ (ad E a 1) = f1) (hy0 : wf f1 0 (mS f1 0)) (hy1 : 1 ≤ mS f1 0 ∧ mS f1 0 ≤ 60) (hy2 : i < mS f1 0) (hy3 : gI σ a 50 + 8 * i ≤ 2000) (hn : i.toNat < n), Met l yX11_tellWay wsX11_tellWay ({ frames := 2*n+12, cells := 0, slots := 0, locals := (60*n+300) }) (th_P G y b0 σ [.ref a, .int (I i)]) (th_Qv G b0 (fun σ1 => ok y E σ1 ∧ fr [13] E σ σ1 ∧ fm [49, 50] E σ σ1 a ∧ (gI σ a 50 ≤ gI σ1 a 50 ∧ gI σ1 a 50 ≤ gI σ a 50 + 8 * i))) 0 0 (th_A b0) := by
  induction n with
  | zero => intro l G y b0 σ E hO a h_a i ri l_i u_i f1 ef1 hy0 hy1 hy2 hy3 hn; exact absurd hn (Nat.not_lt_zero _)
  | succ n ih =>
    intro l G y b0 σ E hO a h_a i ri l_i u_i f1 ef1 hy0 hy1 hy2 hy3 hn
    refine Met.ofW (cc := cX11_tellWay) (maxL := 3) (ret := none) (by decide) rfl ?_
    intro p e s m args below meth c s₁ B hml hv
    obtain ⟨rfl, hH, hK⟩ := hv
    have hx := B.exec
    have hb := B.bytes
    have hr := B.returns
    have hts := atoms_spec (ws := wsX11_tellWay) B.pre
    have hown : s.vm.findClass RX11 = some m.cls := findClass_of_methodNamed B.named
    have hlocks := B.notSynchronized
    have h00 : b0 ≤ s.heap.size := hH.1
    have hS : va_S (th_A b0) s.heap s.heap [] := va_S.rf
    have hF : fr [13] E σ σ := fr.rf
    have hM : fm [49, 50] E σ σ a := fm.rf
    have inX11 : ∀ w ∈ wsX110, w ∈ wsX11_tellWay := by decide +kernel
    have fl0 := hts (.fieldLink RX11 9 "NestQueryModel" "tree" "[I") (by decide +kernel)
    have hl := lv_entry ([.ref a, .int (I i)]) (n := 3) (Nat.le_of_ble_eq_true rfl)
    rw [lg_entry_eq]
    generalize (lg_sl ([.ref a, .int (I i)]) ++ List.replicate (3 - (lg_sl ([.ref a, .int (I i)])).length) Slot.unset).toArray = ls at hl ⊢
    have hl : lv_has ls 3 [(0, .ref a), (1, .int (I i))] := hl
    obtain ⟨a500, ea500, ra500, la500, ua500⟩ := hO.gi h_a (by decide) k13_50
    refine lv_aload_n hx hb dX11_tellWay_0 rfl (lv_at hl 0 rfl) ?_
    refine ok.getR hO h_a (by decide) k13_1 (by decide) (fun _ _ he hv kk => th_get (ci := 11) (C := RX11) (T := TX11) (N := 66) hx hb hts inX11 hown hK hH he rfl 1 (by decide) fl0 hv dX11_tellWay_1 kk) ?_
    refine lv_iload_n hx hb dX11_tellWay_4 rfl (lv_at hl 1 rfl) ?_
    refine th_calli (va_runS (As := [.ref (ad E a 1), .int (I i)]) (rest := []) ⟨hx, hb, hml, hown, hts⟩ (w_parentOf l G y b0 σ E hO (ad E a 1) 240 f1 (hO.roww h_a k13_1 isA1 ef1 rfl) i (show rng i from ri) (by omega) (by omega) ((hy0.few (by omega) (by omega))) (by omega)) (va_cwS 2 hts gX11_tellWay_X11_parentOf rfl rfl rfl (by decide +kernel) ⟨(by first | (simp only [headSpec]; omega) | omega | (dsimp only; omega)), (by first | (simp only [headSpec]; omega) | omega | (dsimp only; omega))⟩) (th_PS hK hH) rfl rfl hl.1 rfl (lv_room (Nat.le_of_ble_eq_true rfl)) dX11_tellWay_5 ⟨(by first | (simp only [headSpec]; omega) | omega | (dsimp only; omega)), (by first | (simp only [headSpec]; omega) | omega | (dsimp only; omega))⟩) hS (fun z_3 σ_s_2 H locs rz_3 hw_1 hH hS => ?_)
    obtain ⟨e9, hw_1⟩ := hw_1
    replace e9 := e9.symm
    subst e9
    have hw_1 : z_3 = -1 ∨ (0 ≤ z_3 ∧ z_3 < i) := hw_1
    refine lv_istore_n (lv' := [(2, .int (I z_3)), (0, .ref a), (1, .int (I i))]) hx hb dX11_tellWay_8 rfl hl (by decide) rfl (fun ls hl => ?_)
    refine lv_iload_n hx hb dX11_tellWay_9 rfl (lv_at hl 0 rfl) ?_
    refine lv_iconst (v := I (-1)) hx hb dX11_tellWay_10 (by decide) ?_
    refine lv_icmp_ne (tgt := 15) hx hb dX11_tellWay_11 (by decide) (fun c_4 => ?_) (fun c_4 => ?_)
    · replace c_4 := mt (I_eq (a := z_3) (b := (-1)) rz_3 (show rng (-1) from ⟨by decide, by decide⟩)).mpr c_4
      refine lv_aload_n hx hb dX11_tellWay_15 rfl (lv_at hl 1 rfl) ?_
      refine lv_iload_n hx hb dX11_tellWay_16 rfl (lv_at hl 0 rfl) ?_
      obtain ⟨_, hc_5⟩ := hO.cell h_a (by decide) (ci := 11) rfl
      refine th_callv (va_runV (As := [.int (I z_3)]) (rest := []) ⟨hx, hb, hml, hown, hts⟩ (ih l G y b0 σ E hO a h_a z_3 (show rng z_3 from rz_3) (by omega) (by omega) f1 ef1 (hy0) (by omega) (by omega) (by omega) (by omega)) (cwV 1 hts gX11_tellWay_X11_tellWay rfl rfl rfl (by decide +kernel) ⟨(by first | (simp only [headSpec]; omega) | omega | (dsimp only; omega)), (by first | (simp only [headSpec]; omega) | omega | (dsimp only; omega))⟩) (th_PV hK hH rfl hc_5) rfl rfl hl.1 rfl (lv_room (Nat.le_of_ble_eq_true rfl)) dX11_tellWay_17 ⟨(by first | (simp only [headSpec]; omega) | omega | (dsimp only; omega)), (by first | (simp only [headSpec]; omega) | omega | (dsimp only; omega))⟩) hS (fun σ_s_7 H locs hw_6 hH hS => ?_)
      obtain ⟨hO9, hF9, hM9, hw_6⟩ := hw_6
      replace hM := hM.tu hM9 (by decide)
      replace hF := hF.tu hF9 (by decide)
      have e_8 : aF σ_s_7 (ad E a 1) = f1 := (hM9.a (by decide) (by decide)).trans ef1
      replace hO := hO9
      have hw_6 : gI σ a 50 ≤ gI σ_s_7 a 50 ∧ gI σ_s_7 a 50 ≤ gI σ a 50 + 8 * z_3 := hw_6
      refine lv_aload_n hx hb dX11_tellWay_20 rfl (lv_at hl 1 rfl) ?_
      refine lv_aload_n hx hb dX11_tellWay_21 rfl (lv_at hl 1 rfl) ?_
      refine ok.getR hO h_a (by decide) k13_1 (by decide) (fun _ _ he hv kk => th_get (ci := 11) (C := RX11) (T := TX11) (N := 66) hx hb hts inX11 hown hK hH he rfl 1 (by decide) fl0 hv dX11_tellWay_22 kk) ?_
      refine lv_iload_n hx hb dX11_tellWay_25 rfl (lv_at hl 0 rfl) ?_
      refine th_calli (va_runS (As := [.ref (ad E a 1), .int (I z_3)]) (rest := [.ref a]) ⟨hx, hb, hml, hown, hts⟩ (w_kind l G y b0 σ_s_7 E hO (ad E a 1) 240 f1 (hO.roww h_a k13_1 isA1 e_8 rfl) z_3 (show rng z_3 from rz_3) (by omega) (by omega) (by omega)) (va_cwS 2 hts gX11_tellWay_X11_kind rfl rfl rfl (by decide +kernel) ⟨(by first | (simp only [headSpec]; omega) | omega | (dsimp only; omega)), (by first | (simp only [headSpec]; omega) | omega | (dsimp only; omega))⟩) (th_PS hK hH) rfl rfl hl.1 rfl (lv_room (Nat.le_of_ble_eq_true rfl)) dX11_tellWay_26 ⟨(by first | (simp only [headSpec]; omega) | omega | (dsimp only; omega)), (by first | (simp only [headSpec]; omega) | omega | (dsimp only; omega))⟩) hS (fun z_11 σ_s_10 H locs rz_11 hw_9 hH hS => ?_)
      obtain ⟨e9, hw_9⟩ := hw_9
      replace e9 := e9.symm
      subst e9
      have hw_9 : z_11 = mK f1 z_3 := hw_9
      refine lv_iconst (v := I 3) hx hb dX11_tellWay_29 (by decide) ?_
      refine th_join (α := Int) (J := 57) (stk := fun x9 => [.int (I x9), .ref a]) (fun x9 σ9 H9 l9 ls9 => σ9 = σ_s_7 ∧ th_H G b0 σ9 H9 ∧ va_S (th_A b0) s.heap H9 l9 ∧ lv_has ls9 3 [] ∧ rng x9) ?_ (fun jK_21 => ?_)
      · intro x9 σ_K_21 H locs ls hI9
        obtain ⟨w0q20, ex9⟩ : ∃ z, z = x9 := ⟨_, rfl⟩
        subst ex9
        obtain ⟨eK_21, hH, hS, hl, rw0q20⟩ := hI9
        replace eK_21 := eK_21.symm
        subst eK_21
        have hl : lv_has ls 3 [] := hl
        have rw0q20 : rng w0q20 := rw0q20
        obtain ⟨_, hc_22⟩ := hO.cell h_a (by decide) (ci := 11) rfl
        refine th_callv (va_runV (As := [.int (I w0q20)]) (rest := []) ⟨hx, hb, hml, hown, hts⟩ (m_tellStep l G y b0 σ_s_7 E hO a h_a w0q20 (show rng w0q20 from rw0q20) (by omega)) (cwV 1 hts gX11_tellWay_X11_tellStep rfl rfl rfl (by decide +kernel) ⟨(by first | (simp only [headSpec]; omega) | omega | (dsimp only; omega)), (by first | (simp only [headSpec]; omega) | omega | (dsimp only; omega))⟩) (th_PV hK hH rfl hc_22) rfl rfl hl.1 rfl (lv_room (Nat.le_of_ble_eq_true rfl)) dX11_tellWay_57 ⟨(by first | (simp only [headSpec]; omega) | omega | (dsimp only; omega)), (by first | (simp only [headSpec]; omega) | omega | (dsimp only; omega))⟩) hS (fun σ_s_24 H locs hw_23 hH hS => ?_)
        obtain ⟨hO9, hF9, hM9, hw_23⟩ := hw_23
        replace hM := hM.tu hM9 (by decide)
        replace hF := hF.tu hF9 (by decide)
        have e_25 : aF σ_s_24 (ad E a 1) = f1 := (hM9.a (by decide) (by decide)).trans e_8
        replace hO := hO9
        have hw_23 : gI σ_s_7 a 50 ≤ gI σ_s_24 a 50 ∧ gI σ_s_24 a 50 ≤ gI σ_s_7 a 50 + 8 := hw_23
        exact th_vret hx hb hr hlocks hH hS ⟨hO, hF, hM, by omega⟩ dX11_tellWay_60
      · refine lv_icmp_ne (tgt := 46) hx hb dX11_tellWay_30 (by decide) (fun c_26 => ?_) (fun c_26 => ?_)
        · replace c_26 := mt (I_eq (a := z_11) (b := 3) rz_11 (show rng 3 from ⟨by decide, by decide⟩)).mpr c_26
          refine lv_aload_n hx hb dX11_tellWay_46 rfl (lv_at hl 1 rfl) ?_
          refine ok.getR hO h_a (by decide) k13_1 (by decide) (fun _ _ he hv kk => th_get (ci := 11) (C := RX11) (T := TX11) (N := 66) hx hb hts inX11 hown hK hH he rfl 1 (by decide) fl0 hv dX11_tellWay_47 kk) ?_
          refine lv_iload_n hx hb dX11_tellWay_50 rfl (lv_at hl 2 rfl) ?_
          refine th_calli (va_runS (As := [.ref (ad E a 1), .int (I i)]) (rest := [.ref a]) ⟨hx, hb, hml, hown, hts⟩ (w_placeOf l G y b0 σ_s_7 E hO (ad E a 1) 240 f1 (hO.roww h_a k13_1 isA1 e_8 rfl) i (show rng i from ri) (by omega) (by omega) (hy0) (by omega) (by omega)) (va_cwS 2 hts gX11_tellWay_X11_placeOf rfl rfl rfl (by decide +kernel) ⟨(by first | (simp only [headSpec]; omega) | omega | (dsimp only; omega)), (by first | (simp only [headSpec]; omega) | omega | (dsimp only; omega))⟩) (th_PS hK hH) rfl rfl hl.1 rfl (lv_room (Nat.le_of_ble_eq_true rfl)) dX11_tellWay_51 ⟨(by first | (simp only [headSpec]; omega) | omega | (dsimp only; omega)), (by first | (simp only [headSpec]; omega) | omega | (dsimp only; omega))⟩) hS (fun z_29 σ_s_28 H locs rz_29 hw_27 hH hS => ?_)
          obtain ⟨e9, hw_27⟩ := hw_27
          replace e9 := e9.symm
          subst e9
          have hw_27 : -1 ≤ z_29 ∧ z_29 ≤ 4000 := hw_27
          refine th_calli (va_runS (As := [.int (I z_29)]) (rest := [.ref a]) ⟨hx, hb, hml, hown, hts⟩ (w_stepOfX l G y b0 σ_s_7 E hO z_29 (show rng z_29 from rz_29)) (va_cwS 1 hts gX11_tellWay_X11_stepOf rfl rfl rfl (by decide +kernel) ⟨(by first | (simp only [headSpec]; omega) | omega | (dsimp only; omega)), (by first | (simp only [headSpec]; omega) | omega | (dsimp only; omega))⟩) (th_PS hK hH) rfl rfl hl.1 rfl (lv_room (Nat.le_of_ble_eq_true rfl)) dX11_tellWay_54 ⟨(by first | (simp only [headSpec]; omega) | omega | (dsimp only; omega)), (by first | (simp only [headSpec]; omega) | omega | (dsimp only; omega))⟩) hS (fun z_32 σ_s_31 H locs rz_32 hw_30 hH hS => ?_)
          obtain ⟨e9, hw_30⟩ := hw_30
          replace e9 := e9.symm
          subst e9
          replace hl : lv_has ls 3 [] := lv_sub hl [] rfl
          exact jK_21 (z_32) σ_s_7 _ _ _ ⟨rfl, hH, hS, lv_sub hl [] rfl, rz_32⟩
        · replace c_26 := (I_eq (a := z_11) (b := 3) rz_11 (show rng 3 from ⟨by decide, by decide⟩)).mp c_26
          refine lv_aload_n hx hb dX11_tellWay_33 rfl (lv_at hl 1 rfl) ?_
          refine ok.getR hO h_a (by decide) k13_1 (by decide) (fun _ _ he hv kk => th_get (ci := 11) (C := RX11) (T := TX11) (N := 66) hx hb hts inX11 hown hK hH he rfl 1 (by decide) fl0 hv dX11_tellWay_34 kk) ?_
          refine lv_iconst (v := I 4) hx hb dX11_tellWay_37 (by decide) ?_
          refine lv_iload_n hx hb dX11_tellWay_38 rfl (lv_at hl 2 rfl) ?_
          refine lv_imul hx hb dX11_tellWay_39 ?_
          refine nq_top (I_mul _ _) ?_
          refine lv_iconst (v := I 2) hx hb dX11_tellWay_40 (by decide) ?_
          refine lv_iadd hx hb dX11_tellWay_41 ?_
          refine nq_top (I_add _ _) ?_
          refine m_iald hx hb hK hH hO h_a k13_1 isA1 e_8 ⟨by omega, by omega⟩ (by omega) (by omega) dX11_tellWay_42 (fun z_33 ez_33 rz_33 elx9 => ?_)
          refine lv_goto (tgt := 57) hx hb dX11_tellWay_43 (by decide) ?_
          replace hl : lv_has ls 3 [] := lv_sub hl [] rfl
          exact jK_21 (z_33) σ_s_7 _ _ _ ⟨rfl, hH, hS, lv_sub hl [] rfl, rz_33⟩
    · replace c_4 := (I_eq (a := z_3) (b := (-1)) rz_3 (show rng (-1) from ⟨by decide, by decide⟩)).mp c_4
      exact th_vret hx hb hr hlocks hH hS ⟨hO, hF, hM, by omega⟩ dX11_tellWay_14

set_option maxHeartbeats 4000000 in
set_option maxRecDepth 100000 in
theorem m_outAt (l : Launch) (G : va_G) (y : Nat → ClassId) (b0 : Nat) (σ : th_M) (E : th_E) (hO : ok y E σ) (a : Nat) (h_a : kd E a = 13) (i : Int) (ri : rng i) : Met l yX11_outAt wsX11_outAt ({ frames := 1, cells := 0, slots := 0, locals := 26 }) (th_P G y b0 σ [.ref a, .int (I i)]) (th_Qi G b0 (fun r σ1 => ok y E σ1 ∧ fr [13] E σ σ1 ∧ fm [0] E σ σ1 a ∧ (True))) 0 0 (th_A b0) := by
  refine Met.ofW (cc := cX11_outAt) (maxL := 2) (ret := (some .int)) (by decide) rfl ?_
  intro p e s m args below meth c s₁ B hml hv
  obtain ⟨rfl, hH, hK⟩ := hv
  have hx := B.exec
  have hb := B.bytes
  have hr := B.returns
  have hts := atoms_spec (ws := wsX11_outAt) B.pre
  have hown : s.vm.findClass RX11 = some m.cls := findClass_of_methodNamed B.named
  have hlocks := B.notSynchronized
  have h00 : b0 ≤ s.heap.size := hH.1
  have hS : va_S (th_A b0) s.heap s.heap [] := va_S.rf
  have hF : fr [13] E σ σ := fr.rf
  have hM : fm [0] E σ σ a := fm.rf
  have inX11 : ∀ w ∈ wsX110, w ∈ wsX11_outAt := by decide +kernel
  have fl0 := hts (.fieldLink RX11 471 "NestQueryModel" "outMany" "I") (by decide +kernel)
  have fl1 := hts (.fieldLink RX11 78 "NestQueryModel" "out" "[I") (by decide +kernel)
  have hl := lv_entry ([.ref a, .int (I i)]) (n := 2) (Nat.le_of_ble_eq_true rfl)
  rw [lg_entry_eq]
  generalize (lg_sl ([.ref a, .int (I i)]) ++ List.replicate (2 - (lg_sl ([.ref a, .int (I i)])).length) Slot.unset).toArray = ls at hl ⊢
  have hl : lv_has ls 2 [(0, .ref a), (1, .int (I i))] := hl
  obtain ⟨a500, ea500, ra500, la500, ua500⟩ := hO.gi h_a (by decide) k13_50
  refine lv_iload_n hx hb dX11_outAt_0 rfl (lv_at hl 1 rfl) ?_
  refine lv_iconst (v := I (-1)) hx hb dX11_outAt_1 (by decide) ?_
  refine lv_icmp_ne (tgt := 12) hx hb dX11_outAt_2 (by decide) (fun c_1 => ?_) (fun c_1 => ?_)
  · replace c_1 := mt (I_eq (a := i) (b := (-1)) ri (show rng (-1) from ⟨by decide, by decide⟩)).mpr c_1
    refine lv_iload_n hx hb dX11_outAt_12 rfl (lv_at hl 1 rfl) ?_
    refine lv_iconst (v := I 0) hx hb dX11_outAt_13 (by decide) ?_
    refine lv_aload_n hx hb dX11_outAt_14 rfl (lv_at hl 0 rfl) ?_
    refine ok.getIc hO h_a (by decide) k13_50 ea500 (fun _ _ he hv kk => th_get (ci := 11) (C := RX11) (T := TX11) (N := 66) hx hb hts inX11 hown hK hH he rfl 50 (by decide) fl0 hv dX11_outAt_15 kk) ?_
    refine lv_iconst (v := I 1) hx hb dX11_outAt_18 (by decide) ?_
    refine lv_isub hx hb dX11_outAt_19 ?_
    refine nq_top (I_sub _ _) ?_
    refine th_calli (va_runS (As := [.int (I i), .int (I 0), .int (I (a500 - 1))]) (rest := []) ⟨hx, hb, hml, hown, hts⟩ (w_isIn l G y b0 σ E hO i (show rng i from ri) 0 (show rng 0 from (show rng 0 from ⟨by decide, by decide⟩)) (a500 - 1) (show rng (a500 - 1) from ⟨by omega, by omega⟩)) (va_cwS 3 hts gX11_outAt_X11_isIn rfl rfl rfl (by decide +kernel) ⟨Nat.le_of_ble_eq_true rfl, Nat.le_of_ble_eq_true rfl⟩) (th_PS hK hH) rfl rfl hl.1 rfl (lv_room (Nat.le_of_ble_eq_true rfl)) dX11_outAt_20 ⟨Nat.le_of_ble_eq_true rfl, Nat.le_of_ble_eq_true rfl⟩) hS (fun z_4 σ_s_3 H locs rz_4 hw_2 hH hS => ?_)
    obtain ⟨e9, bhw_2, hw_2⟩ := hw_2
    replace e9 := e9.symm
    subst e9
    have hw_2 : (z_4 = 1 ∧ 0 ≤ i ∧ i ≤ (a500 - 1)) ∨ (z_4 = 0 ∧ ¬ (0 ≤ i ∧ i ≤ (a500 - 1))) := hw_2
    refine lv_if_eq (tgt := 35) hx hb dX11_outAt_23 (by decide) (fun c_5 => ?_) (fun c_5 => ?_)
    · replace c_5 := (I_eq (a := z_4) (b := 0) rz_4 (show rng 0 from ⟨by decide, by decide⟩)).mp c_5
      refine lv_aload_n hx hb dX11_outAt_35 rfl (lv_at hl 0 rfl) ?_
      refine lv_iconst (v := I 1) hx hb dX11_outAt_36 (by decide) ?_
      obtain ⟨_, hc_6⟩ := hO.cell h_a (by decide) (ci := 11) rfl
      refine th_calli (va_runV (As := [.int (I 1)]) (rest := []) ⟨hx, hb, hml, hown, hts⟩ (m_fail l G y b0 σ E hO a h_a 1 (show rng 1 from (show rng 1 from ⟨by decide, by decide⟩))) (cwV 1 hts gX11_outAt_X11_fail rfl rfl rfl (by decide +kernel) ⟨Nat.le_of_ble_eq_true rfl, Nat.le_of_ble_eq_true rfl⟩) (th_PV hK hH rfl hc_6) rfl rfl hl.1 rfl (lv_room (Nat.le_of_ble_eq_true rfl)) dX11_outAt_37 ⟨Nat.le_of_ble_eq_true rfl, Nat.le_of_ble_eq_true rfl⟩) hS (fun z_9 σ_s_8 H locs rz_9 hw_7 hH hS => ?_)
      obtain ⟨hO9, hF9, hM9, hw_7⟩ := hw_7
      replace hM := hM.tu hM9 (by decide)
      replace hF := hF.tu hF9 (by decide)
      have e_10 : gI σ_s_8 a 50 = a500 := (hM9.i (by decide)).trans ea500
      replace hO := hO9
      exact th_iret hx hb hr hlocks hH hS (z := z_9) rz_9 ⟨hO, hF, hM, trivial⟩ dX11_outAt_40
    · replace c_5 := mt (I_eq (a := z_4) (b := 0) rz_4 (show rng 0 from ⟨by decide, by decide⟩)).mpr c_5
      refine lv_aload_n hx hb dX11_outAt_26 rfl (lv_at hl 0 rfl) ?_
      refine ok.getR hO h_a (by decide) k13_49 (by decide) (fun _ _ he hv kk => th_get (ci := 11) (C := RX11) (T := TX11) (N := 66) hx hb hts inX11 hown hK hH he rfl 49 (by decide) fl1 hv dX11_outAt_27 kk) ?_
      refine lv_iload_n hx hb dX11_outAt_30 rfl (lv_at hl 1 rfl) ?_
      obtain ⟨f_12, ef_13⟩ : ∃ f9, aF σ (ad E a 49) = f9 := ⟨_, rfl⟩
      refine m_iald hx hb hK hH hO h_a k13_49 isA1 ef_13 ri (by omega) (by omega) dX11_outAt_31 (fun z_11 ez_11 rz_11 elx9 => ?_)
      refine lv_goto (tgt := 40) hx hb dX11_outAt_32 (by decide) ?_
      exact th_iret hx hb hr hlocks hH hS (z := z_11) rz_11 ⟨hO, hF, hM, trivial⟩ dX11_outAt_40
  · replace c_1 := (I_eq (a := i) (b := (-1)) ri (show rng (-1) from ⟨by decide, by decide⟩)).mp c_1
    refine lv_aload_n hx hb dX11_outAt_5 rfl (lv_at hl 0 rfl) ?_
    refine ok.getIc hO h_a (by decide) k13_50 ea500 (fun _ _ he hv kk => th_get (ci := 11) (C := RX11) (T := TX11) (N := 66) hx hb hts inX11 hown hK hH he rfl 50 (by decide) fl0 hv dX11_outAt_6 kk) ?_
    refine lv_goto (tgt := 40) hx hb dX11_outAt_9 (by decide) ?_
    exact th_iret hx hb hr hlocks hH hS (z := a500) ra500 ⟨hO, hF, hM, trivial⟩ dX11_outAt_40
