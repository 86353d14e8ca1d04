set_option maxHeartbeats 4000000 in
set_option maxRecDepth 100000 in
theorem q6_layBytes (l : Launch) (G : va_G) (y : Nat → ClassId) (b0 : Nat) (σ : th_M) (E : th_E) (hO : ok y E σ) (a : Nat) (h_a : kd E a = 12) (x : Int) (rx : rng x) (hy0 : gI σ a 1 + 4 ≤ 400) : Met l yX10_layBytes wsX10_layBytes ({ frames := 0, cells := 0, slots := 0, locals := 0 }) (th_P G y b0 σ [.ref a, .int (I x)]) (th_Qv G b0 (fun σ1 => ok y E σ1 ∧ fr [12] E σ σ1 ∧ (gI σ1 a 1 = gI σ a 1 + 4 ∧ gI σ1 a 11 = gI σ a 11 ∧ lay4 (aF σ (ad E a 0)) (aF σ1 (ad E a 0)) (gI σ a 1) 4 x))) 0 0 (th_A b0) := by
  refine Met.ofW (cc := cX10_layBytes) (maxL := 3) (ret := none) (by decide) rfl ?_
  intro p e s m args below meth c s₁ B hml hv
  obtain ⟨rfl, hH, hK⟩ := hv
  have hx := B.exec
  have hb := B.bytes
  have hr := B.returns
  have hts := atoms_spec (ws := wsX10_layBytes) B.pre
  have hown : s.vm.findClass RX10 = some m.cls := findClass_of_methodNamed B.named
  have hlocks := B.notSynchronized
  have h00 : b0 ≤ s.heap.size := hH.1
  have hS : va_S (th_A b0) s.heap s.heap [] := va_S.rf
  have hF : fr [12] E σ σ := fr.rf
  have inX10 : ∀ w ∈ wsX100, w ∈ wsX10_layBytes := by decide +kernel
  have fl0 := hts (.fieldLink RX10 114 "NestQuery" "tapeCount" "I") (by decide +kernel)
  have fl1 := hts (.fieldLink RX10 9 "NestQuery" "tape" "[I") (by decide +kernel)
  have hl := lv_entry ([.ref a, .int (I x)]) (n := 3) (Nat.le_of_ble_eq_true rfl)
  rw [lg_entry_eq]
  generalize (lg_sl ([.ref a, .int (I x)]) ++ List.replicate (3 - (lg_sl ([.ref a, .int (I x)])).length) Slot.unset).toArray = ls at hl ⊢
  have hl : lv_has ls 3 [(0, .ref a), (1, .int (I x))] := hl
  obtain ⟨a10, ea10, ra10, la10, ua10⟩ := hO.gi h_a (by decide) k12_1
  obtain ⟨a110, ea110, ra110, la110, ua110⟩ := hO.gi h_a (by decide) k12_11
  refine lv_bipush (v := I 24) hx hb dX10_layBytes_0 (by decide) ?_
  refine lv_istore_n (lv' := [(2, .int (I 24)), (0, .ref a), (1, .int (I x))]) hx hb dX10_layBytes_2 rfl hl (by decide) rfl (fun ls hl => ?_)
  refine th_loop (α := Int) (pc := 3) (fun x9 => (x9 + 8).toNat) (fun x9 σ9 H9 l9 ls9 => ok y E σ9 ∧ fr [12] E σ σ9 ∧ th_H G b0 σ9 H9 ∧ va_S (th_A b0) s.heap H9 l9 ∧ lv_has ls9 3 [(0, .ref a), (1, .int (I x)), (2, .int (I x9))] ∧ rng x9 ∧ (-8 ≤ x9) ∧ (x9 ≤ 24) ∧ (x9 % 8 = 0) ∧ (8 * gI σ9 a 1 = 8 * gI σ a 1 + 24 - x9) ∧ (lay4 (aF σ (ad E a 0)) (aF σ9 (ad E a 0)) (gI σ a 1) (gI σ9 a 1 - gI σ a 1) x) ∧ (gI σ9 a 11 = a110)) ?_ (24) σ _ _ _ ⟨hO, hF, hH, hS, lv_sub hl [1, 2, 0] rfl, (show rng 24 from ⟨by decide, by decide⟩), by first | omega | (dsimp only; omega), by first | omega | (dsimp only; omega), by first | omega | (dsimp only; omega), by first | omega | (dsimp only; omega), (lay4.zero (by omega)), ea110⟩
  intro x9 σ_J_36 H locs ls hI9 ihJ_36
  obtain ⟨v2q35, ex9⟩ : ∃ z, z = x9 := ⟨_, rfl⟩
  subst ex9
  obtain ⟨hO, hF, hH, hS, hl, rv2q35, J_36_0, J_36_1, J_36_2, J_36_3, J_36_4, J_36_5⟩ := hI9
  have hl : lv_has ls 3 [(0, .ref a), (1, .int (I x)), (2, .int (I v2q35))] := hl
  have rv2q35 : rng v2q35 := rv2q35
  replace J_36_0 : -8 ≤ v2q35 := J_36_0
  replace J_36_1 : v2q35 ≤ 24 := J_36_1
  replace J_36_2 : v2q35 % 8 = 0 := J_36_2
  replace J_36_3 : 8 * gI σ_J_36 a 1 = 8 * gI σ a 1 + 24 - v2q35 := J_36_3
  replace J_36_4 : lay4 (aF σ (ad E a 0)) (aF σ_J_36 (ad E a 0)) (gI σ a 1) (gI σ_J_36 a 1 - gI σ a 1) x := J_36_4
  replace J_36_5 : gI σ_J_36 a 11 = a110 := J_36_5
  obtain ⟨f_37, ef_38⟩ : ∃ f9, aF σ_J_36 (ad E a 0) = f9 := ⟨_, rfl⟩
  refine lv_iload_n hx hb dX10_layBytes_3 rfl (lv_at hl 2 rfl) ?_
  refine lv_if_lt (tgt := 56) hx hb dX10_layBytes_4 (by decide) (fun c_39 => ?_) (fun c_39 => ?_)
  · replace c_39 := (I_lt (a := v2q35) (b := 0) rv2q35 (show rng 0 from ⟨by decide, by decide⟩)).mp c_39
    exact th_vret hx hb hr hlocks hH hS ⟨hO, hF, ⟨by omega, by omega, by have h9 := J_36_4; rw [show gI σ_J_36 a 1 - gI σ a 1 = 4 by omega] at h9; exact h9⟩⟩ dX10_layBytes_56
  · replace c_39 := mt (I_lt (a := v2q35) (b := 0) rv2q35 (show rng 0 from ⟨by decide, by decide⟩)).mpr c_39
    refine lv_aload_n hx hb dX10_layBytes_7 rfl (lv_at hl 0 rfl) ?_
    refine ok.getI hO h_a (by decide) k12_1 (fun _ _ he hv kk => th_get (ci := 10) (C := RX10) (T := TX10) (N := 18) hx hb hts inX10 hown hK hH he rfl 1 (by decide) fl0 hv dX10_layBytes_8 kk) (fun z_40 e_41 rz_40 lz_40 uz_40 => ?_)
    refine lv_if_lt (tgt := 50) hx hb dX10_layBytes_11 (by decide) (fun c_42 => ?_) (fun c_42 => ?_)
    · replace c_42 := (I_lt (a := z_40) (b := 0) rz_40 (show rng 0 from ⟨by decide, by decide⟩)).mp c_42
      refine lv_iinc (v := I (v2q35 + (-8))) (lv' := [(2, .int (I (v2q35 + (-8)))), (0, .ref a), (1, .int (I x))]) hx hb dX10_layBytes_50 hl (k := 2) rfl (I_add _ _) (by decide) rfl (fun ls hl => ?_)
      refine lv_goto (tgt := 3) hx hb dX10_layBytes_53 (by decide) ?_
      exact ihJ_36 (v2q35 + (-8)) σ_J_36 _ _ _ (by first | omega | (dsimp only; omega)) ⟨hO, hF, hH, hS, lv_sub hl [1, 2, 0] rfl, ⟨by first | omega | (dsimp only; omega), by first | omega | (dsimp only; omega)⟩, by first | omega | (dsimp only; omega), by first | omega | (dsimp only; omega), by first | omega | (dsimp only; omega), by first | omega | (dsimp only; omega), (by exfalso; omega), J_36_5⟩
    · replace c_42 := mt (I_lt (a := z_40) (b := 0) rz_40 (show rng 0 from ⟨by decide, by decide⟩)).mpr c_42
      refine lv_aload_n hx hb dX10_layBytes_14 rfl (lv_at hl 0 rfl) ?_
      refine ok.getIc hO h_a (by decide) k12_1 e_41 (fun _ _ he hv kk => th_get (ci := 10) (C := RX10) (T := TX10) (N := 18) hx hb hts inX10 hown hK hH he rfl 1 (by decide) fl0 hv dX10_layBytes_15 kk) ?_
      refine lv_sipush (v := I 400) hx hb dX10_layBytes_18 (by decide) ?_
      refine lv_icmp_ge (tgt := 50) hx hb dX10_layBytes_21 (by decide) (fun c_43 => ?_) (fun c_43 => ?_)
      · replace c_43 := (I_le (a := 400) (b := z_40) (show rng 400 from ⟨by decide, by decide⟩) rz_40).mp c_43
        refine lv_iinc (v := I (v2q35 + (-8))) (lv' := [(2, .int (I (v2q35 + (-8)))), (0, .ref a), (1, .int (I x))]) hx hb dX10_layBytes_50 hl (k := 2) rfl (I_add _ _) (by decide) rfl (fun ls hl => ?_)
        refine lv_goto (tgt := 3) hx hb dX10_layBytes_53 (by decide) ?_
        exact ihJ_36 (v2q35 + (-8)) σ_J_36 _ _ _ (by first | omega | (dsimp only; omega)) ⟨hO, hF, hH, hS, lv_sub hl [1, 2, 0] rfl, ⟨by first | omega | (dsimp only; omega), by first | omega | (dsimp only; omega)⟩, by first | omega | (dsimp only; omega), by first | omega | (dsimp only; omega), by first | omega | (dsimp only; omega), by first | omega | (dsimp only; omega), (by exfalso; omega), J_36_5⟩
      · replace c_43 := mt (I_le (a := 400) (b := z_40) (show rng 400 from ⟨by decide, by decide⟩) rz_40).mpr c_43
        refine lv_aload_n hx hb dX10_layBytes_24 rfl (lv_at hl 0 rfl) ?_
        refine ok.getR hO h_a (by decide) k12_0 (by decide) (fun _ _ he hv kk => th_get (ci := 10) (C := RX10) (T := TX10) (N := 18) hx hb hts inX10 hown hK hH he rfl 0 (by decide) fl1 hv dX10_layBytes_25 kk) ?_
        refine lv_aload_n hx hb dX10_layBytes_28 rfl (lv_at hl 0 rfl) ?_
        refine ok.getIc hO h_a (by decide) k12_1 e_41 (fun _ _ he hv kk => th_get (ci := 10) (C := RX10) (T := TX10) (N := 18) hx hb hts inX10 hown hK hH he rfl 1 (by decide) fl0 hv dX10_layBytes_29 kk) ?_
        refine lv_iload_n hx hb dX10_layBytes_32 rfl (lv_at hl 1 rfl) ?_
        refine lv_iload_n hx hb dX10_layBytes_33 rfl (lv_at hl 2 rfl) ?_
        refine lv_iushr hx hb dX10_layBytes_34 rfl ?_
        refine lv_sipush (v := I 255) hx hb dX10_layBytes_35 (by decide) ?_
        refine lv_iand hx hb dX10_layBytes_38 ?_
        refine th_sb (fun z_44 rz_44 hz_44 => ?_)
        have hrz_44 := sb_rng (I x) v2q35
        refine ok_iast hx hb hK hH hS h00 hO h_a (by decide) k12_0 isA1 rz_40 (by omega) (by omega) rz_44 el1 dX10_layBytes_39 (fun σ_s_45 H locs hO hF9 hi9 ha9 hH hS => ?_)
        replace hF := hF.tu hF9 (by decide)
        have e_46 : gI σ_s_45 a 11 = a110 := (hi9 _ _).trans J_36_5
        have e_47 : gI σ_s_45 a 1 = z_40 := (hi9 _ _).trans e_41
        obtain ⟨g_48, dg_48⟩ : ∃ g9, g9 = upd f_37 (z_40).toNat (I z_44) := ⟨_, rfl⟩
        have ef_49 : aF σ_s_45 (ad E a 0) = g_48 := by rw [ha9.1, ef_38, dg_48]
        refine lv_aload_n hx hb dX10_layBytes_40 rfl (lv_at hl 0 rfl) ?_
        refine lv_dup hx hb dX10_layBytes_41 rfl ?_
        refine ok.getIc hO h_a (by decide) k12_1 e_47 (fun _ _ he hv kk => th_get (ci := 10) (C := RX10) (T := TX10) (N := 18) hx hb hts inX10 hown hK hH he rfl 1 (by decide) fl0 hv dX10_layBytes_42 kk) ?_
        refine lv_iconst (v := I 1) hx hb dX10_layBytes_45 (by decide) ?_
        refine lv_iadd hx hb dX10_layBytes_46 ?_
        refine nq_top (I_add _ _) ?_
        refine ok.putI hO h_a (by decide) k12_1 ⟨by omega, by omega⟩ (by omega) (by omega) (fun _ he hl9 kk => th_put (ci := 10) (v := .int (I (z_40 + 1))) (ty := .int) (C := RX10) (T := TX10) (N := 18) hx hb hts inX10 tyX10 tyX10_ok nmX10 hown hK hH hS h00 he rfl 1 (by decide) fl0 rfl (by decide +kernel) rfl rfl hl9 dX10_layBytes_47 kk) (fun σ_s_50 H locs hO hF9 hg9 hi9 ha9 hH hS => ?_)
        replace hF := hF.tu hF9 (by decide)
        have e_51 : gI σ_s_50 a 11 = a110 := (hi9 _ _ (Or.inr (by decide))).trans e_46
        have ef_52 : aF σ_s_50 (ad E a 0) = g_48 := (ha9 _).trans ef_49
        have e_53 := hg9
        refine lv_iinc (v := I (v2q35 + (-8))) (lv' := [(2, .int (I (v2q35 + (-8)))), (0, .ref a), (1, .int (I x))]) hx hb dX10_layBytes_50 hl (k := 2) rfl (I_add _ _) (by decide) rfl (fun ls hl => ?_)
        refine lv_goto (tgt := 3) hx hb dX10_layBytes_53 (by decide) ?_
        exact ihJ_36 (v2q35 + (-8)) σ_s_50 _ _ _ (by first | omega | (dsimp only; omega)) ⟨hO, hF, hH, hS, lv_sub hl [1, 2, 0] rfl, ⟨by first | omega | (dsimp only; omega), by first | omega | (dsimp only; omega)⟩, by first | omega | (dsimp only; omega), by first | omega | (dsimp only; omega), by first | omega | (dsimp only; omega), by first | omega | (dsimp only; omega), (by have h9 := J_36_4; rw [ef_38] at h9; rw [ef_52]; exact lay4.step h9 dg_48 rz_44 (by omega) (by omega) (by omega) (by omega) (by omega) hz_44), e_51⟩

set_option maxHeartbeats 4000000 in
set_option maxRecDepth 100000 in
theorem q6_feed (l : Launch) (G : va_G) (y : Nat → ClassId) (b0 : Nat) (σ : th_M) (E : th_E) (hO : ok y E σ) (a : Nat) (h_a : kd E a = 12) (w1 : Int) (rw1 : rng w1) (w2 : Int) (rw2 : rng w2) (w3 : Int) (rw3 : rng w3) (w4 : Int) (rw4 : rng w4) (w5 : Int) (rw5 : rng w5) : Met l yX10_feed wsX10_feed ({ frames := 1, cells := 0, slots := 0, locals := 26 }) (th_P G y b0 σ [.ref a, .int (I w1), .int (I w2), .int (I w3), .int (I w4), .int (I w5)]) (th_Qi G b0 (fun r σ1 => ok y E σ1 ∧ fr [12] E σ σ1 ∧ (((gI σ a 1 + 20 ≤ 400 ∧ gI σ1 a 1 = gI σ a 1 + 20 ∧ r = gI σ a 1 + 20) ∨ (¬ gI σ a 1 + 20 ≤ 400 ∧ gI σ1 a 1 = gI σ a 1 ∧ r = -1)) ∧ gI σ1 a 11 = gI σ a 11 ∧ (gI σ a 1 + 20 ≤ 400 → fdp (aF σ (ad E a 0)) (aF σ1 (ad E a 0)) (gI σ a 1) 20 w1 w2 w3 w4 w5) ∧ (¬ gI σ a 1 + 20 ≤ 400 → aF σ1 (ad E a 0) = aF σ (ad E a 0))))) 0 0 (th_A b0) := by
  refine Met.ofW (cc := cX10_feed) (maxL := 6) (ret := (some .int)) (by decide) rfl ?_
  intro p e s m args below meth c s₁ B hml hv
  obtain ⟨rfl, hH, hK⟩ := hv
  have hx := B.exec
  have hb := B.bytes
  have hr := B.returns
  have hts := atoms_spec (ws := wsX10_feed) B.pre
  have hown : s.vm.findClass RX10 = some m.cls := findClass_of_methodNamed B.named
  have hlocks := B.notSynchronized
  have h00 : b0 ≤ s.heap.size := hH.1
  have hS : va_S (th_A b0) s.heap s.heap [] := va_S.rf
  have hF : fr [12] E σ σ := fr.rf
  have inX10 : ∀ w ∈ wsX100, w ∈ wsX10_feed := by decide +kernel
  have fl0 := hts (.fieldLink RX10 114 "NestQuery" "tapeCount" "I") (by decide +kernel)
  have hl := lv_entry ([.ref a, .int (I w1), .int (I w2), .int (I w3), .int (I w4), .int (I w5)]) (n := 6) (Nat.le_of_ble_eq_true rfl)
  rw [lg_entry_eq]
  generalize (lg_sl ([.ref a, .int (I w1), .int (I w2), .int (I w3), .int (I w4), .int (I w5)]) ++ List.replicate (6 - (lg_sl ([.ref a, .int (I w1), .int (I w2), .int (I w3), .int (I w4), .int (I w5)])).length) Slot.unset).toArray = ls at hl ⊢
  have hl : lv_has ls 6 [(0, .ref a), (1, .int (I w1)), (2, .int (I w2)), (3, .int (I w3)), (4, .int (I w4)), (5, .int (I w5))] := hl
  obtain ⟨a10, ea10, ra10, la10, ua10⟩ := hO.gi h_a (by decide) k12_1
  obtain ⟨a110, ea110, ra110, la110, ua110⟩ := hO.gi h_a (by decide) k12_11
  refine lv_aload_n hx hb dX10_feed_0 rfl (lv_at hl 0 rfl) ?_
  refine ok.getIc hO h_a (by decide) k12_1 ea10 (fun _ _ he hv kk => th_get (ci := 10) (C := RX10) (T := TX10) (N := 18) hx hb hts inX10 hown hK hH he rfl 1 (by decide) fl0 hv dX10_feed_1 kk) ?_
  refine lv_bipush (v := I 20) hx hb dX10_feed_4 (by decide) ?_
  refine lv_iadd hx hb dX10_feed_6 ?_
  refine nq_top (I_add _ _) ?_
  refine lv_sipush (v := I 400) hx hb dX10_feed_7 (by decide) ?_
  refine lv_icmp_le (tgt := 15) hx hb dX10_feed_10 (by decide) (fun c_1 => ?_) (fun c_1 => ?_)
  · replace c_1 := (I_le (a := a10 + 20) (b := 400) ⟨by omega, by omega⟩ (show rng 400 from ⟨by decide, by decide⟩)).mp c_1
    refine lv_aload_n hx hb dX10_feed_15 rfl (lv_at hl 0 rfl) ?_
    refine lv_iload_n hx hb dX10_feed_16 rfl (lv_at hl 1 rfl) ?_
    obtain ⟨_, hc_2⟩ := hO.cell h_a (by decide) (ci := 10) rfl
    refine th_callv (va_runV (As := [.int (I w1)]) (rest := []) ⟨hx, hb, hml, hown, hts⟩ (q6_layBytes l G y b0 σ E hO a h_a w1 (show rng w1 from rw1) (by omega)) (cwV 1 hts gX10_feed_X10_layBytes rfl rfl rfl (by decide +kernel) ⟨Nat.le_of_ble_eq_true rfl, Nat.le_of_ble_eq_true rfl⟩) (th_PV hK hH rfl hc_2) rfl rfl hl.1 rfl (lv_room (Nat.le_of_ble_eq_true rfl)) dX10_feed_17 ⟨Nat.le_of_ble_eq_true rfl, Nat.le_of_ble_eq_true rfl⟩) hS (fun σ_s_4 H locs hw_3 hH hS => ?_)
    obtain ⟨hO9, hF9, hw_3⟩ := hw_3
    replace hO := hO9
    replace hF := hF.tu hF9 (by decide)
    replace hw_3 : gI σ_s_4 a 1 = gI σ a 1 + 4 ∧ gI σ_s_4 a 11 = gI σ a 11 ∧ lay4 (aF σ (ad E a 0)) (aF σ_s_4 (ad E a 0)) (gI σ a 1) 4 w1 := hw_3
    refine lv_aload_n hx hb dX10_feed_20 rfl (lv_at hl 0 rfl) ?_
    refine lv_iload_n hx hb dX10_feed_21 rfl (lv_at hl 2 rfl) ?_
    obtain ⟨_, hc_5⟩ := hO.cell h_a (by decide) (ci := 10) rfl
    refine th_callv (va_runV (As := [.int (I w2)]) (rest := []) ⟨hx, hb, hml, hown, hts⟩ (q6_layBytes l G y b0 σ_s_4 E hO a h_a w2 (show rng w2 from rw2) (by omega)) (cwV 1 hts gX10_feed_X10_layBytes rfl rfl rfl (by decide +kernel) ⟨Nat.le_of_ble_eq_true rfl, Nat.le_of_ble_eq_true rfl⟩) (th_PV hK hH rfl hc_5) rfl rfl hl.1 rfl (lv_room (Nat.le_of_ble_eq_true rfl)) dX10_feed_22 ⟨Nat.le_of_ble_eq_true rfl, Nat.le_of_ble_eq_true rfl⟩) hS (fun σ_s_7 H locs hw_6 hH hS => ?_)
    obtain ⟨hO9, hF9, hw_6⟩ := hw_6
    replace hO := hO9
    replace hF := hF.tu hF9 (by decide)
    replace hw_6 : gI σ_s_7 a 1 = gI σ_s_4 a 1 + 4 ∧ gI σ_s_7 a 11 = gI σ_s_4 a 11 ∧ lay4 (aF σ_s_4 (ad E a 0)) (aF σ_s_7 (ad E a 0)) (gI σ_s_4 a 1) 4 w2 := hw_6
    refine lv_aload_n hx hb dX10_feed_25 rfl (lv_at hl 0 rfl) ?_
    refine lv_iload_n hx hb dX10_feed_26 rfl (lv_at hl 3 rfl) ?_
    obtain ⟨_, hc_8⟩ := hO.cell h_a (by decide) (ci := 10) rfl
    refine th_callv (va_runV (As := [.int (I w3)]) (rest := []) ⟨hx, hb, hml, hown, hts⟩ (q6_layBytes l G y b0 σ_s_7 E hO a h_a w3 (show rng w3 from rw3) (by omega)) (cwV 1 hts gX10_feed_X10_layBytes rfl rfl rfl (by decide +kernel) ⟨Nat.le_of_ble_eq_true rfl, Nat.le_of_ble_eq_true rfl⟩) (th_PV hK hH rfl hc_8) rfl rfl hl.1 rfl (lv_room (Nat.le_of_ble_eq_true rfl)) dX10_feed_27 ⟨Nat.le_of_ble_eq_true rfl, Nat.le_of_ble_eq_true rfl⟩) hS (fun σ_s_10 H locs hw_9 hH hS => ?_)
    obtain ⟨hO9, hF9, hw_9⟩ := hw_9
    replace hO := hO9
    replace hF := hF.tu hF9 (by decide)
    replace hw_9 : gI σ_s_10 a 1 = gI σ_s_7 a 1 + 4 ∧ gI σ_s_10 a 11 = gI σ_s_7 a 11 ∧ lay4 (aF σ_s_7 (ad E a 0)) (aF σ_s_10 (ad E a 0)) (gI σ_s_7 a 1) 4 w3 := hw_9
    refine lv_aload_n hx hb dX10_feed_30 rfl (lv_at hl 0 rfl) ?_
    refine lv_iload hx hb dX10_feed_31 (lv_at hl 4 rfl) ?_
    obtain ⟨_, hc_11⟩ := hO.cell h_a (by decide) (ci := 10) rfl
    refine th_callv (va_runV (As := [.int (I w4)]) (rest := []) ⟨hx, hb, hml, hown, hts⟩ (q6_layBytes l G y b0 σ_s_10 E hO a h_a w4 (show rng w4 from rw4) (by omega)) (cwV 1 hts gX10_feed_X10_layBytes rfl rfl rfl (by decide +kernel) ⟨Nat.le_of_ble_eq_true rfl, Nat.le_of_ble_eq_true rfl⟩) (th_PV hK hH rfl hc_11) rfl rfl hl.1 rfl (lv_room (Nat.le_of_ble_eq_true rfl)) dX10_feed_33 ⟨Nat.le_of_ble_eq_true rfl, Nat.le_of_ble_eq_true rfl⟩) hS (fun σ_s_13 H locs hw_12 hH hS => ?_)
    obtain ⟨hO9, hF9, hw_12⟩ := hw_12
    replace hO := hO9
    replace hF := hF.tu hF9 (by decide)
    replace hw_12 : gI σ_s_13 a 1 = gI σ_s_10 a 1 + 4 ∧ gI σ_s_13 a 11 = gI σ_s_10 a 11 ∧ lay4 (aF σ_s_10 (ad E a 0)) (aF σ_s_13 (ad E a 0)) (gI σ_s_10 a 1) 4 w4 := hw_12
    refine lv_aload_n hx hb dX10_feed_36 rfl (lv_at hl 0 rfl) ?_
    refine lv_iload hx hb dX10_feed_37 (lv_at hl 5 rfl) ?_
    obtain ⟨_, hc_14⟩ := hO.cell h_a (by decide) (ci := 10) rfl
    refine th_callv (va_runV (As := [.int (I w5)]) (rest := []) ⟨hx, hb, hml, hown, hts⟩ (q6_layBytes l G y b0 σ_s_13 E hO a h_a w5 (show rng w5 from rw5) (by omega)) (cwV 1 hts gX10_feed_X10_layBytes rfl rfl rfl (by decide +kernel) ⟨Nat.le_of_ble_eq_true rfl, Nat.le_of_ble_eq_true rfl⟩) (th_PV hK hH rfl hc_14) rfl rfl hl.1 rfl (lv_room (Nat.le_of_ble_eq_true rfl)) dX10_feed_39 ⟨Nat.le_of_ble_eq_true rfl, Nat.le_of_ble_eq_true rfl⟩) hS (fun σ_s_16 H locs hw_15 hH hS => ?_)
    obtain ⟨hO9, hF9, hw_15⟩ := hw_15
    replace hO := hO9
    replace hF := hF.tu hF9 (by decide)
    replace hw_15 : gI σ_s_16 a 1 = gI σ_s_13 a 1 + 4 ∧ gI σ_s_16 a 11 = gI σ_s_13 a 11 ∧ lay4 (aF σ_s_13 (ad E a 0)) (aF σ_s_16 (ad E a 0)) (gI σ_s_13 a 1) 4 w5 := hw_15
    refine lv_aload_n hx hb dX10_feed_42 rfl (lv_at hl 0 rfl) ?_
    refine ok.getI hO h_a (by decide) k12_1 (fun _ _ he hv kk => th_get (ci := 10) (C := RX10) (T := TX10) (N := 18) hx hb hts inX10 hown hK hH he rfl 1 (by decide) fl0 hv dX10_feed_43 kk) (fun z_17 e_18 rz_17 lz_17 uz_17 => ?_)
    exact th_iret hx hb hr hlocks hH hS (z := z_17) rz_17 ⟨hO, hF, ⟨by omega, by omega, fun _ => lay4.fdp5 (by omega) hw_3.2.2 (by have h9 := hw_6.2.2; rw [show gI σ_s_4 a 1 = gI σ a 1 + 4 by omega] at h9; exact h9) (by have h9 := hw_9.2.2; rw [show gI σ_s_7 a 1 = gI σ a 1 + 8 by omega] at h9; exact h9) (by have h9 := hw_12.2.2; rw [show gI σ_s_10 a 1 = gI σ a 1 + 12 by omega] at h9; exact h9) (by have h9 := hw_15.2.2; rw [show gI σ_s_13 a 1 = gI σ a 1 + 16 by omega] at h9; exact h9), fun h9 => absurd (show gI σ a 1 + 20 ≤ 400 by omega) h9⟩⟩ dX10_feed_46
  · replace c_1 := mt (I_le (a := a10 + 20) (b := 400) ⟨by omega, by omega⟩ (show rng 400 from ⟨by decide, by decide⟩)).mpr c_1
    refine lv_iconst (v := I (-1)) hx hb dX10_feed_13 (by decide) ?_
    exact th_iret hx hb hr hlocks hH hS (z := (-1)) (show rng (-1) from ⟨by decide, by decide⟩) ⟨hO, hF, ⟨by omega, by omega, fun h9 => absurd h9 (by omega), fun _ => rfl⟩⟩ dX10_feed_14

set_option maxHeartbeats 4000000 in
set_option maxRecDepth 100000 in
theorem q6_textWasRead (l : Launch) (G : va_G) (y : Nat → ClassId) (b0 : Nat) (σ : th_M) (E : th_E) (hO : ok y E σ) (a : Nat) (h_a : kd E a = 12) (i : Int) (ri : rng i) : Met l yX10_textWasRead wsX10_textWasRead ({ frames := 1, cells := 0, slots := 0, locals := 25 }) (th_P G y b0 σ [.ref a, .int (I i)]) (th_Qv G b0 (fun σ1 => ok y E σ1 ∧ fr [12, 5] E σ σ1 ∧ (gI σ1 a 1 = 0 ∧ gI σ1 a 11 = gI σ a 11))) 0 0 (th_A b0) := by
  refine Met.ofW (cc := cX10_textWasRead) (maxL := 2) (ret := none) (by decide) rfl ?_
  intro p e s m args below meth c s₁ B hml hv
  obtain ⟨rfl, hH, hK⟩ := hv
  have hx := B.exec
  have hb := B.bytes
  have hr := B.returns
  have hts := atoms_spec (ws := wsX10_textWasRead) B.pre
  have hown : s.vm.findClass RX10 = some m.cls := findClass_of_methodNamed B.named
  have hlocks := B.notSynchronized
  have h00 : b0 ≤ s.heap.size := hH.1
  have hS : va_S (th_A b0) s.heap s.heap [] := va_S.rf
  have hF : fr [12, 5] E σ σ := fr.rf
  have inX10 : ∀ w ∈ wsX100, w ∈ wsX10_textWasRead := by decide +kernel
  have inX8 : ∀ w ∈ wsX80, w ∈ wsX10_textWasRead := by decide +kernel
  have fl0 := hts (.fieldLink RX10 114 "NestQuery" "tapeCount" "I") (by decide +kernel)
  have fl1 := hts (.fieldLink RX10 31 "NestQuery" "tokens" "LNestQuery$Tokens;") (by decide +kernel)
  have fl2 := hts (.fieldLink RX10 13 "NestQuery" "faultPlace" "I") (by decide +kernel)
  have fl3 := hts (.fieldLink RX10 63 "NestQuery" "now" "LNestQuery$State;") (by decide +kernel)
  have hl := lv_entry ([.ref a, .int (I i)]) (n := 2) (Nat.le_of_ble_eq_true rfl)
  rw [lg_entry_eq]
  generalize (lg_sl ([.ref a, .int (I i)]) ++ List.replicate (2 - (lg_sl ([.ref a, .int (I i)])).length) Slot.unset).toArray = ls at hl ⊢
  have hl : lv_has ls 2 [(0, .ref a), (1, .int (I i))] := hl
  obtain ⟨a10, ea10, ra10, la10, ua10⟩ := hO.gi h_a (by decide) k12_1
  obtain ⟨a110, ea110, ra110, la110, ua110⟩ := hO.gi h_a (by decide) k12_11
  refine lv_aload_n hx hb dX10_textWasRead_0 rfl (lv_at hl 0 rfl) ?_
  refine lv_iconst (v := I 0) hx hb dX10_textWasRead_1 (by decide) ?_
  refine ok.putI hO h_a (by decide) k12_1 (show rng 0 from ⟨by decide, by decide⟩) (by omega) (by omega) (fun _ he hl9 kk => th_put (ci := 10) (v := .int (I 0)) (ty := .int) (C := RX10) (T := TX10) (N := 18) hx hb hts inX10 tyX10 tyX10_ok nmX10 hown hK hH hS h00 he rfl 1 (by decide) fl0 rfl (by decide +kernel) rfl rfl hl9 dX10_textWasRead_2 kk) (fun σ_s_1 H locs hO hF9 hg9 hi9 ha9 hH hS => ?_)
  replace hF := hF.tu hF9 (by decide)
  have e_2 : gI σ_s_1 a 11 = a110 := (hi9 _ _ (Or.inr (by decide))).trans ea110
  have e_3 := hg9
  refine lv_aload_n hx hb dX10_textWasRead_5 rfl (lv_at hl 0 rfl) ?_
  refine lv_aload_n hx hb dX10_textWasRead_6 rfl (lv_at hl 0 rfl) ?_
  have hp_4 : kd E (ad E a 5) = 3 := ok.pk hO h_a (by decide) k12_5 rfl
  refine ok.getR hO h_a (by decide) k12_5 (by decide) (fun _ _ he hv kk => th_get (ci := 10) (C := RX10) (T := TX10) (N := 18) hx hb hts inX10 hown hK hH he rfl 5 (by decide) fl1 hv dX10_textWasRead_7 kk) ?_
  refine ok.getI hO hp_4 (by decide) k3_8 (fun _ _ he hv kk => th_getN (ci := 8) (C := RX8) (T := TX8) (N := 9) hx hb hts inX8 hown hK hH he rfl 8 (by decide) (nl_8 hK) hv dX10_textWasRead_10 kk) (fun z_5 e_6 rz_5 lz_5 uz_5 => ?_)
  refine ok.putI hO h_a (by decide) k12_2 rz_5 (by omega) (by omega) (fun _ he hl9 kk => th_put (ci := 10) (v := .int (I z_5)) (ty := .int) (C := RX10) (T := TX10) (N := 18) hx hb hts inX10 tyX10 tyX10_ok nmX10 hown hK hH hS h00 he rfl 2 (by decide) fl2 rfl (by decide +kernel) rfl rfl hl9 dX10_textWasRead_13 kk) (fun σ_s_7 H locs hO hF9 hg9 hi9 ha9 hH hS => ?_)
  replace hF := hF.tu hF9 (by decide)
  have e_8 : gI σ_s_7 a 11 = a110 := (hi9 _ _ (Or.inr (by decide))).trans e_2
  have e_9 : gI σ_s_7 a 1 = 0 := (hi9 _ _ (Or.inr (by decide))).trans e_3
  have e_10 : gI σ_s_7 (ad E a 5) 8 = z_5 := (hi9 _ _ (Or.inr (by decide))).trans e_6
  have e_11 := hg9
  refine lv_iload_n hx hb dX10_textWasRead_16 rfl (lv_at hl 1 rfl) ?_
  refine lv_if_eq (tgt := 28) hx hb dX10_textWasRead_17 (by decide) (fun c_12 => ?_) (fun c_12 => ?_)
  · replace c_12 := (I_eq (a := i) (b := 0) ri (show rng 0 from ⟨by decide, by decide⟩)).mp c_12
    exact th_vret hx hb hr hlocks hH hS ⟨hO, hF, ⟨by omega, by omega⟩⟩ dX10_textWasRead_28
  · replace c_12 := mt (I_eq (a := i) (b := 0) ri (show rng 0 from ⟨by decide, by decide⟩)).mpr c_12
    refine lv_aload_n hx hb dX10_textWasRead_20 rfl (lv_at hl 0 rfl) ?_
    have hp_13 : kd E (ad E a 9) = 5 := ok.pk hO h_a (by decide) k12_9 rfl
    refine ok.getR hO h_a (by decide) k12_9 (by decide) (fun _ _ he hv kk => th_get (ci := 10) (C := RX10) (T := TX10) (N := 18) hx hb hts inX10 hown hK hH he rfl 9 (by decide) fl3 hv dX10_textWasRead_21 kk) ?_
    refine lv_iconst (v := I 0) hx hb dX10_textWasRead_24 (by decide) ?_
    obtain ⟨_, hc_14⟩ := hO.cell hp_13 (by decide) (ci := 6) rfl
    refine th_callv (va_runV (As := [.int (I 0)]) (rest := []) ⟨hx, hb, hml, hown, hts⟩ (e_refuse l G y b0 σ_s_7 E hO (ad E a 9) hp_13 0 (show rng 0 from (show rng 0 from ⟨by decide, by decide⟩))) (cwV 1 hts gX10_textWasRead_X6_refuse rfl rfl rfl (by decide +kernel) ⟨Nat.le_of_ble_eq_true rfl, Nat.le_of_ble_eq_true rfl⟩) (th_PV hK hH rfl hc_14) rfl rfl hl.1 rfl (lv_room (Nat.le_of_ble_eq_true rfl)) dX10_textWasRead_25 ⟨Nat.le_of_ble_eq_true rfl, Nat.le_of_ble_eq_true rfl⟩) hS (fun σ_s_16 H locs hw_15 hH hS => ?_)
    obtain ⟨hO9, hF9, hw_15⟩ := hw_15
    have e_17 : gI σ_s_16 a 11 = a110 := (fr.ki hO hF9 h_a (by decide) (by decide) _).trans e_8
    have e_18 : gI σ_s_16 a 1 = 0 := (fr.ki hO hF9 h_a (by decide) (by decide) _).trans e_9
    have e_19 : gI σ_s_16 (ad E a 5) 8 = z_5 := (fr.ki hO hF9 hp_4 (by decide) (by decide) _).trans e_10
    have e_20 : gI σ_s_16 a 2 = z_5 := (fr.ki hO hF9 h_a (by decide) (by decide) _).trans e_11
    replace hO := hO9
    replace hF := hF.tu hF9 (by decide)
    exact th_vret hx hb hr hlocks hH hS ⟨hO, hF, ⟨by omega, by omega⟩⟩ dX10_textWasRead_28

set_option maxHeartbeats 4000000 in
set_option maxRecDepth 100000 in
theorem q6_readData (l : Launch) (G : va_G) (y : Nat → ClassId) (b0 : Nat) (σ : th_M) (E : th_E) (hO : ok y E σ) (a : Nat) (h_a : kd E a = 12) (i : Int) (ri : rng i) (hy0 : ∀ k : Int, 0 ≤ k → k < gI σ a 1 → 0 ≤ (aF σ (ad E a 0) k.toNat).toInt ∧ (aF σ (ad E a 0) k.toNat).toInt ≤ 255) (hy1 : 0 ≤ i ∧ i ≤ gI σ a 1) : Met l yX10_readData wsX10_readData ({ frames := 46, cells := 0, slots := 0, locals := 1734 }) (th_P G y b0 σ [.ref a, .int (I i)]) (th_Qi G b0 (fun r σ1 => ok y E σ1 ∧ fr [12, 5, 3, 1] E σ σ1 ∧ (gI σ1 a 1 = 0 ∧ gI σ1 a 11 = gI σ a 11 ∧ ∃ T p, tkSt (byf (aF σ (ad E a 0)) i) T ∧ TopR T r p))) 0 0 (th_A b0) := by
  refine Met.ofW (cc := cX10_readData) (maxL := 3) (ret := (some .int)) (by decide) rfl ?_
  intro p e s m args below meth c s₁ B hml hv
  obtain ⟨rfl, hH, hK⟩ := hv
  have hx := B.exec
  have hb := B.bytes
  have hr := B.returns
  have hts := atoms_spec (ws := wsX10_readData) B.pre
  have hown : s.vm.findClass RX10 = some m.cls := findClass_of_methodNamed B.named
  have hlocks := B.notSynchronized
  have h00 : b0 ≤ s.heap.size := hH.1
  have hS : va_S (th_A b0) s.heap s.heap [] := va_S.rf
  have hF : fr [12, 5, 3, 1] E σ σ := fr.rf
  have inX10 : ∀ w ∈ wsX100, w ∈ wsX10_readData := by decide +kernel
  have fl0 := hts (.fieldLink RX10 40 "NestQuery" "dataReader" "LNestQuery$DataReader;") (by decide +kernel)
  have fl1 := hts (.fieldLink RX10 9 "NestQuery" "tape" "[I") (by decide +kernel)
  have fl2 := hts (.fieldLink RX10 56 "NestQuery" "data" "LNestQuery$Tree;") (by decide +kernel)
  have hl := lv_entry ([.ref a, .int (I i)]) (n := 3) (Nat.le_of_ble_eq_true rfl)
  rw [lg_entry_eq]
  generalize (lg_sl ([.ref a, .int (I i)]) ++ List.replicate (3 - (lg_sl ([.ref a, .int (I i)])).length) Slot.unset).toArray = ls at hl ⊢
  have hl : lv_has ls 3 [(0, .ref a), (1, .int (I i))] := hl
  obtain ⟨a10, ea10, ra10, la10, ua10⟩ := hO.gi h_a (by decide) k12_1
  obtain ⟨a110, ea110, ra110, la110, ua110⟩ := hO.gi h_a (by decide) k12_11
  refine lv_aload_n hx hb dX10_readData_0 rfl (lv_at hl 0 rfl) ?_
  have hp_1 : kd E (ad E a 6) = 10 := ok.pk hO h_a (by decide) k12_6 rfl
  refine ok.getR hO h_a (by decide) k12_6 (by decide) (fun _ _ he hv kk => th_get (ci := 10) (C := RX10) (T := TX10) (N := 18) hx hb hts inX10 hown hK hH he rfl 6 (by decide) fl0 hv dX10_readData_1 kk) ?_
  refine lv_aload_n hx hb dX10_readData_4 rfl (lv_at hl 0 rfl) ?_
  refine ok.getR hO h_a (by decide) k12_0 (by decide) (fun _ _ he hv kk => th_get (ci := 10) (C := RX10) (T := TX10) (N := 18) hx hb hts inX10 hown hK hH he rfl 0 (by decide) fl1 hv dX10_readData_5 kk) ?_
  refine lv_iload_n hx hb dX10_readData_8 rfl (lv_at hl 1 rfl) ?_
  refine lv_aload_n hx hb dX10_readData_9 rfl (lv_at hl 0 rfl) ?_
  have hp_2 : kd E (ad E a 8) = 1 := ok.pk hO h_a (by decide) k12_8 rfl
  refine ok.getR hO h_a (by decide) k12_8 (by decide) (fun _ _ he hv kk => th_get (ci := 10) (C := RX10) (T := TX10) (N := 18) hx hb hts inX10 hown hK hH he rfl 8 (by decide) fl2 hv dX10_readData_10 kk) ?_
  obtain ⟨_, hc_3⟩ := hO.cell hp_1 (by decide) (ci := 1) rfl
  refine th_calli (va_runV (As := [.ref (ad E a 0), .int (I i), .ref (ad E a 8)]) (rest := []) ⟨hx, hb, hml, hown, hts⟩ (r6_read l G y b0 σ E hO (ad E a 6) hp_1 a h_a i (show rng i from ri) (ad E a 8) hp_2 (byf (aF σ (ad E a 0)) i) (by omega) ((fun k h0 h1 => (byf_in h0 h1).symm)) ((fun k h1 => byf_out h1)) ((byf_byt hy0 (by omega))) ((fun k h0 h1 => by rw [byf_in h0 h1]; exact (hy0 k h0 (by omega)).1))) (cwV 3 hts gX10_readData_X1_read rfl rfl rfl (by decide +kernel) ⟨Nat.le_of_ble_eq_true rfl, Nat.le_of_ble_eq_true rfl⟩) (th_PV hK hH rfl hc_3) rfl rfl hl.1 rfl (lv_room (Nat.le_of_ble_eq_true rfl)) dX10_readData_13 ⟨Nat.le_of_ble_eq_true rfl, Nat.le_of_ble_eq_true rfl⟩) hS (fun z_6 σ_s_5 H locs rz_6 hw_4 hH hS => ?_)
  obtain ⟨hO9, hF9, hw_4⟩ := hw_4
  have e_7 : gI σ_s_5 a 1 = a10 := (fr.ki hO hF9 h_a (by decide) (by decide) _).trans ea10
  have e_8 : gI σ_s_5 a 11 = a110 := (fr.ki hO hF9 h_a (by decide) (by decide) _).trans ea110
  replace hO := hO9
  replace hF := hF.tu hF9 (by decide)
  replace hw_4 : ∃ T, tkSt (byf (aF σ (ad E a 0)) i) T ∧ TopR T z_6 (gI σ_s_5 (ad E (ad E a 6) 0) 8) := hw_4
  refine lv_istore_n (lv' := [(2, .int (I z_6)), (0, .ref a), (1, .int (I i))]) hx hb dX10_readData_16 rfl hl (by decide) rfl (fun ls hl => ?_)
  refine lv_aload_n hx hb dX10_readData_17 rfl (lv_at hl 1 rfl) ?_
  refine lv_iload_n hx hb dX10_readData_18 rfl (lv_at hl 0 rfl) ?_
  obtain ⟨_, hc_9⟩ := hO.cell h_a (by decide) (ci := 10) rfl
  refine th_callv (va_runV (As := [.int (I z_6)]) (rest := []) ⟨hx, hb, hml, hown, hts⟩ (q6_textWasRead l G y b0 σ_s_5 E hO a h_a z_6 (show rng z_6 from rz_6)) (cwV 1 hts gX10_readData_X10_textWasRead rfl rfl rfl (by decide +kernel) ⟨Nat.le_of_ble_eq_true rfl, Nat.le_of_ble_eq_true rfl⟩) (th_PV hK hH rfl hc_9) rfl rfl hl.1 rfl (lv_room (Nat.le_of_ble_eq_true rfl)) dX10_readData_19 ⟨Nat.le_of_ble_eq_true rfl, Nat.le_of_ble_eq_true rfl⟩) hS (fun σ_s_11 H locs hw_10 hH hS => ?_)
  obtain ⟨hO9, hF9, hw_10⟩ := hw_10
  replace hO := hO9
  replace hF := hF.tu hF9 (by decide)
  replace hw_10 : gI σ_s_11 a 1 = 0 ∧ gI σ_s_11 a 11 = gI σ_s_5 a 11 := hw_10
  refine lv_iload_n hx hb dX10_readData_22 rfl (lv_at hl 0 rfl) ?_
  exact th_iret hx hb hr hlocks hH hS (z := z_6) rz_6 ⟨hO, hF, ⟨by omega, by omega, by obtain ⟨T, h8, h9⟩ := hw_4; exact ⟨T, _, h8, h9⟩⟩⟩ dX10_readData_23

set_option maxHeartbeats 4000000 in
set_option maxRecDepth 100000 in
theorem x6_tree (l : Launch) (hl0 : l.stackTraces = false) (G : va_G) (y : Nat → ClassId) (b0 : Nat) (σ : th_M) (E : th_E) (hO : ok y E σ) (a : Nat) (h_a : kd E a = 12) (n : Int) (rn : rng n) (hy0 : ∀ k : Int, 0 ≤ k → k < gI σ a 1 → 0 ≤ (aF σ (ad E a 0) k.toNat).toInt ∧ (aF σ (ad E a 0) k.toNat).toInt ≤ 255) : vx_Met l yX10_tree wsX10_tree ({ frames := 47, cells := 1, slots := 6, locals := 1760 }) (th_PX G y b0 σ [.ref a, .int (I n)]) (th_Qi G b0 (fun r σ1 => ok y E σ1 ∧ fr [12, 5, 3, 1] E σ σ1 ∧ ((0 ≤ n ∧ n ≤ gI σ a 1) ∧ gI σ1 a 1 = 0 ∧ (r = 0 → gI σ1 a 11 = 0) ∧ (r ≠ 0 → gI σ1 a 11 = gI σ a 11) ∧ ∃ T p, tkSt (byf (aF σ (ad E a 0)) n) T ∧ TopR T r p))) (th_XX G b0 (fun X σ1 => ok y E σ1 ∧ fr [12, 5, 3, 1] E σ σ1 ∧ (X = nq_IAE ∧ ¬ (0 ≤ n ∧ n ≤ gI σ a 1) ∧ gI σ1 a 1 = gI σ a 1 ∧ gI σ1 a 11 = gI σ a 11 ∧ aF σ1 (ad E a 0) = aF σ (ad E a 0)))) 1 6 (th_A b0) := by
  refine vx_ofW (cc := cX10_tree) (maxL := 3) (ret := (some .int)) (by decide) rfl ?_
  intro p e s m args below meth c s₁ B hml htab hv
  obtain ⟨rfl, hH, hK, hXs⟩ := hv
  have hx := B.exec
  have hb := B.bytes
  have hr := B.returns
  have hts := atoms_spec (ws := wsX10_tree) B.pre
  have hown : s.vm.findClass RX10 = some m.cls := findClass_of_methodNamed B.named
  have hlocks := B.notSynchronized
  have h00 : b0 ≤ s.heap.size := hH.1
  have hS : va_S (th_A b0) s.heap s.heap [] := va_S.rf
  have hF : fr [12, 5, 3, 1] E σ σ := fr.rf
  have inX10 : ∀ w ∈ wsX100, w ∈ wsX10_tree := by decide +kernel
  have inX6 : ∀ w ∈ wsX60, w ∈ wsX10_tree := by decide +kernel
  have fl0 := hts (.fieldLink RX10 63 "NestQuery" "now" "LNestQuery$State;") (by decide +kernel)
  have fl1 := hts (.fieldLink RX10 56 "NestQuery" "data" "LNestQuery$Tree;") (by decide +kernel)
  have fl2 := hts (.fieldLink RX10 145 "NestQuery" "imageThere" "Z") (by decide +kernel)
  have hl := lv_entry ([.ref a, .int (I n)]) (n := 3) (Nat.le_of_ble_eq_true rfl)
  rw [lg_entry_eq]
  generalize (lg_sl ([.ref a, .int (I n)]) ++ List.replicate (3 - (lg_sl ([.ref a, .int (I n)])).length) Slot.unset).toArray = ls at hl ⊢
  have hl : lv_has ls 3 [(0, .ref a), (1, .int (I n))] := hl
  obtain ⟨a10, ea10, ra10, la10, ua10⟩ := hO.gi h_a (by decide) k12_1
  obtain ⟨a110, ea110, ra110, la110, ua110⟩ := hO.gi h_a (by decide) k12_11
  refine lv_aload_n hx hb dX10_tree_0 rfl (lv_at hl 0 rfl) ?_
  refine lv_iload_n hx hb dX10_tree_1 rfl (lv_at hl 1 rfl) ?_
  obtain ⟨_, hc_1⟩ := hO.cell h_a (by decide) (ci := 10) rfl
  refine th_calli (va_runV (As := [.int (I n)]) (rest := []) ⟨hx, hb, hml, hown, hts⟩ (q_tapeHas l G y b0 σ E hO a h_a n (show rng n from rn)) (cwV 1 hts gX10_tree_X10_tapeHas rfl rfl rfl (by decide +kernel) ⟨Nat.le_of_ble_eq_true rfl, Nat.le_of_ble_eq_true rfl⟩) (th_PV hK hH rfl hc_1) rfl rfl hl.1 rfl (lv_room (Nat.le_of_ble_eq_true rfl)) dX10_tree_2 ⟨Nat.le_of_ble_eq_true rfl, Nat.le_of_ble_eq_true rfl⟩) hS (fun z_4 σ_s_3 H locs rz_4 hw_2 hH hS => ?_)
  obtain ⟨e9, bhw_2, hw_2⟩ := hw_2
  replace e9 := e9.symm
  subst e9
  replace hw_2 : (z_4 = 1 ∧ 0 ≤ n ∧ n ≤ gI σ a 1) ∨ (z_4 = 0 ∧ ¬ (0 ≤ n ∧ n ≤ gI σ a 1)) := hw_2
  refine lv_if_ne (tgt := 18) hx hb dX10_tree_5 (by decide) (fun c_5 => ?_) (fun c_5 => ?_)
  · replace c_5 := mt (I_eq (a := z_4) (b := 0) rz_4 (show rng 0 from ⟨by decide, by decide⟩)).mpr c_5
    refine lv_aload_n hx hb dX10_tree_18 rfl (lv_at hl 0 rfl) ?_
    refine lv_iload_n hx hb dX10_tree_19 rfl (lv_at hl 1 rfl) ?_
    obtain ⟨_, hc_6⟩ := hO.cell h_a (by decide) (ci := 10) rfl
    refine th_calli (va_runV (As := [.int (I n)]) (rest := []) ⟨hx, hb, hml, hown, hts⟩ (q6_readData l G y b0 σ E hO a h_a n (show rng n from rn) (hy0) (by omega)) (cwV 1 hts gX10_tree_X10_readData rfl rfl rfl (by decide +kernel) ⟨Nat.le_of_ble_eq_true rfl, Nat.le_of_ble_eq_true rfl⟩) (th_PV hK hH rfl hc_6) rfl rfl hl.1 rfl (lv_room (Nat.le_of_ble_eq_true rfl)) dX10_tree_20 ⟨Nat.le_of_ble_eq_true rfl, Nat.le_of_ble_eq_true rfl⟩) hS (fun z_9 σ_s_8 H locs rz_9 hw_7 hH hS => ?_)
    obtain ⟨hO9, hF9, hw_7⟩ := hw_7
    replace hO := hO9
    replace hF := hF.tu hF9 (by decide)
    replace hw_7 : gI σ_s_8 a 1 = 0 ∧ gI σ_s_8 a 11 = gI σ a 11 ∧ ∃ T p, tkSt (byf (aF σ (ad E a 0)) n) T ∧ TopR T z_9 p := hw_7
    obtain ⟨z_10, e_11, rz_10, lz_10, uz_10⟩ := hO.gi h_a (by decide) k12_1
    obtain ⟨z_12, e_13, rz_12, lz_12, uz_12⟩ := hO.gi h_a (by decide) k12_11
    refine lv_istore_n (lv' := [(2, .int (I z_9)), (0, .ref a), (1, .int (I n))]) hx hb dX10_tree_23 rfl hl (by decide) rfl (fun ls hl => ?_)
    refine lv_iload_n hx hb dX10_tree_24 rfl (lv_at hl 0 rfl) ?_
    refine lv_if_ne (tgt := 63) hx hb dX10_tree_25 (by decide) (fun c_14 => ?_) (fun c_14 => ?_)
    · replace c_14 := mt (I_eq (a := z_9) (b := 0) rz_9 (show rng 0 from ⟨by decide, by decide⟩)).mpr c_14
      refine lv_iload_n hx hb dX10_tree_63 rfl (lv_at hl 0 rfl) ?_
      refine vx_ret ?_
      refine W.widen (k := 1) (n := 6) (Nat.le_of_ble_eq_true rfl) (Nat.le_of_ble_eq_true rfl) ?_
      exact th_iret hx hb hr hlocks hH hS (z := z_9) rz_9 ⟨hO, hF, ⟨by omega, by omega, by omega, by omega, hw_7.2.2⟩⟩ dX10_tree_64
    · replace c_14 := (I_eq (a := z_9) (b := 0) rz_9 (show rng 0 from ⟨by decide, by decide⟩)).mp c_14
      refine lv_aload_n hx hb dX10_tree_28 rfl (lv_at hl 1 rfl) ?_
      have hp_15 : kd E (ad E a 9) = 5 := ok.pk hO h_a (by decide) k12_9 rfl
      refine ok.getR hO h_a (by decide) k12_9 (by decide) (fun _ _ he hv kk => th_get (ci := 10) (C := RX10) (T := TX10) (N := 18) hx hb hts inX10 hown hK hH he rfl 9 (by decide) fl0 hv dX10_tree_29 kk) ?_
      have hp_16 : kd E (ad E (ad E a 9) 0) = 1 := ok.pk hO hp_15 (by decide) k5_0 rfl
      refine ok.getR hO hp_15 (by decide) k5_0 (by decide) (fun _ _ he hv kk => th_getN (ci := 6) (C := RX6) (T := TX6) (N := 7) hx hb hts inX6 hown hK hH he rfl 0 (by decide) (nl_13 hK) hv dX10_tree_32 kk) ?_
      refine lv_aload_n hx hb dX10_tree_35 rfl (lv_at hl 1 rfl) ?_
      have hp_17 : kd E (ad E a 8) = 1 := ok.pk hO h_a (by decide) k12_8 rfl
      refine ok.getR hO h_a (by decide) k12_8 (by decide) (fun _ _ he hv kk => th_get (ci := 10) (C := RX10) (T := TX10) (N := 18) hx hb hts inX10 hown hK hH he rfl 8 (by decide) fl1 hv dX10_tree_36 kk) ?_
      obtain ⟨_, hc_18⟩ := hO.cell hp_16 (by decide) (ci := 9) rfl
      refine th_callv (va_runV (As := [.ref (ad E a 8)]) (rest := []) ⟨hx, hb, hml, hown, hts⟩ (t11_become l G y b0 σ_s_8 E hO (ad E (ad E a 9) 0) hp_16 (ad E a 8) hp_17) (cwV 1 hts gX10_tree_X9_become rfl rfl rfl (by decide +kernel) ⟨Nat.le_of_ble_eq_true rfl, Nat.le_of_ble_eq_true rfl⟩) (th_PV hK hH rfl hc_18) rfl rfl hl.1 rfl (lv_room (Nat.le_of_ble_eq_true rfl)) dX10_tree_39 ⟨Nat.le_of_ble_eq_true rfl, Nat.le_of_ble_eq_true rfl⟩) hS (fun σ_s_20 H locs hw_19 hH hS => ?_)
      obtain ⟨hO9, hF9, hw_19⟩ := hw_19
      have e_21 : gI σ_s_20 a 1 = z_10 := (fr.ki hO hF9 h_a (by decide) (by decide) _).trans e_11
      have e_22 : gI σ_s_20 a 11 = z_12 := (fr.ki hO hF9 h_a (by decide) (by decide) _).trans e_13
      replace hO := hO9
      replace hF := hF.tu hF9 (by decide)
      refine lv_aload_n hx hb dX10_tree_42 rfl (lv_at hl 1 rfl) ?_
      refine ok.getR hO h_a (by decide) k12_9 (by decide) (fun _ _ he hv kk => th_get (ci := 10) (C := RX10) (T := TX10) (N := 18) hx hb hts inX10 hown hK hH he rfl 9 (by decide) fl0 hv dX10_tree_43 kk) ?_
      refine lv_iconst (v := I 0) hx hb dX10_tree_46 (by decide) ?_
      refine ok.putI hO hp_15 (by decide) k5_2 (show rng 0 from ⟨by decide, by decide⟩) (by omega) (by omega) (fun _ he hl9 kk => th_putN (ci := 6) (v := .int (I 0)) (ty := .int) (C := RX6) (T := TX6) (N := 7) hx hb hts inX6 tyX6 tyX6_ok nmX6 hown hK hH hS h00 he rfl 2 (by decide) (nl_15 hK) rfl (by decide +kernel) rfl rfl hl9 dX10_tree_47 kk) (fun σ_s_23 H locs hO hF9 hg9 hi9 ha9 hH hS => ?_)
      replace hF := hF.tu hF9 (by decide)
      have e_24 : gI σ_s_23 a 1 = z_10 := (hi9 _ _ (Or.inr (by decide))).trans e_21
      have e_25 : gI σ_s_23 a 11 = z_12 := (hi9 _ _ (Or.inr (by decide))).trans e_22
      have e_26 := hg9
      refine lv_aload_n hx hb dX10_tree_50 rfl (lv_at hl 1 rfl) ?_
      refine ok.getR hO h_a (by decide) k12_9 (by decide) (fun _ _ he hv kk => th_get (ci := 10) (C := RX10) (T := TX10) (N := 18) hx hb hts inX10 hown hK hH he rfl 9 (by decide) fl0 hv dX10_tree_51 kk) ?_
      refine lv_iconst (v := I 0) hx hb dX10_tree_54 (by decide) ?_
      refine ok.putI hO hp_15 (by decide) k5_5 (show rng 0 from ⟨by decide, by decide⟩) (by omega) (by omega) (fun _ he hl9 kk => th_putN (ci := 6) (v := .int (I 0)) (ty := .int) (C := RX6) (T := TX6) (N := 7) hx hb hts inX6 tyX6 tyX6_ok nmX6 hown hK hH hS h00 he rfl 5 (by decide) (nl_16 hK) rfl (by decide +kernel) rfl rfl hl9 dX10_tree_55 kk) (fun σ_s_27 H locs hO hF9 hg9 hi9 ha9 hH hS => ?_)
      replace hF := hF.tu hF9 (by decide)
      have e_28 : gI σ_s_27 a 1 = z_10 := (hi9 _ _ (Or.inr (by decide))).trans e_24
      have e_29 : gI σ_s_27 a 11 = z_12 := (hi9 _ _ (Or.inr (by decide))).trans e_25
      have e_30 : gI σ_s_27 (ad E a 9) 2 = 0 := (hi9 _ _ (Or.inr (by decide))).trans e_26
      have e_31 := hg9
      refine lv_aload_n hx hb dX10_tree_58 rfl (lv_at hl 1 rfl) ?_
      refine lv_iconst (v := I 0) hx hb dX10_tree_59 (by decide) ?_
      refine ok.putI hO h_a (by decide) k12_11 (show rng 0 from ⟨by decide, by decide⟩) (by omega) (by omega) (fun _ he hl9 kk => th_put (ci := 10) (v := .int (I 0)) (ty := .boolean) (C := RX10) (T := TX10) (N := 18) hx hb hts inX10 tyX10 tyX10_ok nmX10 hown hK hH hS h00 he rfl 11 (by decide) fl2 rfl (by decide +kernel) (nar_z (by omega)) rfl hl9 dX10_tree_60 kk) (fun σ_s_32 H locs hO hF9 hg9 hi9 ha9 hH hS => ?_)
      replace hF := hF.tu hF9 (by decide)
      have e_33 : gI σ_s_32 a 1 = z_10 := (hi9 _ _ (Or.inr (by decide))).trans e_28
      have e_34 : gI σ_s_32 (ad E a 9) 2 = 0 := (hi9 _ _ (Or.inr (by decide))).trans e_30
      have e_35 : gI σ_s_32 (ad E a 9) 5 = 0 := (hi9 _ _ (Or.inr (by decide))).trans e_31
      have e_36 := hg9
      refine lv_iload_n hx hb dX10_tree_63 rfl (lv_at hl 0 rfl) ?_
      refine vx_ret ?_
      refine W.widen (k := 1) (n := 6) (Nat.le_of_ble_eq_true rfl) (Nat.le_of_ble_eq_true rfl) ?_
      exact th_iret hx hb hr hlocks hH hS (z := z_9) rz_9 ⟨hO, hF, ⟨by omega, by omega, by omega, by omega, hw_7.2.2⟩⟩ dX10_tree_64
  · replace c_5 := (I_eq (a := z_4) (b := 0) rz_4 (show rng 0 from ⟨by decide, by decide⟩)).mp c_5
    exact th_throwI (text := "the tape has not so many bytes") hx hb hl0 hown hts (by first | exact fun w h => List.mem_cons_of_mem _ (List.mem_append_right _ h) | exact fun w h => List.mem_cons_of_mem _ (List.mem_append_left _ (List.mem_append_right _ h)) | decide +kernel) (by decide +kernel) (by decide +kernel) hXs hS hH (hl.1.trans hml.symm) htab hlocks (List.mem_of_getElem? (i := 0) rfl) dX10_tree_8 dX10_tree_11 dX10_tree_12 dX10_tree_14 dX10_tree_17 (Nat.le_of_ble_eq_true rfl) (Nat.le_of_ble_eq_true rfl) (Nat.le_of_ble_eq_true rfl) (Nat.le_of_ble_eq_true rfl) ⟨hO, hF, ⟨rfl, by omega, by omega, by omega, rfl⟩⟩ (Nat.le_of_ble_eq_true rfl) (Nat.le_of_ble_eq_true rfl)
