set_option maxHeartbeats 4000000 in
set_option maxRecDepth 100000 in
theorem m_copyThings1 (l : Launch) (G : va_G) (y : Nat → ClassId) (b0 : Nat) (σ : th_M) (E : th_E) (hO : ok y E σ) (a : Nat) (h_a : kd E a = 13) (i : Int) (ri : rng i) (l_i : 0 ≤ i) (u_i : i ≤ 0) (f1 : Nat → Int32) (ef1 : aF σ (ad E a 1) = f1) (f3 : Nat → Int32) (ef3 : aF σ (ad E a 3) = f3) (hy0 : 1 ≤ mS f1 0 ∧ mS f1 0 ≤ 60) (hy1 : gI σ a 5 + mS f1 0 ≤ 4000) : Met l yX11_copyThings wsX11_copyThings ({ frames := 1, cells := 0, slots := 0, locals := 25 }) (th_P G y b0 σ [.ref a, .ref (ad E a 1), .int (I i)]) (th_Qv G b0 (fun σ1 => ok y E σ1 ∧ fr [13] E σ σ1 ∧ fm [3, 5] E σ σ1 a ∧ (same f3 (aF σ1 (ad E a 3)) 0 (gI σ a 5) 0 ∧ same f1 (aF σ1 (ad E a 3)) 0 (mS f1 0) (gI σ a 5) ∧ gI σ1 a 5 = gI σ a 5 + mS f1 0))) 0 0 (th_A b0) := by
  refine Met.ofW (cc := cX11_copyThings) (maxL := 4) (ret := none) (by decide) rfl ?_
  intro p e s m args below meth c s₁ B hml hv
  obtain ⟨rfl, hH, hK⟩ := hv
  have hx := B.exec
  have hb := B.bytes
  have hr := B.returns
  have hts := atoms_spec (ws := wsX11_copyThings) B.pre
  have hown : s.vm.findClass RX11 = some m.cls := findClass_of_methodNamed B.named
  have hlocks := B.notSynchronized
  have h00 : b0 ≤ s.heap.size := hH.1
  have hS : va_S (th_A b0) s.heap s.heap [] := va_S.rf
  have hF : fr [13] E σ σ := fr.rf
  have hM : fm [3, 5] E σ σ a := fm.rf
  have hi9 : mS f1 i = mS f1 0 := by rw [show i = 0 by omega]
  have inX11 : ∀ w ∈ wsX110, w ∈ wsX11_copyThings := by decide +kernel
  have fl0 := hts (.fieldLink RX11 353 "NestQueryModel" "madeMany" "I") (by decide +kernel)
  have fl1 := hts (.fieldLink RX11 16 "NestQueryModel" "made" "[I") (by decide +kernel)
  have hl := lv_entry ([.ref a, .ref (ad E a 1), .int (I i)]) (n := 4) (Nat.le_of_ble_eq_true rfl)
  rw [lg_entry_eq]
  generalize (lg_sl ([.ref a, .ref (ad E a 1), .int (I i)]) ++ List.replicate (4 - (lg_sl ([.ref a, .ref (ad E a 1), .int (I i)])).length) Slot.unset).toArray = ls at hl ⊢
  have hl : lv_has ls 4 [(0, .ref a), (1, .ref (ad E a 1)), (2, .int (I i))] := hl
  obtain ⟨a50, ea50, ra50, la50, ua50⟩ := hO.gi h_a (by decide) k13_5
  refine lv_iconst (v := I 0) hx hb dX11_copyThings_0 (by decide) ?_
  refine lv_istore_n (lv' := [(3, .int (I 0)), (0, .ref a), (1, .ref (ad E a 1)), (2, .int (I i))]) hx hb dX11_copyThings_1 rfl hl (by decide) rfl (fun ls hl => ?_)
  refine th_loop (α := Int × (Nat → Int32)) (pc := 2) (fun x9 => (4 * mS f1 0 - x9.1).toNat) (fun x9 σ9 H9 l9 ls9 => ok y E σ9 ∧ fr [13] E σ σ9 ∧ fm [3, 5] E σ σ9 a ∧ th_H G b0 σ9 H9 ∧ va_S (th_A b0) s.heap H9 l9 ∧ lv_has ls9 4 [(0, .ref a), (1, .ref (ad E a 1)), (2, .int (I i)), (3, .int (I x9.1))] ∧ rng x9.1 ∧ (0 ≤ x9.1) ∧ (x9.1 ≤ 240) ∧ (x9.1 ≤ 4 * mS f1 0) ∧ (cpd f3 x9.2 f1 (gI σ a 5) 0 x9.1) ∧ (gI σ9 a 5 = a50) ∧ (aF σ9 (ad E a 1) = f1) ∧ (aF σ9 (ad E a 3) = x9.2)) ?_ (0, f3) σ _ _ _ ⟨hO, hF, hM, hH, hS, lv_sub hl [1, 2, 3, 0] rfl, (show rng 0 from ⟨by decide, by decide⟩), by first | (dsimp only; omega) | omega, by first | (dsimp only; omega) | omega, by first | (dsimp only; omega) | omega, cpd.zero, ea50, ef1, ef3⟩
  intro x9 σ_J_29 H locs ls hI9 ihJ_29
  obtain ⟨v3q28, F3q27⟩ := x9
  obtain ⟨hO, hF, hM, hH, hS, hl, rv3q28, J_29_0, J_29_1, J_29_2, J_29_3, J_29_4, J_29_5, J_29_6⟩ := hI9
  have hl : lv_has ls 4 [(0, .ref a), (1, .ref (ad E a 1)), (2, .int (I i)), (3, .int (I v3q28))] := hl
  have rv3q28 : rng v3q28 := rv3q28
  have J_29_0 : 0 ≤ v3q28 := J_29_0
  have J_29_1 : v3q28 ≤ 240 := J_29_1
  have J_29_2 : v3q28 ≤ 4 * mS f1 0 := J_29_2
  have J_29_3 : cpd f3 F3q27 f1 (gI σ a 5) 0 v3q28 := J_29_3
  have J_29_4 : gI σ_J_29 a 5 = a50 := J_29_4
  have J_29_5 : aF σ_J_29 (ad E a 1) = f1 := J_29_5
  have J_29_6 : aF σ_J_29 (ad E a 3) = F3q27 := J_29_6
  refine lv_iload_n hx hb dX11_copyThings_2 rfl (lv_at hl 3 rfl) ?_
  refine lv_iconst (v := I 4) hx hb dX11_copyThings_3 (by decide) ?_
  refine lv_aload_n hx hb dX11_copyThings_4 rfl (lv_at hl 1 rfl) ?_
  refine lv_iload_n hx hb dX11_copyThings_5 rfl (lv_at hl 2 rfl) ?_
  refine th_calli (va_runS (As := [.ref (ad E a 1), .int (I i)]) (rest := [.int (I 4), .int (I v3q28)]) ⟨hx, hb, hml, hown, hts⟩ (w_size l G y b0 σ_J_29 E hO (ad E a 1) 240 f1 (hO.roww h_a k13_1 isA1 J_29_5 rfl) i (show rng i from ri) (by omega) (by omega) (by omega)) (va_cwS 2 hts gX11_copyThings_X11_size rfl rfl rfl (by decide +kernel) ⟨Nat.le_of_ble_eq_true rfl, Nat.le_of_ble_eq_true rfl⟩) (th_PS hK hH) rfl rfl hl.1 rfl (lv_room (Nat.le_of_ble_eq_true rfl)) dX11_copyThings_6 ⟨Nat.le_of_ble_eq_true rfl, Nat.le_of_ble_eq_true rfl⟩) hS (fun z_32 σ_s_31 H locs rz_32 hw_30 hH hS => ?_)
  obtain ⟨e9, hw_30⟩ := hw_30
  replace e9 := e9.symm
  subst e9
  have hw_30 : z_32 = mS f1 i := hw_30
  refine lv_imul hx hb dX11_copyThings_9 ?_
  refine nq_top (I_mul _ _) ?_
  refine lv_icmp_ge (tgt := 39) hx hb dX11_copyThings_10 (by decide) (fun c_33 => ?_) (fun c_33 => ?_)
  · replace c_33 := (I_le (a := 4 * z_32) (b := v3q28) ⟨by omega, by omega⟩ rv3q28).mp c_33
    refine lv_aload_n hx hb dX11_copyThings_39 rfl (lv_at hl 0 rfl) ?_
    refine lv_dup hx hb dX11_copyThings_40 rfl ?_
    refine ok.getIc hO h_a (by decide) k13_5 J_29_4 (fun _ _ he hv kk => th_get (ci := 11) (C := RX11) (T := TX11) (N := 66) hx hb hts inX11 hown hK hH he rfl 5 (by decide) fl0 hv dX11_copyThings_41 kk) ?_
    refine lv_aload_n hx hb dX11_copyThings_44 rfl (lv_at hl 1 rfl) ?_
    refine lv_iload_n hx hb dX11_copyThings_45 rfl (lv_at hl 2 rfl) ?_
    refine th_calli (va_runS (As := [.ref (ad E a 1), .int (I i)]) (rest := [.int (I a50), .ref a]) ⟨hx, hb, hml, hown, hts⟩ (w_size l G y b0 σ_J_29 E hO (ad E a 1) 240 f1 (hO.roww h_a k13_1 isA1 J_29_5 rfl) i (show rng i from ri) (by omega) (by omega) (by omega)) (va_cwS 2 hts gX11_copyThings_X11_size rfl rfl rfl (by decide +kernel) ⟨Nat.le_of_ble_eq_true rfl, Nat.le_of_ble_eq_true rfl⟩) (th_PS hK hH) rfl rfl hl.1 rfl (lv_room (Nat.le_of_ble_eq_true rfl)) dX11_copyThings_46 ⟨Nat.le_of_ble_eq_true rfl, Nat.le_of_ble_eq_true rfl⟩) hS (fun z_36 σ_s_35 H locs rz_36 hw_34 hH hS => ?_)
    obtain ⟨e9, hw_34⟩ := hw_34
    replace e9 := e9.symm
    subst e9
    have hw_34 : z_36 = mS f1 i := hw_34
    refine lv_iadd hx hb dX11_copyThings_49 ?_
    refine th_addo (fun z_37 rz_37 hz_37 => ?_)
    refine ok.putJ hO h_a k13_5 rz_37 (by omega) (by omega) (fun _ he hl9 kk => th_put (ci := 11) (v := .int (I z_37)) (ty := .int) (C := RX11) (T := TX11) (N := 66) hx hb hts inX11 tyX11 tyX11_ok nmX11 hown hK hH hS h00 he rfl 5 (by decide) fl0 rfl (by decide +kernel) rfl rfl hl9 dX11_copyThings_50 kk) (fun σ_s_38 H locs hO hF9 hM9 hg9 ha9 hH hS => ?_)
    replace hM := hM.tu hM9 (by decide)
    replace hF := hF.tu hF9 (by decide)
    have e_39 : aF σ_s_38 (ad E a 1) = f1 := (hM9.a (by decide) (by decide)).trans J_29_5
    have e_40 : aF σ_s_38 (ad E a 3) = F3q27 := (hM9.a (by decide) (by decide)).trans J_29_6
    have e_41 := hg9
    exact th_vret hx hb hr hlocks hH hS ⟨hO, hF, hM, by rw [show aF σ_s_38 (ad E a 3) = F3q27 from e_40]; have h9 := J_29_3.fin (n := mS f1 0) (by omega) (by omega); have h8 := h9.2; rw [Int.zero_add, Int.sub_zero] at h8; exact ⟨h9.1, h8, by omega⟩⟩ dX11_copyThings_53
  · replace c_33 := mt (I_le (a := 4 * z_32) (b := v3q28) ⟨by omega, by omega⟩ rv3q28).mpr c_33
    refine lv_aload_n hx hb dX11_copyThings_13 rfl (lv_at hl 0 rfl) ?_
    refine ok.getR hO h_a (by decide) k13_3 (by decide) (fun _ _ he hv kk => th_get (ci := 11) (C := RX11) (T := TX11) (N := 66) hx hb hts inX11 hown hK hH he rfl 3 (by decide) fl1 hv dX11_copyThings_14 kk) ?_
    refine lv_iconst (v := I 4) hx hb dX11_copyThings_17 (by decide) ?_
    refine lv_aload_n hx hb dX11_copyThings_18 rfl (lv_at hl 0 rfl) ?_
    refine ok.getIc hO h_a (by decide) k13_5 J_29_4 (fun _ _ he hv kk => th_get (ci := 11) (C := RX11) (T := TX11) (N := 66) hx hb hts inX11 hown hK hH he rfl 5 (by decide) fl0 hv dX11_copyThings_19 kk) ?_
    refine lv_imul hx hb dX11_copyThings_22 ?_
    refine nq_top (I_mul _ _) ?_
    refine lv_iload_n hx hb dX11_copyThings_23 rfl (lv_at hl 3 rfl) ?_
    refine lv_iadd hx hb dX11_copyThings_24 ?_
    refine nq_top (I_add _ _) ?_
    refine lv_aload_n hx hb dX11_copyThings_25 rfl (lv_at hl 1 rfl) ?_
    refine lv_iconst (v := I 4) hx hb dX11_copyThings_26 (by decide) ?_
    refine lv_iload_n hx hb dX11_copyThings_27 rfl (lv_at hl 2 rfl) ?_
    refine lv_imul hx hb dX11_copyThings_28 ?_
    refine nq_top (I_mul _ _) ?_
    refine lv_iload_n hx hb dX11_copyThings_29 rfl (lv_at hl 3 rfl) ?_
    refine lv_iadd hx hb dX11_copyThings_30 ?_
    refine nq_top (I_add _ _) ?_
    refine m_iald hx hb hK hH hO h_a k13_1 isA1 J_29_5 ⟨by omega, by omega⟩ (by omega) (by omega) dX11_copyThings_31 (fun z_42 ez_42 rz_42 elx9 => ?_)
    refine m_iast hx hb hK hH hS h00 hO h_a k13_3 isA1 (by decide) J_29_6 ⟨by omega, by omega⟩ (by omega) (by omega) rz_42 el1 dX11_copyThings_32 (fun σ_s_43 H locs hO hF9 hM9 ha9 hH hS => ?_)
    replace hM := hM.tu hM9 (by decide)
    replace hF := hF.tu hF9 (by decide)
    have e_44 : gI σ_s_43 a 5 = a50 := (hM9.i (by decide)).trans J_29_4
    have e_45 : aF σ_s_43 (ad E a 1) = f1 := (hM9.a (by decide) (by decide)).trans J_29_5
    obtain ⟨g_46, dg_46⟩ : ∃ g9, g9 = upd F3q27 (4 * a50 + v3q28).toNat (I z_42) := ⟨_, rfl⟩
    rw [← dg_46] at ha9
    have ef_47 := ha9
    refine lv_iinc (v := I (v3q28 + 1)) (lv' := [(3, .int (I (v3q28 + 1))), (0, .ref a), (1, .ref (ad E a 1)), (2, .int (I i))]) hx hb dX11_copyThings_33 hl (k := 3) rfl (I_add _ _) (by decide) rfl (fun ls hl => ?_)
    refine lv_goto (tgt := 2) hx hb dX11_copyThings_36 (by decide) ?_
    exact ihJ_29 (v3q28 + 1, g_46) σ_s_43 _ _ _ (by first | (dsimp only; omega) | omega) ⟨hO, hF, hM, hH, hS, lv_sub hl [1, 2, 3, 0] rfl, ⟨by first | (dsimp only; omega) | omega, by first | (dsimp only; omega) | omega⟩, by first | (dsimp only; omega) | omega, by first | (dsimp only; omega) | omega, by first | (dsimp only; omega) | omega, (J_29_3.step dg_46 (by first | (dsimp only; omega) | omega) ez_42 (by first | (dsimp only; omega) | omega) (by first | (dsimp only; omega) | omega) (by first | (dsimp only; omega) | omega)), e_44, e_45, ef_47⟩

set_option maxHeartbeats 4000000 in
set_option maxRecDepth 100000 in
theorem m_copyThings2 (l : Launch) (G : va_G) (y : Nat → ClassId) (b0 : Nat) (σ : th_M) (E : th_E) (hO : ok y E σ) (a : Nat) (h_a : kd E a = 13) (i : Int) (ri : rng i) (l_i : 0 ≤ i) (u_i : i ≤ 0) (f2 : Nat → Int32) (ef2 : aF σ (ad E a 2) = f2) (f3 : Nat → Int32) (ef3 : aF σ (ad E a 3) = f3) (hy0 : 1 ≤ mS f2 0 ∧ mS f2 0 ≤ 60) (hy1 : gI σ a 5 + mS f2 0 ≤ 4000) : Met l yX11_copyThings wsX11_copyThings ({ frames := 1, cells := 0, slots := 0, locals := 25 }) (th_P G y b0 σ [.ref a, .ref (ad E a 2), .int (I i)]) (th_Qv G b0 (fun σ1 => ok y E σ1 ∧ fr [13] E σ σ1 ∧ fm [3, 5] E σ σ1 a ∧ (same f3 (aF σ1 (ad E a 3)) 0 (gI σ a 5) 0 ∧ same f2 (aF σ1 (ad E a 3)) 0 (mS f2 0) (gI σ a 5) ∧ gI σ1 a 5 = gI σ a 5 + mS f2 0))) 0 0 (th_A b0) := by
  refine Met.ofW (cc := cX11_copyThings) (maxL := 4) (ret := none) (by decide) rfl ?_
  intro p e s m args below meth c s₁ B hml hv
  obtain ⟨rfl, hH, hK⟩ := hv
  have hx := B.exec
  have hb := B.bytes
  have hr := B.returns
  have hts := atoms_spec (ws := wsX11_copyThings) B.pre
  have hown : s.vm.findClass RX11 = some m.cls := findClass_of_methodNamed B.named
  have hlocks := B.notSynchronized
  have h00 : b0 ≤ s.heap.size := hH.1
  have hS : va_S (th_A b0) s.heap s.heap [] := va_S.rf
  have hF : fr [13] E σ σ := fr.rf
  have hM : fm [3, 5] E σ σ a := fm.rf
  have hi9 : mS f2 i = mS f2 0 := by rw [show i = 0 by omega]
  have inX11 : ∀ w ∈ wsX110, w ∈ wsX11_copyThings := by decide +kernel
  have fl0 := hts (.fieldLink RX11 353 "NestQueryModel" "madeMany" "I") (by decide +kernel)
  have fl1 := hts (.fieldLink RX11 16 "NestQueryModel" "made" "[I") (by decide +kernel)
  have hl := lv_entry ([.ref a, .ref (ad E a 2), .int (I i)]) (n := 4) (Nat.le_of_ble_eq_true rfl)
  rw [lg_entry_eq]
  generalize (lg_sl ([.ref a, .ref (ad E a 2), .int (I i)]) ++ List.replicate (4 - (lg_sl ([.ref a, .ref (ad E a 2), .int (I i)])).length) Slot.unset).toArray = ls at hl ⊢
  have hl : lv_has ls 4 [(0, .ref a), (1, .ref (ad E a 2)), (2, .int (I i))] := hl
  obtain ⟨a50, ea50, ra50, la50, ua50⟩ := hO.gi h_a (by decide) k13_5
  refine lv_iconst (v := I 0) hx hb dX11_copyThings_0 (by decide) ?_
  refine lv_istore_n (lv' := [(3, .int (I 0)), (0, .ref a), (1, .ref (ad E a 2)), (2, .int (I i))]) hx hb dX11_copyThings_1 rfl hl (by decide) rfl (fun ls hl => ?_)
  refine th_loop (α := Int × (Nat → Int32)) (pc := 2) (fun x9 => (4 * mS f2 0 - x9.1).toNat) (fun x9 σ9 H9 l9 ls9 => ok y E σ9 ∧ fr [13] E σ σ9 ∧ fm [3, 5] E σ σ9 a ∧ th_H G b0 σ9 H9 ∧ va_S (th_A b0) s.heap H9 l9 ∧ lv_has ls9 4 [(0, .ref a), (1, .ref (ad E a 2)), (2, .int (I i)), (3, .int (I x9.1))] ∧ rng x9.1 ∧ (0 ≤ x9.1) ∧ (x9.1 ≤ 240) ∧ (x9.1 ≤ 4 * mS f2 0) ∧ (cpd f3 x9.2 f2 (gI σ a 5) 0 x9.1) ∧ (gI σ9 a 5 = a50) ∧ (aF σ9 (ad E a 2) = f2) ∧ (aF σ9 (ad E a 3) = x9.2)) ?_ (0, f3) σ _ _ _ ⟨hO, hF, hM, hH, hS, lv_sub hl [1, 2, 3, 0] rfl, (show rng 0 from ⟨by decide, by decide⟩), by first | (dsimp only; omega) | omega, by first | (dsimp only; omega) | omega, by first | (dsimp only; omega) | omega, cpd.zero, ea50, ef2, ef3⟩
  intro x9 σ_J_29 H locs ls hI9 ihJ_29
  obtain ⟨v3q28, F3q27⟩ := x9
  obtain ⟨hO, hF, hM, hH, hS, hl, rv3q28, J_29_0, J_29_1, J_29_2, J_29_3, J_29_4, J_29_5, J_29_6⟩ := hI9
  have hl : lv_has ls 4 [(0, .ref a), (1, .ref (ad E a 2)), (2, .int (I i)), (3, .int (I v3q28))] := hl
  have rv3q28 : rng v3q28 := rv3q28
  have J_29_0 : 0 ≤ v3q28 := J_29_0
  have J_29_1 : v3q28 ≤ 240 := J_29_1
  have J_29_2 : v3q28 ≤ 4 * mS f2 0 := J_29_2
  have J_29_3 : cpd f3 F3q27 f2 (gI σ a 5) 0 v3q28 := J_29_3
  have J_29_4 : gI σ_J_29 a 5 = a50 := J_29_4
  have J_29_5 : aF σ_J_29 (ad E a 2) = f2 := J_29_5
  have J_29_6 : aF σ_J_29 (ad E a 3) = F3q27 := J_29_6
  refine lv_iload_n hx hb dX11_copyThings_2 rfl (lv_at hl 3 rfl) ?_
  refine lv_iconst (v := I 4) hx hb dX11_copyThings_3 (by decide) ?_
  refine lv_aload_n hx hb dX11_copyThings_4 rfl (lv_at hl 1 rfl) ?_
  refine lv_iload_n hx hb dX11_copyThings_5 rfl (lv_at hl 2 rfl) ?_
  refine th_calli (va_runS (As := [.ref (ad E a 2), .int (I i)]) (rest := [.int (I 4), .int (I v3q28)]) ⟨hx, hb, hml, hown, hts⟩ (w_size l G y b0 σ_J_29 E hO (ad E a 2) 240 f2 (hO.roww h_a k13_2 isA1 J_29_5 rfl) i (show rng i from ri) (by omega) (by omega) (by omega)) (va_cwS 2 hts gX11_copyThings_X11_size rfl rfl rfl (by decide +kernel) ⟨Nat.le_of_ble_eq_true rfl, Nat.le_of_ble_eq_true rfl⟩) (th_PS hK hH) rfl rfl hl.1 rfl (lv_room (Nat.le_of_ble_eq_true rfl)) dX11_copyThings_6 ⟨Nat.le_of_ble_eq_true rfl, Nat.le_of_ble_eq_true rfl⟩) hS (fun z_32 σ_s_31 H locs rz_32 hw_30 hH hS => ?_)
  obtain ⟨e9, hw_30⟩ := hw_30
  replace e9 := e9.symm
  subst e9
  have hw_30 : z_32 = mS f2 i := hw_30
  refine lv_imul hx hb dX11_copyThings_9 ?_
  refine nq_top (I_mul _ _) ?_
  refine lv_icmp_ge (tgt := 39) hx hb dX11_copyThings_10 (by decide) (fun c_33 => ?_) (fun c_33 => ?_)
  · replace c_33 := (I_le (a := 4 * z_32) (b := v3q28) ⟨by omega, by omega⟩ rv3q28).mp c_33
    refine lv_aload_n hx hb dX11_copyThings_39 rfl (lv_at hl 0 rfl) ?_
    refine lv_dup hx hb dX11_copyThings_40 rfl ?_
    refine ok.getIc hO h_a (by decide) k13_5 J_29_4 (fun _ _ he hv kk => th_get (ci := 11) (C := RX11) (T := TX11) (N := 66) hx hb hts inX11 hown hK hH he rfl 5 (by decide) fl0 hv dX11_copyThings_41 kk) ?_
    refine lv_aload_n hx hb dX11_copyThings_44 rfl (lv_at hl 1 rfl) ?_
    refine lv_iload_n hx hb dX11_copyThings_45 rfl (lv_at hl 2 rfl) ?_
    refine th_calli (va_runS (As := [.ref (ad E a 2), .int (I i)]) (rest := [.int (I a50), .ref a]) ⟨hx, hb, hml, hown, hts⟩ (w_size l G y b0 σ_J_29 E hO (ad E a 2) 240 f2 (hO.roww h_a k13_2 isA1 J_29_5 rfl) i (show rng i from ri) (by omega) (by omega) (by omega)) (va_cwS 2 hts gX11_copyThings_X11_size rfl rfl rfl (by decide +kernel) ⟨Nat.le_of_ble_eq_true rfl, Nat.le_of_ble_eq_true rfl⟩) (th_PS hK hH) rfl rfl hl.1 rfl (lv_room (Nat.le_of_ble_eq_true rfl)) dX11_copyThings_46 ⟨Nat.le_of_ble_eq_true rfl, Nat.le_of_ble_eq_true rfl⟩) hS (fun z_36 σ_s_35 H locs rz_36 hw_34 hH hS => ?_)
    obtain ⟨e9, hw_34⟩ := hw_34
    replace e9 := e9.symm
    subst e9
    have hw_34 : z_36 = mS f2 i := hw_34
    refine lv_iadd hx hb dX11_copyThings_49 ?_
    refine th_addo (fun z_37 rz_37 hz_37 => ?_)
    refine ok.putJ hO h_a k13_5 rz_37 (by omega) (by omega) (fun _ he hl9 kk => th_put (ci := 11) (v := .int (I z_37)) (ty := .int) (C := RX11) (T := TX11) (N := 66) hx hb hts inX11 tyX11 tyX11_ok nmX11 hown hK hH hS h00 he rfl 5 (by decide) fl0 rfl (by decide +kernel) rfl rfl hl9 dX11_copyThings_50 kk) (fun σ_s_38 H locs hO hF9 hM9 hg9 ha9 hH hS => ?_)
    replace hM := hM.tu hM9 (by decide)
    replace hF := hF.tu hF9 (by decide)
    have e_39 : aF σ_s_38 (ad E a 2) = f2 := (hM9.a (by decide) (by decide)).trans J_29_5
    have e_40 : aF σ_s_38 (ad E a 3) = F3q27 := (hM9.a (by decide) (by decide)).trans J_29_6
    have e_41 := hg9
    exact th_vret hx hb hr hlocks hH hS ⟨hO, hF, hM, by rw [show aF σ_s_38 (ad E a 3) = F3q27 from e_40]; have h9 := J_29_3.fin (n := mS f2 0) (by omega) (by omega); have h8 := h9.2; rw [Int.zero_add, Int.sub_zero] at h8; exact ⟨h9.1, h8, by omega⟩⟩ dX11_copyThings_53
  · replace c_33 := mt (I_le (a := 4 * z_32) (b := v3q28) ⟨by omega, by omega⟩ rv3q28).mpr c_33
    refine lv_aload_n hx hb dX11_copyThings_13 rfl (lv_at hl 0 rfl) ?_
    refine ok.getR hO h_a (by decide) k13_3 (by decide) (fun _ _ he hv kk => th_get (ci := 11) (C := RX11) (T := TX11) (N := 66) hx hb hts inX11 hown hK hH he rfl 3 (by decide) fl1 hv dX11_copyThings_14 kk) ?_
    refine lv_iconst (v := I 4) hx hb dX11_copyThings_17 (by decide) ?_
    refine lv_aload_n hx hb dX11_copyThings_18 rfl (lv_at hl 0 rfl) ?_
    refine ok.getIc hO h_a (by decide) k13_5 J_29_4 (fun _ _ he hv kk => th_get (ci := 11) (C := RX11) (T := TX11) (N := 66) hx hb hts inX11 hown hK hH he rfl 5 (by decide) fl0 hv dX11_copyThings_19 kk) ?_
    refine lv_imul hx hb dX11_copyThings_22 ?_
    refine nq_top (I_mul _ _) ?_
    refine lv_iload_n hx hb dX11_copyThings_23 rfl (lv_at hl 3 rfl) ?_
    refine lv_iadd hx hb dX11_copyThings_24 ?_
    refine nq_top (I_add _ _) ?_
    refine lv_aload_n hx hb dX11_copyThings_25 rfl (lv_at hl 1 rfl) ?_
    refine lv_iconst (v := I 4) hx hb dX11_copyThings_26 (by decide) ?_
    refine lv_iload_n hx hb dX11_copyThings_27 rfl (lv_at hl 2 rfl) ?_
    refine lv_imul hx hb dX11_copyThings_28 ?_
    refine nq_top (I_mul _ _) ?_
    refine lv_iload_n hx hb dX11_copyThings_29 rfl (lv_at hl 3 rfl) ?_
    refine lv_iadd hx hb dX11_copyThings_30 ?_
    refine nq_top (I_add _ _) ?_
    refine m_iald hx hb hK hH hO h_a k13_2 isA1 J_29_5 ⟨by omega, by omega⟩ (by omega) (by omega) dX11_copyThings_31 (fun z_42 ez_42 rz_42 elx9 => ?_)
    refine m_iast hx hb hK hH hS h00 hO h_a k13_3 isA1 (by decide) J_29_6 ⟨by omega, by omega⟩ (by omega) (by omega) rz_42 el1 dX11_copyThings_32 (fun σ_s_43 H locs hO hF9 hM9 ha9 hH hS => ?_)
    replace hM := hM.tu hM9 (by decide)
    replace hF := hF.tu hF9 (by decide)
    have e_44 : gI σ_s_43 a 5 = a50 := (hM9.i (by decide)).trans J_29_4
    have e_45 : aF σ_s_43 (ad E a 2) = f2 := (hM9.a (by decide) (by decide)).trans J_29_5
    obtain ⟨g_46, dg_46⟩ : ∃ g9, g9 = upd F3q27 (4 * a50 + v3q28).toNat (I z_42) := ⟨_, rfl⟩
    rw [← dg_46] at ha9
    have ef_47 := ha9
    refine lv_iinc (v := I (v3q28 + 1)) (lv' := [(3, .int (I (v3q28 + 1))), (0, .ref a), (1, .ref (ad E a 2)), (2, .int (I i))]) hx hb dX11_copyThings_33 hl (k := 3) rfl (I_add _ _) (by decide) rfl (fun ls hl => ?_)
    refine lv_goto (tgt := 2) hx hb dX11_copyThings_36 (by decide) ?_
    exact ihJ_29 (v3q28 + 1, g_46) σ_s_43 _ _ _ (by first | (dsimp only; omega) | omega) ⟨hO, hF, hM, hH, hS, lv_sub hl [1, 2, 3, 0] rfl, ⟨by first | (dsimp only; omega) | omega, by first | (dsimp only; omega) | omega⟩, by first | (dsimp only; omega) | omega, by first | (dsimp only; omega) | omega, by first | (dsimp only; omega) | omega, (J_29_3.step dg_46 (by first | (dsimp only; omega) | omega) ez_42 (by first | (dsimp only; omega) | omega) (by first | (dsimp only; omega) | omega) (by first | (dsimp only; omega) | omega)), e_44, e_45, ef_47⟩

set_option maxHeartbeats 4000000 in
set_option maxRecDepth 100000 in
theorem m_copyThings31 (l : Launch) (G : va_G) (y : Nat → ClassId) (b0 : Nat) (σ : th_M) (E : th_E) (hO : ok y E σ) (a : Nat) (h_a : kd E a = 13) (i : Int) (ri : rng i) (l_i : 0 ≤ i) (u_i : i ≤ 0) (f31 : Nat → Int32) (ef31 : aF σ (ad E a 31) = f31) (f3 : Nat → Int32) (ef3 : aF σ (ad E a 3) = f3) (hy0 : 1 ≤ mS f31 0 ∧ mS f31 0 ≤ 60) (hy1 : gI σ a 5 + mS f31 0 ≤ 4000) : Met l yX11_copyThings wsX11_copyThings ({ frames := 1, cells := 0, slots := 0, locals := 25 }) (th_P G y b0 σ [.ref a, .ref (ad E a 31), .int (I i)]) (th_Qv G b0 (fun σ1 => ok y E σ1 ∧ fr [13] E σ σ1 ∧ fm [3, 5] E σ σ1 a ∧ (same f3 (aF σ1 (ad E a 3)) 0 (gI σ a 5) 0 ∧ same f31 (aF σ1 (ad E a 3)) 0 (mS f31 0) (gI σ a 5) ∧ gI σ1 a 5 = gI σ a 5 + mS f31 0))) 0 0 (th_A b0) := by
  refine Met.ofW (cc := cX11_copyThings) (maxL := 4) (ret := none) (by decide) rfl ?_
  intro p e s m args below meth c s₁ B hml hv
  obtain ⟨rfl, hH, hK⟩ := hv
  have hx := B.exec
  have hb := B.bytes
  have hr := B.returns
  have hts := atoms_spec (ws := wsX11_copyThings) B.pre
  have hown : s.vm.findClass RX11 = some m.cls := findClass_of_methodNamed B.named
  have hlocks := B.notSynchronized
  have h00 : b0 ≤ s.heap.size := hH.1
  have hS : va_S (th_A b0) s.heap s.heap [] := va_S.rf
  have hF : fr [13] E σ σ := fr.rf
  have hM : fm [3, 5] E σ σ a := fm.rf
  have hi9 : mS f31 i = mS f31 0 := by rw [show i = 0 by omega]
  have inX11 : ∀ w ∈ wsX110, w ∈ wsX11_copyThings := by decide +kernel
  have fl0 := hts (.fieldLink RX11 353 "NestQueryModel" "madeMany" "I") (by decide +kernel)
  have fl1 := hts (.fieldLink RX11 16 "NestQueryModel" "made" "[I") (by decide +kernel)
  have hl := lv_entry ([.ref a, .ref (ad E a 31), .int (I i)]) (n := 4) (Nat.le_of_ble_eq_true rfl)
  rw [lg_entry_eq]
  generalize (lg_sl ([.ref a, .ref (ad E a 31), .int (I i)]) ++ List.replicate (4 - (lg_sl ([.ref a, .ref (ad E a 31), .int (I i)])).length) Slot.unset).toArray = ls at hl ⊢
  have hl : lv_has ls 4 [(0, .ref a), (1, .ref (ad E a 31)), (2, .int (I i))] := hl
  obtain ⟨a50, ea50, ra50, la50, ua50⟩ := hO.gi h_a (by decide) k13_5
  refine lv_iconst (v := I 0) hx hb dX11_copyThings_0 (by decide) ?_
  refine lv_istore_n (lv' := [(3, .int (I 0)), (0, .ref a), (1, .ref (ad E a 31)), (2, .int (I i))]) hx hb dX11_copyThings_1 rfl hl (by decide) rfl (fun ls hl => ?_)
  refine th_loop (α := Int × (Nat → Int32)) (pc := 2) (fun x9 => (4 * mS f31 0 - x9.1).toNat) (fun x9 σ9 H9 l9 ls9 => ok y E σ9 ∧ fr [13] E σ σ9 ∧ fm [3, 5] E σ σ9 a ∧ th_H G b0 σ9 H9 ∧ va_S (th_A b0) s.heap H9 l9 ∧ lv_has ls9 4 [(0, .ref a), (1, .ref (ad E a 31)), (2, .int (I i)), (3, .int (I x9.1))] ∧ rng x9.1 ∧ (0 ≤ x9.1) ∧ (x9.1 ≤ 240) ∧ (x9.1 ≤ 4 * mS f31 0) ∧ (cpd f3 x9.2 f31 (gI σ a 5) 0 x9.1) ∧ (gI σ9 a 5 = a50) ∧ (aF σ9 (ad E a 31) = f31) ∧ (aF σ9 (ad E a 3) = x9.2)) ?_ (0, f3) σ _ _ _ ⟨hO, hF, hM, hH, hS, lv_sub hl [1, 2, 3, 0] rfl, (show rng 0 from ⟨by decide, by decide⟩), by first | (dsimp only; omega) | omega, by first | (dsimp only; omega) | omega, by first | (dsimp only; omega) | omega, cpd.zero, ea50, ef31, ef3⟩
  intro x9 σ_J_29 H locs ls hI9 ihJ_29
  obtain ⟨v3q28, F3q27⟩ := x9
  obtain ⟨hO, hF, hM, hH, hS, hl, rv3q28, J_29_0, J_29_1, J_29_2, J_29_3, J_29_4, J_29_5, J_29_6⟩ := hI9
  have hl : lv_has ls 4 [(0, .ref a), (1, .ref (ad E a 31)), (2, .int (I i)), (3, .int (I v3q28))] := hl
  have rv3q28 : rng v3q28 := rv3q28
  have J_29_0 : 0 ≤ v3q28 := J_29_0
  have J_29_1 : v3q28 ≤ 240 := J_29_1
  have J_29_2 : v3q28 ≤ 4 * mS f31 0 := J_29_2
  have J_29_3 : cpd f3 F3q27 f31 (gI σ a 5) 0 v3q28 := J_29_3
  have J_29_4 : gI σ_J_29 a 5 = a50 := J_29_4
  have J_29_5 : aF σ_J_29 (ad E a 31) = f31 := J_29_5
  have J_29_6 : aF σ_J_29 (ad E a 3) = F3q27 := J_29_6
  refine lv_iload_n hx hb dX11_copyThings_2 rfl (lv_at hl 3 rfl) ?_
  refine lv_iconst (v := I 4) hx hb dX11_copyThings_3 (by decide) ?_
  refine lv_aload_n hx hb dX11_copyThings_4 rfl (lv_at hl 1 rfl) ?_
  refine lv_iload_n hx hb dX11_copyThings_5 rfl (lv_at hl 2 rfl) ?_
  refine th_calli (va_runS (As := [.ref (ad E a 31), .int (I i)]) (rest := [.int (I 4), .int (I v3q28)]) ⟨hx, hb, hml, hown, hts⟩ (w_size l G y b0 σ_J_29 E hO (ad E a 31) 240 f31 (hO.roww h_a k13_31 isA1 J_29_5 rfl) i (show rng i from ri) (by omega) (by omega) (by omega)) (va_cwS 2 hts gX11_copyThings_X11_size rfl rfl rfl (by decide +kernel) ⟨Nat.le_of_ble_eq_true rfl, Nat.le_of_ble_eq_true rfl⟩) (th_PS hK hH) rfl rfl hl.1 rfl (lv_room (Nat.le_of_ble_eq_true rfl)) dX11_copyThings_6 ⟨Nat.le_of_ble_eq_true rfl, Nat.le_of_ble_eq_true rfl⟩) hS (fun z_32 σ_s_31 H locs rz_32 hw_30 hH hS => ?_)
  obtain ⟨e9, hw_30⟩ := hw_30
  replace e9 := e9.symm
  subst e9
  have hw_30 : z_32 = mS f31 i := hw_30
  refine lv_imul hx hb dX11_copyThings_9 ?_
  refine nq_top (I_mul _ _) ?_
  refine lv_icmp_ge (tgt := 39) hx hb dX11_copyThings_10 (by decide) (fun c_33 => ?_) (fun c_33 => ?_)
  · replace c_33 := (I_le (a := 4 * z_32) (b := v3q28) ⟨by omega, by omega⟩ rv3q28).mp c_33
    refine lv_aload_n hx hb dX11_copyThings_39 rfl (lv_at hl 0 rfl) ?_
    refine lv_dup hx hb dX11_copyThings_40 rfl ?_
    refine ok.getIc hO h_a (by decide) k13_5 J_29_4 (fun _ _ he hv kk => th_get (ci := 11) (C := RX11) (T := TX11) (N := 66) hx hb hts inX11 hown hK hH he rfl 5 (by decide) fl0 hv dX11_copyThings_41 kk) ?_
    refine lv_aload_n hx hb dX11_copyThings_44 rfl (lv_at hl 1 rfl) ?_
    refine lv_iload_n hx hb dX11_copyThings_45 rfl (lv_at hl 2 rfl) ?_
    refine th_calli (va_runS (As := [.ref (ad E a 31), .int (I i)]) (rest := [.int (I a50), .ref a]) ⟨hx, hb, hml, hown, hts⟩ (w_size l G y b0 σ_J_29 E hO (ad E a 31) 240 f31 (hO.roww h_a k13_31 isA1 J_29_5 rfl) i (show rng i from ri) (by omega) (by omega) (by omega)) (va_cwS 2 hts gX11_copyThings_X11_size rfl rfl rfl (by decide +kernel) ⟨Nat.le_of_ble_eq_true rfl, Nat.le_of_ble_eq_true rfl⟩) (th_PS hK hH) rfl rfl hl.1 rfl (lv_room (Nat.le_of_ble_eq_true rfl)) dX11_copyThings_46 ⟨Nat.le_of_ble_eq_true rfl, Nat.le_of_ble_eq_true rfl⟩) hS (fun z_36 σ_s_35 H locs rz_36 hw_34 hH hS => ?_)
    obtain ⟨e9, hw_34⟩ := hw_34
    replace e9 := e9.symm
    subst e9
    have hw_34 : z_36 = mS f31 i := hw_34
    refine lv_iadd hx hb dX11_copyThings_49 ?_
    refine th_addo (fun z_37 rz_37 hz_37 => ?_)
    refine ok.putJ hO h_a k13_5 rz_37 (by omega) (by omega) (fun _ he hl9 kk => th_put (ci := 11) (v := .int (I z_37)) (ty := .int) (C := RX11) (T := TX11) (N := 66) hx hb hts inX11 tyX11 tyX11_ok nmX11 hown hK hH hS h00 he rfl 5 (by decide) fl0 rfl (by decide +kernel) rfl rfl hl9 dX11_copyThings_50 kk) (fun σ_s_38 H locs hO hF9 hM9 hg9 ha9 hH hS => ?_)
    replace hM := hM.tu hM9 (by decide)
    replace hF := hF.tu hF9 (by decide)
    have e_39 : aF σ_s_38 (ad E a 31) = f31 := (hM9.a (by decide) (by decide)).trans J_29_5
    have e_40 : aF σ_s_38 (ad E a 3) = F3q27 := (hM9.a (by decide) (by decide)).trans J_29_6
    have e_41 := hg9
    exact th_vret hx hb hr hlocks hH hS ⟨hO, hF, hM, by rw [show aF σ_s_38 (ad E a 3) = F3q27 from e_40]; have h9 := J_29_3.fin (n := mS f31 0) (by omega) (by omega); have h8 := h9.2; rw [Int.zero_add, Int.sub_zero] at h8; exact ⟨h9.1, h8, by omega⟩⟩ dX11_copyThings_53
  · replace c_33 := mt (I_le (a := 4 * z_32) (b := v3q28) ⟨by omega, by omega⟩ rv3q28).mpr c_33
    refine lv_aload_n hx hb dX11_copyThings_13 rfl (lv_at hl 0 rfl) ?_
    refine ok.getR hO h_a (by decide) k13_3 (by decide) (fun _ _ he hv kk => th_get (ci := 11) (C := RX11) (T := TX11) (N := 66) hx hb hts inX11 hown hK hH he rfl 3 (by decide) fl1 hv dX11_copyThings_14 kk) ?_
    refine lv_iconst (v := I 4) hx hb dX11_copyThings_17 (by decide) ?_
    refine lv_aload_n hx hb dX11_copyThings_18 rfl (lv_at hl 0 rfl) ?_
    refine ok.getIc hO h_a (by decide) k13_5 J_29_4 (fun _ _ he hv kk => th_get (ci := 11) (C := RX11) (T := TX11) (N := 66) hx hb hts inX11 hown hK hH he rfl 5 (by decide) fl0 hv dX11_copyThings_19 kk) ?_
    refine lv_imul hx hb dX11_copyThings_22 ?_
    refine nq_top (I_mul _ _) ?_
    refine lv_iload_n hx hb dX11_copyThings_23 rfl (lv_at hl 3 rfl) ?_
    refine lv_iadd hx hb dX11_copyThings_24 ?_
    refine nq_top (I_add _ _) ?_
    refine lv_aload_n hx hb dX11_copyThings_25 rfl (lv_at hl 1 rfl) ?_
    refine lv_iconst (v := I 4) hx hb dX11_copyThings_26 (by decide) ?_
    refine lv_iload_n hx hb dX11_copyThings_27 rfl (lv_at hl 2 rfl) ?_
    refine lv_imul hx hb dX11_copyThings_28 ?_
    refine nq_top (I_mul _ _) ?_
    refine lv_iload_n hx hb dX11_copyThings_29 rfl (lv_at hl 3 rfl) ?_
    refine lv_iadd hx hb dX11_copyThings_30 ?_
    refine nq_top (I_add _ _) ?_
    refine m_iald hx hb hK hH hO h_a k13_31 isA1 J_29_5 ⟨by omega, by omega⟩ (by omega) (by omega) dX11_copyThings_31 (fun z_42 ez_42 rz_42 elx9 => ?_)
    refine m_iast hx hb hK hH hS h00 hO h_a k13_3 isA1 (by decide) J_29_6 ⟨by omega, by omega⟩ (by omega) (by omega) rz_42 el1 dX11_copyThings_32 (fun σ_s_43 H locs hO hF9 hM9 ha9 hH hS => ?_)
    replace hM := hM.tu hM9 (by decide)
    replace hF := hF.tu hF9 (by decide)
    have e_44 : gI σ_s_43 a 5 = a50 := (hM9.i (by decide)).trans J_29_4
    have e_45 : aF σ_s_43 (ad E a 31) = f31 := (hM9.a (by decide) (by decide)).trans J_29_5
    obtain ⟨g_46, dg_46⟩ : ∃ g9, g9 = upd F3q27 (4 * a50 + v3q28).toNat (I z_42) := ⟨_, rfl⟩
    rw [← dg_46] at ha9
    have ef_47 := ha9
    refine lv_iinc (v := I (v3q28 + 1)) (lv' := [(3, .int (I (v3q28 + 1))), (0, .ref a), (1, .ref (ad E a 31)), (2, .int (I i))]) hx hb dX11_copyThings_33 hl (k := 3) rfl (I_add _ _) (by decide) rfl (fun ls hl => ?_)
    refine lv_goto (tgt := 2) hx hb dX11_copyThings_36 (by decide) ?_
    exact ihJ_29 (v3q28 + 1, g_46) σ_s_43 _ _ _ (by first | (dsimp only; omega) | omega) ⟨hO, hF, hM, hH, hS, lv_sub hl [1, 2, 3, 0] rfl, ⟨by first | (dsimp only; omega) | omega, by first | (dsimp only; omega) | omega⟩, by first | (dsimp only; omega) | omega, by first | (dsimp only; omega) | omega, by first | (dsimp only; omega) | omega, (J_29_3.step dg_46 (by first | (dsimp only; omega) | omega) ez_42 (by first | (dsimp only; omega) | omega) (by first | (dsimp only; omega) | omega) (by first | (dsimp only; omega) | omega)), e_44, e_45, ef_47⟩

set_option maxHeartbeats 4000000 in
set_option maxRecDepth 100000 in
theorem m_copyWith2 (l : Launch) (G : va_G) (y : Nat → ClassId) (b0 : Nat) (σ : th_M) (E : th_E) (hO : ok y E σ) (a : Nat) (h_a : kd E a = 13) (i : Int) (ri : rng i) (l_i : 0 ≤ i) (u_i : i ≤ 0) (ky : Int) (rky : rng ky) (f2 : Nat → Int32) (ef2 : aF σ (ad E a 2) = f2) (f3 : Nat → Int32) (ef3 : aF σ (ad E a 3) = f3) (hy0 : td f2) (hy1 : 1 ≤ mS f2 0 ∧ mS f2 0 ≤ 60) (hy2 : gI σ a 5 + mS f2 0 ≤ 4000) : Met l yX11_copyWith wsX11_copyWith ({ frames := 2, cells := 0, slots := 0, locals := 52 }) (th_P G y b0 σ [.ref a, .ref (ad E a 2), .int (I i), .int (I ky)]) (th_Qv G b0 (fun σ1 => ok y E σ1 ∧ fr [13] E σ σ1 ∧ fm [3, 5] E σ σ1 a ∧ (blk f3 (aF σ1 (ad E a 3)) (gI σ a 5) (gI σ a 5 + mS f2 0) ky ∧ mS (aF σ1 (ad E a 3)) (gI σ a 5) = mS f2 0 ∧ gI σ1 a 5 = gI σ a 5 + mS f2 0))) 0 0 (th_A b0) := by
  refine Met.ofW (cc := cX11_copyWith) (maxL := 5) (ret := none) (by decide) rfl ?_
  intro p e s m args below meth c s₁ B hml hv
  obtain ⟨rfl, hH, hK⟩ := hv
  have hx := B.exec
  have hb := B.bytes
  have hr := B.returns
  have hts := atoms_spec (ws := wsX11_copyWith) B.pre
  have hown : s.vm.findClass RX11 = some m.cls := findClass_of_methodNamed B.named
  have hlocks := B.notSynchronized
  have h00 : b0 ≤ s.heap.size := hH.1
  have hS : va_S (th_A b0) s.heap s.heap [] := va_S.rf
  have hF : fr [13] E σ σ := fr.rf
  have hM : fm [3, 5] E σ σ a := fm.rf
  have inX11 : ∀ w ∈ wsX110, w ∈ wsX11_copyWith := by decide +kernel
  have fl0 := hts (.fieldLink RX11 353 "NestQueryModel" "madeMany" "I") (by decide +kernel)
  have fl1 := hts (.fieldLink RX11 16 "NestQueryModel" "made" "[I") (by decide +kernel)
  have hl := lv_entry ([.ref a, .ref (ad E a 2), .int (I i), .int (I ky)]) (n := 5) (Nat.le_of_ble_eq_true rfl)
  rw [lg_entry_eq]
  generalize (lg_sl ([.ref a, .ref (ad E a 2), .int (I i), .int (I ky)]) ++ List.replicate (5 - (lg_sl ([.ref a, .ref (ad E a 2), .int (I i), .int (I ky)])).length) Slot.unset).toArray = ls at hl ⊢
  have hl : lv_has ls 5 [(0, .ref a), (1, .ref (ad E a 2)), (2, .int (I i)), (3, .int (I ky))] := hl
  obtain ⟨a50, ea50, ra50, la50, ua50⟩ := hO.gi h_a (by decide) k13_5
  refine lv_iconst (v := I 4) hx hb dX11_copyWith_0 (by decide) ?_
  refine lv_aload_n hx hb dX11_copyWith_1 rfl (lv_at hl 0 rfl) ?_
  refine ok.getIc hO h_a (by decide) k13_5 ea50 (fun _ _ he hv kk => th_get (ci := 11) (C := RX11) (T := TX11) (N := 66) hx hb hts inX11 hown hK hH he rfl 5 (by decide) fl0 hv dX11_copyWith_2 kk) ?_
  refine lv_imul hx hb dX11_copyWith_5 ?_
  refine nq_top (I_mul _ _) ?_
  refine lv_istore (lv' := [(4, .int (I (4 * a50))), (0, .ref a), (1, .ref (ad E a 2)), (2, .int (I i)), (3, .int (I ky))]) hx hb dX11_copyWith_6 hl (by decide) rfl (fun ls hl => ?_)
  refine lv_aload_n hx hb dX11_copyWith_8 rfl (lv_at hl 1 rfl) ?_
  refine lv_aload_n hx hb dX11_copyWith_9 rfl (lv_at hl 2 rfl) ?_
  refine lv_iload_n hx hb dX11_copyWith_10 rfl (lv_at hl 3 rfl) ?_
  obtain ⟨_, hc_1⟩ := hO.cell h_a (by decide) (ci := 11) rfl
  refine th_callv (va_runV (As := [.ref (ad E a 2), .int (I i)]) (rest := []) ⟨hx, hb, hml, hown, hts⟩ (m_copyThings2 l G y b0 σ E hO a h_a i (show rng i from ri) (by omega) (by omega) f2 ef2 f3 ef3 (by omega) (by omega)) (cwV 2 hts gX11_copyWith_X11_copyThings rfl rfl rfl (by decide +kernel) ⟨Nat.le_of_ble_eq_true rfl, Nat.le_of_ble_eq_true rfl⟩) (th_PV hK hH rfl hc_1) rfl rfl hl.1 rfl (lv_room (Nat.le_of_ble_eq_true rfl)) dX11_copyWith_11 ⟨Nat.le_of_ble_eq_true rfl, Nat.le_of_ble_eq_true rfl⟩) hS (fun σ_s_3 H locs hw_2 hH hS => ?_)
  obtain ⟨hO9, hF9, hM9, hw_2⟩ := hw_2
  replace hM := hM.tu hM9 (by decide)
  replace hF := hF.tu hF9 (by decide)
  have e_4 : aF σ_s_3 (ad E a 2) = f2 := (hM9.a (by decide) (by decide)).trans ef2
  replace hO := hO9
  generalize ef_6 : aF σ_s_3 (ad E a 3) = g_5 at hw_2
  have hw_2 : same f3 g_5 0 (gI σ a 5) 0 ∧ same f2 g_5 0 (mS f2 0) (gI σ a 5) ∧ gI σ_s_3 a 5 = gI σ a 5 + mS f2 0 := hw_2
  refine lv_aload_n hx hb dX11_copyWith_14 rfl (lv_at hl 1 rfl) ?_
  refine ok.getR hO h_a (by decide) k13_3 (by decide) (fun _ _ he hv kk => th_get (ci := 11) (C := RX11) (T := TX11) (N := 66) hx hb hts inX11 hown hK hH he rfl 3 (by decide) fl1 hv dX11_copyWith_15 kk) ?_
  refine lv_iload hx hb dX11_copyWith_18 (lv_at hl 0 rfl) ?_
  refine lv_iconst (v := I 2) hx hb dX11_copyWith_20 (by decide) ?_
  refine lv_iadd hx hb dX11_copyWith_21 ?_
  refine nq_top (I_add _ _) ?_
  refine lv_iload_n hx hb dX11_copyWith_22 rfl (lv_at hl 4 rfl) ?_
  obtain ⟨z_7, e_8, rz_7, lz_7, uz_7⟩ := hO.gi h_a (by decide) k13_5
  refine m_iast hx hb hK hH hS h00 hO h_a k13_3 isA1 (by decide) ef_6 ⟨by omega, by omega⟩ (by omega) (by omega) rky el1 dX11_copyWith_23 (fun σ_s_9 H locs hO hF9 hM9 ha9 hH hS => ?_)
  replace hM := hM.tu hM9 (by decide)
  replace hF := hF.tu hF9 (by decide)
  have e_10 : aF σ_s_9 (ad E a 2) = f2 := (hM9.a (by decide) (by decide)).trans e_4
  have e_11 : gI σ_s_9 a 5 = z_7 := (hM9.i (by decide)).trans e_8
  obtain ⟨g_12, dg_12⟩ : ∃ g9, g9 = upd g_5 (4 * a50 + 2).toNat (I ky) := ⟨_, rfl⟩
  rw [← dg_12] at ha9
  have ef_13 := ha9
  exact th_vret hx hb hr hlocks hH hS ⟨hO, hF, hM, by rw [show aF σ_s_9 (ad E a 3) = g_12 from ef_13]; have h9 := blk.copy hy0 hw_2.1 hw_2.2.1 dg_12 (by omega) rky (by omega); exact ⟨h9.1, h9.2, by omega⟩⟩ dX11_copyWith_24

set_option maxHeartbeats 4000000 in
set_option maxRecDepth 100000 in
theorem m_copyWith31 (l : Launch) (G : va_G) (y : Nat → ClassId) (b0 : Nat) (σ : th_M) (E : th_E) (hO : ok y E σ) (a : Nat) (h_a : kd E a = 13) (i : Int) (ri : rng i) (l_i : 0 ≤ i) (u_i : i ≤ 0) (ky : Int) (rky : rng ky) (f31 : Nat → Int32) (ef31 : aF σ (ad E a 31) = f31) (f3 : Nat → Int32) (ef3 : aF σ (ad E a 3) = f3) (hy0 : td f31) (hy1 : 1 ≤ mS f31 0 ∧ mS f31 0 ≤ 60) (hy2 : gI σ a 5 + mS f31 0 ≤ 4000) : Met l yX11_copyWith wsX11_copyWith ({ frames := 2, cells := 0, slots := 0, locals := 52 }) (th_P G y b0 σ [.ref a, .ref (ad E a 31), .int (I i), .int (I ky)]) (th_Qv G b0 (fun σ1 => ok y E σ1 ∧ fr [13] E σ σ1 ∧ fm [3, 5] E σ σ1 a ∧ (blk f3 (aF σ1 (ad E a 3)) (gI σ a 5) (gI σ a 5 + mS f31 0) ky ∧ mS (aF σ1 (ad E a 3)) (gI σ a 5) = mS f31 0 ∧ gI σ1 a 5 = gI σ a 5 + mS f31 0))) 0 0 (th_A b0) := by
  refine Met.ofW (cc := cX11_copyWith) (maxL := 5) (ret := none) (by decide) rfl ?_
  intro p e s m args below meth c s₁ B hml hv
  obtain ⟨rfl, hH, hK⟩ := hv
  have hx := B.exec
  have hb := B.bytes
  have hr := B.returns
  have hts := atoms_spec (ws := wsX11_copyWith) B.pre
  have hown : s.vm.findClass RX11 = some m.cls := findClass_of_methodNamed B.named
  have hlocks := B.notSynchronized
  have h00 : b0 ≤ s.heap.size := hH.1
  have hS : va_S (th_A b0) s.heap s.heap [] := va_S.rf
  have hF : fr [13] E σ σ := fr.rf
  have hM : fm [3, 5] E σ σ a := fm.rf
  have inX11 : ∀ w ∈ wsX110, w ∈ wsX11_copyWith := by decide +kernel
  have fl0 := hts (.fieldLink RX11 353 "NestQueryModel" "madeMany" "I") (by decide +kernel)
  have fl1 := hts (.fieldLink RX11 16 "NestQueryModel" "made" "[I") (by decide +kernel)
  have hl := lv_entry ([.ref a, .ref (ad E a 31), .int (I i), .int (I ky)]) (n := 5) (Nat.le_of_ble_eq_true rfl)
  rw [lg_entry_eq]
  generalize (lg_sl ([.ref a, .ref (ad E a 31), .int (I i), .int (I ky)]) ++ List.replicate (5 - (lg_sl ([.ref a, .ref (ad E a 31), .int (I i), .int (I ky)])).length) Slot.unset).toArray = ls at hl ⊢
  have hl : lv_has ls 5 [(0, .ref a), (1, .ref (ad E a 31)), (2, .int (I i)), (3, .int (I ky))] := hl
  obtain ⟨a50, ea50, ra50, la50, ua50⟩ := hO.gi h_a (by decide) k13_5
  refine lv_iconst (v := I 4) hx hb dX11_copyWith_0 (by decide) ?_
  refine lv_aload_n hx hb dX11_copyWith_1 rfl (lv_at hl 0 rfl) ?_
  refine ok.getIc hO h_a (by decide) k13_5 ea50 (fun _ _ he hv kk => th_get (ci := 11) (C := RX11) (T := TX11) (N := 66) hx hb hts inX11 hown hK hH he rfl 5 (by decide) fl0 hv dX11_copyWith_2 kk) ?_
  refine lv_imul hx hb dX11_copyWith_5 ?_
  refine nq_top (I_mul _ _) ?_
  refine lv_istore (lv' := [(4, .int (I (4 * a50))), (0, .ref a), (1, .ref (ad E a 31)), (2, .int (I i)), (3, .int (I ky))]) hx hb dX11_copyWith_6 hl (by decide) rfl (fun ls hl => ?_)
  refine lv_aload_n hx hb dX11_copyWith_8 rfl (lv_at hl 1 rfl) ?_
  refine lv_aload_n hx hb dX11_copyWith_9 rfl (lv_at hl 2 rfl) ?_
  refine lv_iload_n hx hb dX11_copyWith_10 rfl (lv_at hl 3 rfl) ?_
  obtain ⟨_, hc_1⟩ := hO.cell h_a (by decide) (ci := 11) rfl
  refine th_callv (va_runV (As := [.ref (ad E a 31), .int (I i)]) (rest := []) ⟨hx, hb, hml, hown, hts⟩ (m_copyThings31 l G y b0 σ E hO a h_a i (show rng i from ri) (by omega) (by omega) f31 ef31 f3 ef3 (by omega) (by omega)) (cwV 2 hts gX11_copyWith_X11_copyThings rfl rfl rfl (by decide +kernel) ⟨Nat.le_of_ble_eq_true rfl, Nat.le_of_ble_eq_true rfl⟩) (th_PV hK hH rfl hc_1) rfl rfl hl.1 rfl (lv_room (Nat.le_of_ble_eq_true rfl)) dX11_copyWith_11 ⟨Nat.le_of_ble_eq_true rfl, Nat.le_of_ble_eq_true rfl⟩) hS (fun σ_s_3 H locs hw_2 hH hS => ?_)
  obtain ⟨hO9, hF9, hM9, hw_2⟩ := hw_2
  replace hM := hM.tu hM9 (by decide)
  replace hF := hF.tu hF9 (by decide)
  have e_4 : aF σ_s_3 (ad E a 31) = f31 := (hM9.a (by decide) (by decide)).trans ef31
  replace hO := hO9
  generalize ef_6 : aF σ_s_3 (ad E a 3) = g_5 at hw_2
  have hw_2 : same f3 g_5 0 (gI σ a 5) 0 ∧ same f31 g_5 0 (mS f31 0) (gI σ a 5) ∧ gI σ_s_3 a 5 = gI σ a 5 + mS f31 0 := hw_2
  refine lv_aload_n hx hb dX11_copyWith_14 rfl (lv_at hl 1 rfl) ?_
  refine ok.getR hO h_a (by decide) k13_3 (by decide) (fun _ _ he hv kk => th_get (ci := 11) (C := RX11) (T := TX11) (N := 66) hx hb hts inX11 hown hK hH he rfl 3 (by decide) fl1 hv dX11_copyWith_15 kk) ?_
  refine lv_iload hx hb dX11_copyWith_18 (lv_at hl 0 rfl) ?_
  refine lv_iconst (v := I 2) hx hb dX11_copyWith_20 (by decide) ?_
  refine lv_iadd hx hb dX11_copyWith_21 ?_
  refine nq_top (I_add _ _) ?_
  refine lv_iload_n hx hb dX11_copyWith_22 rfl (lv_at hl 4 rfl) ?_
  obtain ⟨z_7, e_8, rz_7, lz_7, uz_7⟩ := hO.gi h_a (by decide) k13_5
  refine m_iast hx hb hK hH hS h00 hO h_a k13_3 isA1 (by decide) ef_6 ⟨by omega, by omega⟩ (by omega) (by omega) rky el1 dX11_copyWith_23 (fun σ_s_9 H locs hO hF9 hM9 ha9 hH hS => ?_)
  replace hM := hM.tu hM9 (by decide)
  replace hF := hF.tu hF9 (by decide)
  have e_10 : aF σ_s_9 (ad E a 31) = f31 := (hM9.a (by decide) (by decide)).trans e_4
  have e_11 : gI σ_s_9 a 5 = z_7 := (hM9.i (by decide)).trans e_8
  obtain ⟨g_12, dg_12⟩ : ∃ g9, g9 = upd g_5 (4 * a50 + 2).toNat (I ky) := ⟨_, rfl⟩
  rw [← dg_12] at ha9
  have ef_13 := ha9
  exact th_vret hx hb hr hlocks hH hS ⟨hO, hF, hM, by rw [show aF σ_s_9 (ad E a 3) = g_12 from ef_13]; have h9 := blk.copy hy0 hw_2.1 hw_2.2.1 dg_12 (by omega) rky (by omega); exact ⟨h9.1, h9.2, by omega⟩⟩ dX11_copyWith_24

set_option maxHeartbeats 4000000 in
set_option maxRecDepth 100000 in
theorem m_takeTree (l : Launch) (G : va_G) (y : Nat → ClassId) (b0 : Nat) (σ : th_M) (E : th_E) (hO : ok y E σ) (a : Nat) (h_a : kd E a = 13) (f1 : Nat → Int32) (ef1 : aF σ (ad E a 1) = f1) (hy0 : 1 ≤ mS f1 0 ∧ mS f1 0 ≤ 60) : Met l yX11_takeTree wsX11_takeTree ({ frames := 2, cells := 0, slots := 0, locals := 52 }) (th_P G y b0 σ [.ref a]) (th_Qv G b0 (fun σ1 => ok y E σ1 ∧ fr [13] E σ σ1 ∧ fm [3, 5] E σ σ1 a ∧ (same f1 (aF σ1 (ad E a 3)) 0 (mS f1 0) 0 ∧ gI σ1 a 5 = mS f1 0))) 0 0 (th_A b0) := by
  refine Met.ofW (cc := cX11_takeTree) (maxL := 1) (ret := none) (by decide) rfl ?_
  intro p e s m args below meth c s₁ B hml hv
  obtain ⟨rfl, hH, hK⟩ := hv
  have hx := B.exec
  have hb := B.bytes
  have hr := B.returns
  have hts := atoms_spec (ws := wsX11_takeTree) B.pre
  have hown : s.vm.findClass RX11 = some m.cls := findClass_of_methodNamed B.named
  have hlocks := B.notSynchronized
  have h00 : b0 ≤ s.heap.size := hH.1
  have hS : va_S (th_A b0) s.heap s.heap [] := va_S.rf
  have hF : fr [13] E σ σ := fr.rf
  have hM : fm [3, 5] E σ σ a := fm.rf
  have inX11 : ∀ w ∈ wsX110, w ∈ wsX11_takeTree := by decide +kernel
  have fl0 := hts (.fieldLink RX11 353 "NestQueryModel" "madeMany" "I") (by decide +kernel)
  have fl1 := hts (.fieldLink RX11 9 "NestQueryModel" "tree" "[I") (by decide +kernel)
  have hl := lv_entry ([.ref a]) (n := 1) (Nat.le_of_ble_eq_true rfl)
  rw [lg_entry_eq]
  generalize (lg_sl ([.ref a]) ++ List.replicate (1 - (lg_sl ([.ref a])).length) Slot.unset).toArray = ls at hl ⊢
  have hl : lv_has ls 1 [(0, .ref a)] := hl
  refine lv_aload_n hx hb dX11_takeTree_0 rfl (lv_at hl 0 rfl) ?_
  refine lv_iconst (v := I 0) hx hb dX11_takeTree_1 (by decide) ?_
  refine ok.putJ hO h_a k13_5 (show rng 0 from ⟨by decide, by decide⟩) (by omega) (by omega) (fun _ he hl9 kk => th_put (ci := 11) (v := .int (I 0)) (ty := .int) (C := RX11) (T := TX11) (N := 66) hx hb hts inX11 tyX11 tyX11_ok nmX11 hown hK hH hS h00 he rfl 5 (by decide) fl0 rfl (by decide +kernel) rfl rfl hl9 dX11_takeTree_2 kk) (fun σ_s_1 H locs hO hF9 hM9 hg9 ha9 hH hS => ?_)
  replace hM := hM.tu hM9 (by decide)
  replace hF := hF.tu hF9 (by decide)
  have e_2 : aF σ_s_1 (ad E a 1) = f1 := (hM9.a (by decide) (by decide)).trans ef1
  have e_3 := hg9
  refine lv_aload_n hx hb dX11_takeTree_5 rfl (lv_at hl 0 rfl) ?_
  refine lv_aload_n hx hb dX11_takeTree_6 rfl (lv_at hl 0 rfl) ?_
  refine ok.getR hO h_a (by decide) k13_1 (by decide) (fun _ _ he hv kk => th_get (ci := 11) (C := RX11) (T := TX11) (N := 66) hx hb hts inX11 hown hK hH he rfl 1 (by decide) fl1 hv dX11_takeTree_7 kk) ?_
  refine lv_iconst (v := I 0) hx hb dX11_takeTree_10 (by decide) ?_
  obtain ⟨f_4, ef_5⟩ : ∃ f9, aF σ_s_1 (ad E a 3) = f9 := ⟨_, rfl⟩
  obtain ⟨_, hc_6⟩ := hO.cell h_a (by decide) (ci := 11) rfl
  refine th_callv (va_runV (As := [.ref (ad E a 1), .int (I 0)]) (rest := []) ⟨hx, hb, hml, hown, hts⟩ (m_copyThings1 l G y b0 σ_s_1 E hO a h_a 0 (show rng 0 from (show rng 0 from ⟨by decide, by decide⟩)) (by omega) (by omega) f1 e_2 f_4 ef_5 (by omega) (by omega)) (cwV 2 hts gX11_takeTree_X11_copyThings rfl rfl rfl (by decide +kernel) ⟨Nat.le_of_ble_eq_true rfl, Nat.le_of_ble_eq_true rfl⟩) (th_PV hK hH rfl hc_6) rfl rfl hl.1 rfl (lv_room (Nat.le_of_ble_eq_true rfl)) dX11_takeTree_11 ⟨Nat.le_of_ble_eq_true rfl, Nat.le_of_ble_eq_true rfl⟩) hS (fun σ_s_8 H locs hw_7 hH hS => ?_)
  obtain ⟨hO9, hF9, hM9, hw_7⟩ := hw_7
  replace hM := hM.tu hM9 (by decide)
  replace hF := hF.tu hF9 (by decide)
  have e_9 : aF σ_s_8 (ad E a 1) = f1 := (hM9.a (by decide) (by decide)).trans e_2
  replace hO := hO9
  generalize ef_11 : aF σ_s_8 (ad E a 3) = g_10 at hw_7
  have hw_7 : same f_4 g_10 0 (gI σ_s_1 a 5) 0 ∧ same f1 g_10 0 (mS f1 0) (gI σ_s_1 a 5) ∧ gI σ_s_8 a 5 = gI σ_s_1 a 5 + mS f1 0 := hw_7
  exact th_vret hx hb hr hlocks hH hS ⟨hO, hF, hM, by rw [show aF σ_s_8 (ad E a 3) = g_10 from ef_11]; have h9 := hw_7.2; rw [show gI σ_s_1 a 5 = 0 by omega] at h9; exact ⟨h9.1, by omega⟩⟩ dX11_takeTree_14

set_option maxHeartbeats 4000000 in
set_option maxRecDepth 100000 in
theorem m_lift1 (l : Launch) (G : va_G) (y : Nat → ClassId) (b0 : Nat) (σ : th_M) (E : th_E) (hO : ok y E σ) (a : Nat) (h_a : kd E a = 13) (i : Int) (ri : rng i) (l_i : 0 ≤ i) (u_i : i ≤ 59) (f1 : Nat → Int32) (ef1 : aF σ (ad E a 1) = f1) (f31 : Nat → Int32) (ef31 : aF σ (ad E a 31) = f31) (hy0 : mT f1 i (i + mS f1 i)) (hy1 : 1 ≤ mS f1 i ∧ mS f1 i ≤ 60) (hy2 : i + mS f1 i ≤ 60) : Met l yX11_lift wsX11_lift ({ frames := 1, cells := 0, slots := 0, locals := 25 }) (th_P G y b0 σ [.ref a, .ref (ad E a 1), .int (I i)]) (th_Qv G b0 (fun σ1 => ok y E σ1 ∧ fr [13] E σ σ1 ∧ fm [31] E σ σ1 a ∧ (mT (aF σ1 (ad E a 31)) 0 (mS f1 i) ∧ mS (aF σ1 (ad E a 31)) 0 = mS f1 i))) 0 0 (th_A b0) := by
  refine Met.ofW (cc := cX11_lift) (maxL := 4) (ret := none) (by decide) rfl ?_
  intro p e s m args below meth c s₁ B hml hv
  obtain ⟨rfl, hH, hK⟩ := hv
  have hx := B.exec
  have hb := B.bytes
  have hr := B.returns
  have hts := atoms_spec (ws := wsX11_lift) B.pre
  have hown : s.vm.findClass RX11 = some m.cls := findClass_of_methodNamed B.named
  have hlocks := B.notSynchronized
  have h00 : b0 ≤ s.heap.size := hH.1
  have hS : va_S (th_A b0) s.heap s.heap [] := va_S.rf
  have hF : fr [13] E σ σ := fr.rf
  have hM : fm [31] E σ σ a := fm.rf
  have inX11 : ∀ w ∈ wsX110, w ∈ wsX11_lift := by decide +kernel
  have fl0 := hts (.fieldLink RX11 42 "NestQueryModel" "lifted" "[I") (by decide +kernel)
  have hl := lv_entry ([.ref a, .ref (ad E a 1), .int (I i)]) (n := 4) (Nat.le_of_ble_eq_true rfl)
  rw [lg_entry_eq]
  generalize (lg_sl ([.ref a, .ref (ad E a 1), .int (I i)]) ++ List.replicate (4 - (lg_sl ([.ref a, .ref (ad E a 1), .int (I i)])).length) Slot.unset).toArray = ls at hl ⊢
  have hl : lv_has ls 4 [(0, .ref a), (1, .ref (ad E a 1)), (2, .int (I i))] := hl
  refine lv_iconst (v := I 0) hx hb dX11_lift_0 (by decide) ?_
  refine lv_istore_n (lv' := [(3, .int (I 0)), (0, .ref a), (1, .ref (ad E a 1)), (2, .int (I i))]) hx hb dX11_lift_1 rfl hl (by decide) rfl (fun ls hl => ?_)
  refine th_loop (α := Int × (Nat → Int32)) (pc := 2) (fun x9 => (4 * mS f1 i - x9.1).toNat) (fun x9 σ9 H9 l9 ls9 => ok y E σ9 ∧ fr [13] E σ σ9 ∧ fm [31] E σ σ9 a ∧ th_H G b0 σ9 H9 ∧ va_S (th_A b0) s.heap H9 l9 ∧ lv_has ls9 4 [(0, .ref a), (1, .ref (ad E a 1)), (2, .int (I i)), (3, .int (I x9.1))] ∧ rng x9.1 ∧ (0 ≤ x9.1) ∧ (x9.1 ≤ 240) ∧ (x9.1 ≤ 4 * mS f1 i) ∧ (cpd f31 x9.2 f1 0 i x9.1) ∧ (aF σ9 (ad E a 1) = f1) ∧ (aF σ9 (ad E a 31) = x9.2)) ?_ (0, f31) σ _ _ _ ⟨hO, hF, hM, hH, hS, lv_sub hl [1, 2, 3, 0] rfl, (show rng 0 from ⟨by decide, by decide⟩), by first | (dsimp only; omega) | omega, by first | (dsimp only; omega) | omega, by first | (dsimp only; omega) | omega, cpd.zero, ef1, ef31⟩
  intro x9 σ_J_27 H locs ls hI9 ihJ_27
  obtain ⟨v3q26, F31q25⟩ := x9
  obtain ⟨hO, hF, hM, hH, hS, hl, rv3q26, J_27_0, J_27_1, J_27_2, J_27_3, J_27_4, J_27_5⟩ := hI9
  have hl : lv_has ls 4 [(0, .ref a), (1, .ref (ad E a 1)), (2, .int (I i)), (3, .int (I v3q26))] := hl
  have rv3q26 : rng v3q26 := rv3q26
  have J_27_0 : 0 ≤ v3q26 := J_27_0
  have J_27_1 : v3q26 ≤ 240 := J_27_1
  have J_27_2 : v3q26 ≤ 4 * mS f1 i := J_27_2
  have J_27_3 : cpd f31 F31q25 f1 0 i v3q26 := J_27_3
  have J_27_4 : aF σ_J_27 (ad E a 1) = f1 := J_27_4
  have J_27_5 : aF σ_J_27 (ad E a 31) = F31q25 := J_27_5
  refine lv_iload_n hx hb dX11_lift_2 rfl (lv_at hl 3 rfl) ?_
  refine lv_iconst (v := I 4) hx hb dX11_lift_3 (by decide) ?_
  refine lv_aload_n hx hb dX11_lift_4 rfl (lv_at hl 1 rfl) ?_
  refine lv_iload_n hx hb dX11_lift_5 rfl (lv_at hl 2 rfl) ?_
  refine th_calli (va_runS (As := [.ref (ad E a 1), .int (I i)]) (rest := [.int (I 4), .int (I v3q26)]) ⟨hx, hb, hml, hown, hts⟩ (w_size l G y b0 σ_J_27 E hO (ad E a 1) 240 f1 (hO.roww h_a k13_1 isA1 J_27_4 rfl) i (show rng i from ri) (by omega) (by omega) (by omega)) (va_cwS 2 hts gX11_lift_X11_size rfl rfl rfl (by decide +kernel) ⟨Nat.le_of_ble_eq_true rfl, Nat.le_of_ble_eq_true rfl⟩) (th_PS hK hH) rfl rfl hl.1 rfl (lv_room (Nat.le_of_ble_eq_true rfl)) dX11_lift_6 ⟨Nat.le_of_ble_eq_true rfl, Nat.le_of_ble_eq_true rfl⟩) hS (fun z_30 σ_s_29 H locs rz_30 hw_28 hH hS => ?_)
  obtain ⟨e9, hw_28⟩ := hw_28
  replace e9 := e9.symm
  subst e9
  have hw_28 : z_30 = mS f1 i := hw_28
  refine lv_imul hx hb dX11_lift_9 ?_
  refine nq_top (I_mul _ _) ?_
  refine lv_icmp_ge (tgt := 32) hx hb dX11_lift_10 (by decide) (fun c_31 => ?_) (fun c_31 => ?_)
  · replace c_31 := (I_le (a := 4 * z_30) (b := v3q26) ⟨by omega, by omega⟩ rv3q26).mp c_31
    exact th_vret hx hb hr hlocks hH hS ⟨hO, hF, hM, by rw [show aF σ_J_27 (ad E a 31) = F31q25 from J_27_5]; have h9 := (J_27_3.fin (n := mS f1 i) (by omega) (by omega)).2; have h8 := hy0.shift h9; have h7 := h9.s1 (i := i) (Int.le_refl _) (by omega); rw [show i + (0 - i) = 0 by omega] at h7 h8; rw [show i + mS f1 i + (0 - i) = mS f1 i by omega] at h8; exact ⟨h8, h7⟩⟩ dX11_lift_32
  · replace c_31 := mt (I_le (a := 4 * z_30) (b := v3q26) ⟨by omega, by omega⟩ rv3q26).mpr c_31
    refine lv_aload_n hx hb dX11_lift_13 rfl (lv_at hl 0 rfl) ?_
    refine ok.getR hO h_a (by decide) k13_31 (by decide) (fun _ _ he hv kk => th_get (ci := 11) (C := RX11) (T := TX11) (N := 66) hx hb hts inX11 hown hK hH he rfl 31 (by decide) fl0 hv dX11_lift_14 kk) ?_
    refine lv_iload_n hx hb dX11_lift_17 rfl (lv_at hl 3 rfl) ?_
    refine lv_aload_n hx hb dX11_lift_18 rfl (lv_at hl 1 rfl) ?_
    refine lv_iconst (v := I 4) hx hb dX11_lift_19 (by decide) ?_
    refine lv_iload_n hx hb dX11_lift_20 rfl (lv_at hl 2 rfl) ?_
    refine lv_imul hx hb dX11_lift_21 ?_
    refine nq_top (I_mul _ _) ?_
    refine lv_iload_n hx hb dX11_lift_22 rfl (lv_at hl 3 rfl) ?_
    refine lv_iadd hx hb dX11_lift_23 ?_
    refine nq_top (I_add _ _) ?_
    refine m_iald hx hb hK hH hO h_a k13_1 isA1 J_27_4 ⟨by omega, by omega⟩ (by omega) (by omega) dX11_lift_24 (fun z_32 ez_32 rz_32 elx9 => ?_)
    refine m_iast hx hb hK hH hS h00 hO h_a k13_31 isA1 (by decide) J_27_5 rv3q26 (by omega) (by omega) rz_32 el1 dX11_lift_25 (fun σ_s_33 H locs hO hF9 hM9 ha9 hH hS => ?_)
    replace hM := hM.tu hM9 (by decide)
    replace hF := hF.tu hF9 (by decide)
    have e_34 : aF σ_s_33 (ad E a 1) = f1 := (hM9.a (by decide) (by decide)).trans J_27_4
    obtain ⟨g_35, dg_35⟩ : ∃ g9, g9 = upd F31q25 (v3q26).toNat (I z_32) := ⟨_, rfl⟩
    rw [← dg_35] at ha9
    have ef_36 := ha9
    refine lv_iinc (v := I (v3q26 + 1)) (lv' := [(3, .int (I (v3q26 + 1))), (0, .ref a), (1, .ref (ad E a 1)), (2, .int (I i))]) hx hb dX11_lift_26 hl (k := 3) rfl (I_add _ _) (by decide) rfl (fun ls hl => ?_)
    refine lv_goto (tgt := 2) hx hb dX11_lift_29 (by decide) ?_
    exact ihJ_27 (v3q26 + 1, g_35) σ_s_33 _ _ _ (by first | (dsimp only; omega) | omega) ⟨hO, hF, hM, hH, hS, lv_sub hl [1, 2, 3, 0] rfl, ⟨by first | (dsimp only; omega) | omega, by first | (dsimp only; omega) | omega⟩, by first | (dsimp only; omega) | omega, by first | (dsimp only; omega) | omega, by first | (dsimp only; omega) | omega, (J_27_3.step dg_35 (by first | (dsimp only; omega) | omega) ez_32 (by first | (dsimp only; omega) | omega) (by first | (dsimp only; omega) | omega) (by first | (dsimp only; omega) | omega)), e_34, ef_36⟩

set_option maxHeartbeats 4000000 in
set_option maxRecDepth 100000 in
theorem m_lift44 (l : Launch) (G : va_G) (y : Nat → ClassId) (b0 : Nat) (σ : th_M) (E : th_E) (hO : ok y E σ) (a : Nat) (h_a : kd E a = 13) (i : Int) (ri : rng i) (l_i : 0 ≤ i) (u_i : i ≤ 299) (f44 : Nat → Int32) (ef44 : aF σ (ad E a 44) = f44) (f31 : Nat → Int32) (ef31 : aF σ (ad E a 31) = f31) (hy0 : mT f44 i (i + mS f44 i)) (hy1 : 1 ≤ mS f44 i ∧ mS f44 i ≤ 60) (hy2 : i + mS f44 i ≤ 300) : Met l yX11_lift wsX11_lift ({ frames := 1, cells := 0, slots := 0, locals := 25 }) (th_P G y b0 σ [.ref a, .ref (ad E a 44), .int (I i)]) (th_Qv G b0 (fun σ1 => ok y E σ1 ∧ fr [13] E σ σ1 ∧ fm [31] E σ σ1 a ∧ (mT (aF σ1 (ad E a 31)) 0 (mS f44 i) ∧ mS (aF σ1 (ad E a 31)) 0 = mS f44 i))) 0 0 (th_A b0) := by
  refine Met.ofW (cc := cX11_lift) (maxL := 4) (ret := none) (by decide) rfl ?_
  intro p e s m args below meth c s₁ B hml hv
  obtain ⟨rfl, hH, hK⟩ := hv
  have hx := B.exec
  have hb := B.bytes
  have hr := B.returns
  have hts := atoms_spec (ws := wsX11_lift) B.pre
  have hown : s.vm.findClass RX11 = some m.cls := findClass_of_methodNamed B.named
  have hlocks := B.notSynchronized
  have h00 : b0 ≤ s.heap.size := hH.1
  have hS : va_S (th_A b0) s.heap s.heap [] := va_S.rf
  have hF : fr [13] E σ σ := fr.rf
  have hM : fm [31] E σ σ a := fm.rf
  have inX11 : ∀ w ∈ wsX110, w ∈ wsX11_lift := by decide +kernel
  have fl0 := hts (.fieldLink RX11 42 "NestQueryModel" "lifted" "[I") (by decide +kernel)
  have hl := lv_entry ([.ref a, .ref (ad E a 44), .int (I i)]) (n := 4) (Nat.le_of_ble_eq_true rfl)
  rw [lg_entry_eq]
  generalize (lg_sl ([.ref a, .ref (ad E a 44), .int (I i)]) ++ List.replicate (4 - (lg_sl ([.ref a, .ref (ad E a 44), .int (I i)])).length) Slot.unset).toArray = ls at hl ⊢
  have hl : lv_has ls 4 [(0, .ref a), (1, .ref (ad E a 44)), (2, .int (I i))] := hl
  refine lv_iconst (v := I 0) hx hb dX11_lift_0 (by decide) ?_
  refine lv_istore_n (lv' := [(3, .int (I 0)), (0, .ref a), (1, .ref (ad E a 44)), (2, .int (I i))]) hx hb dX11_lift_1 rfl hl (by decide) rfl (fun ls hl => ?_)
  refine th_loop (α := Int × (Nat → Int32)) (pc := 2) (fun x9 => (4 * mS f44 i - x9.1).toNat) (fun x9 σ9 H9 l9 ls9 => ok y E σ9 ∧ fr [13] E σ σ9 ∧ fm [31] E σ σ9 a ∧ th_H G b0 σ9 H9 ∧ va_S (th_A b0) s.heap H9 l9 ∧ lv_has ls9 4 [(0, .ref a), (1, .ref (ad E a 44)), (2, .int (I i)), (3, .int (I x9.1))] ∧ rng x9.1 ∧ (0 ≤ x9.1) ∧ (x9.1 ≤ 240) ∧ (x9.1 ≤ 4 * mS f44 i) ∧ (cpd f31 x9.2 f44 0 i x9.1) ∧ (aF σ9 (ad E a 44) = f44) ∧ (aF σ9 (ad E a 31) = x9.2)) ?_ (0, f31) σ _ _ _ ⟨hO, hF, hM, hH, hS, lv_sub hl [1, 2, 3, 0] rfl, (show rng 0 from ⟨by decide, by decide⟩), by first | (dsimp only; omega) | omega, by first | (dsimp only; omega) | omega, by first | (dsimp only; omega) | omega, cpd.zero, ef44, ef31⟩
  intro x9 σ_J_27 H locs ls hI9 ihJ_27
  obtain ⟨v3q26, F31q25⟩ := x9
  obtain ⟨hO, hF, hM, hH, hS, hl, rv3q26, J_27_0, J_27_1, J_27_2, J_27_3, J_27_4, J_27_5⟩ := hI9
  have hl : lv_has ls 4 [(0, .ref a), (1, .ref (ad E a 44)), (2, .int (I i)), (3, .int (I v3q26))] := hl
  have rv3q26 : rng v3q26 := rv3q26
  have J_27_0 : 0 ≤ v3q26 := J_27_0
  have J_27_1 : v3q26 ≤ 240 := J_27_1
  have J_27_2 : v3q26 ≤ 4 * mS f44 i := J_27_2
  have J_27_3 : cpd f31 F31q25 f44 0 i v3q26 := J_27_3
  have J_27_4 : aF σ_J_27 (ad E a 44) = f44 := J_27_4
  have J_27_5 : aF σ_J_27 (ad E a 31) = F31q25 := J_27_5
  refine lv_iload_n hx hb dX11_lift_2 rfl (lv_at hl 3 rfl) ?_
  refine lv_iconst (v := I 4) hx hb dX11_lift_3 (by decide) ?_
  refine lv_aload_n hx hb dX11_lift_4 rfl (lv_at hl 1 rfl) ?_
  refine lv_iload_n hx hb dX11_lift_5 rfl (lv_at hl 2 rfl) ?_
  refine th_calli (va_runS (As := [.ref (ad E a 44), .int (I i)]) (rest := [.int (I 4), .int (I v3q26)]) ⟨hx, hb, hml, hown, hts⟩ (w_size l G y b0 σ_J_27 E hO (ad E a 44) 1200 f44 (hO.roww h_a k13_44 isA1 J_27_4 rfl) i (show rng i from ri) (by omega) (by omega) (by omega)) (va_cwS 2 hts gX11_lift_X11_size rfl rfl rfl (by decide +kernel) ⟨Nat.le_of_ble_eq_true rfl, Nat.le_of_ble_eq_true rfl⟩) (th_PS hK hH) rfl rfl hl.1 rfl (lv_room (Nat.le_of_ble_eq_true rfl)) dX11_lift_6 ⟨Nat.le_of_ble_eq_true rfl, Nat.le_of_ble_eq_true rfl⟩) hS (fun z_30 σ_s_29 H locs rz_30 hw_28 hH hS => ?_)
  obtain ⟨e9, hw_28⟩ := hw_28
  replace e9 := e9.symm
  subst e9
  have hw_28 : z_30 = mS f44 i := hw_28
  refine lv_imul hx hb dX11_lift_9 ?_
  refine nq_top (I_mul _ _) ?_
  refine lv_icmp_ge (tgt := 32) hx hb dX11_lift_10 (by decide) (fun c_31 => ?_) (fun c_31 => ?_)
  · replace c_31 := (I_le (a := 4 * z_30) (b := v3q26) ⟨by omega, by omega⟩ rv3q26).mp c_31
    exact th_vret hx hb hr hlocks hH hS ⟨hO, hF, hM, by rw [show aF σ_J_27 (ad E a 31) = F31q25 from J_27_5]; have h9 := (J_27_3.fin (n := mS f44 i) (by omega) (by omega)).2; have h8 := hy0.shift h9; have h7 := h9.s1 (i := i) (Int.le_refl _) (by omega); rw [show i + (0 - i) = 0 by omega] at h7 h8; rw [show i + mS f44 i + (0 - i) = mS f44 i by omega] at h8; exact ⟨h8, h7⟩⟩ dX11_lift_32
  · replace c_31 := mt (I_le (a := 4 * z_30) (b := v3q26) ⟨by omega, by omega⟩ rv3q26).mpr c_31
    refine lv_aload_n hx hb dX11_lift_13 rfl (lv_at hl 0 rfl) ?_
    refine ok.getR hO h_a (by decide) k13_31 (by decide) (fun _ _ he hv kk => th_get (ci := 11) (C := RX11) (T := TX11) (N := 66) hx hb hts inX11 hown hK hH he rfl 31 (by decide) fl0 hv dX11_lift_14 kk) ?_
    refine lv_iload_n hx hb dX11_lift_17 rfl (lv_at hl 3 rfl) ?_
    refine lv_aload_n hx hb dX11_lift_18 rfl (lv_at hl 1 rfl) ?_
    refine lv_iconst (v := I 4) hx hb dX11_lift_19 (by decide) ?_
    refine lv_iload_n hx hb dX11_lift_20 rfl (lv_at hl 2 rfl) ?_
    refine lv_imul hx hb dX11_lift_21 ?_
    refine nq_top (I_mul _ _) ?_
    refine lv_iload_n hx hb dX11_lift_22 rfl (lv_at hl 3 rfl) ?_
    refine lv_iadd hx hb dX11_lift_23 ?_
    refine nq_top (I_add _ _) ?_
    refine m_iald hx hb hK hH hO h_a k13_44 isA1 J_27_4 ⟨by omega, by omega⟩ (by omega) (by omega) dX11_lift_24 (fun z_32 ez_32 rz_32 elx9 => ?_)
    refine m_iast hx hb hK hH hS h00 hO h_a k13_31 isA1 (by decide) J_27_5 rv3q26 (by omega) (by omega) rz_32 el1 dX11_lift_25 (fun σ_s_33 H locs hO hF9 hM9 ha9 hH hS => ?_)
    replace hM := hM.tu hM9 (by decide)
    replace hF := hF.tu hF9 (by decide)
    have e_34 : aF σ_s_33 (ad E a 44) = f44 := (hM9.a (by decide) (by decide)).trans J_27_4
    obtain ⟨g_35, dg_35⟩ : ∃ g9, g9 = upd F31q25 (v3q26).toNat (I z_32) := ⟨_, rfl⟩
    rw [← dg_35] at ha9
    have ef_36 := ha9
    refine lv_iinc (v := I (v3q26 + 1)) (lv' := [(3, .int (I (v3q26 + 1))), (0, .ref a), (1, .ref (ad E a 44)), (2, .int (I i))]) hx hb dX11_lift_26 hl (k := 3) rfl (I_add _ _) (by decide) rfl (fun ls hl => ?_)
    refine lv_goto (tgt := 2) hx hb dX11_lift_29 (by decide) ?_
    exact ihJ_27 (v3q26 + 1, g_35) σ_s_33 _ _ _ (by first | (dsimp only; omega) | omega) ⟨hO, hF, hM, hH, hS, lv_sub hl [1, 2, 3, 0] rfl, ⟨by first | (dsimp only; omega) | omega, by first | (dsimp only; omega) | omega⟩, by first | (dsimp only; omega) | omega, by first | (dsimp only; omega) | omega, by first | (dsimp only; omega) | omega, (J_27_3.step dg_35 (by first | (dsimp only; omega) | omega) ez_32 (by first | (dsimp only; omega) | omega) (by first | (dsimp only; omega) | omega) (by first | (dsimp only; omega) | omega)), e_34, ef_36⟩
