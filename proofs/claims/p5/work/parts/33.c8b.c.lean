set_option maxHeartbeats 4000000 in
set_option maxRecDepth 100000 in
theorem m_rowG (l : Launch) (G : va_G) (y : Nat → ClassId) (b0 : Nat) (σ : th_M) (E : th_E) (hO : ok y E σ) (a : Nat) (h_a : kd E a = 13) (kd : Int) (rkd : rng kd) (l_kd : 2 ≤ kd) (u_kd : kd ≤ 2) (dp : Int) (rdp : rng dp) (l_dp : 1 ≤ dp) (u_dp : dp ≤ 8) (i : Int) (ri : rng i) (l_i : 0 ≤ i) (u_i : i ≤ 59) (j : Int) (rj : rng j) (l_j : -1 ≤ j) (u_j : j ≤ -1) (w : Int) (f1 : Nat → Int32) (ef1 : aF σ (ad E a 1) = f1) (f61 : Nat → Int32) (ef61 : aF σ (ad E a 61) = f61) (f39 : Nat → Int32) (ef39 : aF σ (ad E a 39) = f39) (f40 : Nat → Int32) (ef40 : aF σ (ad E a 40) = f40) (f42 : Nat → Int32) (ef42 : aF σ (ad E a 42) = f42) (f43 : Nat → Int32) (ef43 : aF σ (ad E a 43) = f43) (f44 : Nat → Int32) (ef44 : aF σ (ad E a 44) = f44) (f45 : Nat → Int32) (ef45 : aF σ (ad E a 45) = f45) (f46 : Nat → Int32) (ef46 : aF σ (ad E a 46) = f46) (hy0 : gI σ a 48 = w) (hy1 : 0 ≤ w ∧ w ≤ 1) (hy2 : rws w f39 f40 f42 f43 f44 (f45 w.toNat).toInt (f46 w.toNat).toInt) (hy3 : 0 ≤ (f45 w.toNat).toInt ∧ (f45 w.toNat).toInt < 130) (hy4 : 0 ≤ (f46 w.toNat).toInt ∧ (f46 w.toNat).toInt + mS f61 i ≤ 150) (hy5 : mT f61 i (i + mS f61 i)) (hy6 : 1 ≤ mS f61 i ∧ mS f61 i ≤ 60 ∧ i + mS f61 i ≤ 60) : Met l yX11_addRow wsX11_addRow ({ frames := 2, cells := 0, slots := 0, locals := 53 }) (th_P G y b0 σ [.ref a, .int (I kd), .int (I dp), .ref (ad E a 61), .int (I i), .ref (ad E a 1), .int (I j)]) (th_Qv G b0 (fun σ1 => ok y E σ1 ∧ fr [13] E σ σ1 ∧ fm [39, 40, 41, 42, 43, 44, 45, 46] E σ σ1 a ∧ (rws w (aF σ1 (ad E a 39)) (aF σ1 (ad E a 40)) (aF σ1 (ad E a 42)) (aF σ1 (ad E a 43)) (aF σ1 (ad E a 44)) ((f45 w.toNat).toInt + 1) ((f46 w.toNat).toInt + mS f61 i) ∧ ((aF σ1 (ad E a 45)) w.toNat).toInt = (f45 w.toNat).toInt + 1 ∧ ((aF σ1 (ad E a 46)) w.toNat).toInt = (f46 w.toNat).toInt + mS f61 i ∧ hall w f39 f40 f42 f43 f44 f45 f46 (aF σ1 (ad E a 39)) (aF σ1 (ad E a 40)) (aF σ1 (ad E a 42)) (aF σ1 (ad E a 43)) (aF σ1 (ad E a 44)) (aF σ1 (ad E a 45)) (aF σ1 (ad E a 46))))) 0 0 (th_A b0) := by
  refine Met.ofW (cc := cX11_addRow) (maxL := 9) (ret := none) (by decide) rfl ?_
  intro p e s m args below meth c s₁ B hml hv
  obtain ⟨rfl, hH, hK⟩ := hv
  have hx := B.exec
  have hb := B.bytes
  have hr := B.returns
  have hts := atoms_spec (ws := wsX11_addRow) B.pre
  have hown : s.vm.findClass RX11 = some m.cls := findClass_of_methodNamed B.named
  have hlocks := B.notSynchronized
  have h00 : b0 ≤ s.heap.size := hH.1
  have hS : va_S (th_A b0) s.heap s.heap [] := va_S.rf
  have hF : fr [13] E σ σ := fr.rf
  have hM : fm [39, 40, 41, 42, 43, 44, 45, 46] E σ σ a := fm.rf
  have inX11 : ∀ w ∈ wsX110, w ∈ wsX11_addRow := by decide +kernel
  have fl0 := hts (.fieldLink RX11 438 "NestQueryModel" "which" "I") (by decide +kernel)
  have fl1 := hts (.fieldLink RX11 69 "NestQueryModel" "rowsMany" "[I") (by decide +kernel)
  have fl2 := hts (.fieldLink RX11 51 "NestQueryModel" "rowKind" "[I") (by decide +kernel)
  have fl3 := hts (.fieldLink RX11 54 "NestQueryModel" "rowSteps" "[I") (by decide +kernel)
  have fl4 := hts (.fieldLink RX11 60 "NestQueryModel" "rowWas" "[I") (by decide +kernel)
  have fl5 := hts (.fieldLink RX11 63 "NestQueryModel" "rowIs" "[I") (by decide +kernel)
  have fl6 := hts (.fieldLink RX11 57 "NestQueryModel" "rowPath" "[I") (by decide +kernel)
  have fl7 := hts (.fieldLink RX11 75 "NestQueryModel" "way" "[I") (by decide +kernel)
  have hl := lv_entry ([.ref a, .int (I kd), .int (I dp), .ref (ad E a 61), .int (I i), .ref (ad E a 1), .int (I j)]) (n := 9) (Nat.le_of_ble_eq_true rfl)
  rw [lg_entry_eq]
  generalize (lg_sl ([.ref a, .int (I kd), .int (I dp), .ref (ad E a 61), .int (I i), .ref (ad E a 1), .int (I j)]) ++ List.replicate (9 - (lg_sl ([.ref a, .int (I kd), .int (I dp), .ref (ad E a 61), .int (I i), .ref (ad E a 1), .int (I j)])).length) Slot.unset).toArray = ls at hl ⊢
  have hl : lv_has ls 9 [(0, .ref a), (1, .int (I kd)), (2, .int (I dp)), (3, .ref (ad E a 61)), (4, .int (I i)), (5, .ref (ad E a 1)), (6, .int (I j))] := hl
  obtain ⟨a480, ea480, ra480, la480, ua480⟩ := hO.gi h_a (by decide) k13_48
  have hw9 : a480 = w := by omega
  have hyr := hy2
  refine lv_sipush (v := I 130) hx hb dX11_addRow_0 (by decide) ?_
  refine lv_aload_n hx hb dX11_addRow_3 rfl (lv_at hl 0 rfl) ?_
  refine ok.getIc hO h_a (by decide) k13_48 ea480 (fun _ _ he hv kk => th_get (ci := 11) (C := RX11) (T := TX11) (N := 66) hx hb hts inX11 hown hK hH he rfl 48 (by decide) fl0 hv dX11_addRow_4 kk) ?_
  refine lv_imul hx hb dX11_addRow_7 ?_
  refine nq_top (I_mul _ _) ?_
  refine lv_aload_n hx hb dX11_addRow_8 rfl (lv_at hl 0 rfl) ?_
  refine ok.getR hO h_a (by decide) k13_45 (by decide) (fun _ _ he hv kk => th_get (ci := 11) (C := RX11) (T := TX11) (N := 66) hx hb hts inX11 hown hK hH he rfl 45 (by decide) fl1 hv dX11_addRow_9 kk) ?_
  refine lv_aload_n hx hb dX11_addRow_12 rfl (lv_at hl 0 rfl) ?_
  refine ok.getIc hO h_a (by decide) k13_48 ea480 (fun _ _ he hv kk => th_get (ci := 11) (C := RX11) (T := TX11) (N := 66) hx hb hts inX11 hown hK hH he rfl 48 (by decide) fl0 hv dX11_addRow_13 kk) ?_
  refine m_iald hx hb hK hH hO h_a k13_45 isA1 ef45 ra480 (by omega) (by omega) dX11_addRow_16 (fun z_1 ez_1 rz_1 elx9 => ?_)
  have hzn : (f45 w.toNat).toInt = z_1 := by rw [← hw9]; exact ez_1
  refine lv_iadd hx hb dX11_addRow_17 ?_
  refine nq_top (I_add _ _) ?_
  refine lv_istore (lv' := [(7, .int (I (130 * a480 + z_1))), (0, .ref a), (1, .int (I kd)), (2, .int (I dp)), (3, .ref (ad E a 61)), (4, .int (I i)), (5, .ref (ad E a 1)), (6, .int (I j))]) hx hb dX11_addRow_18 hl (by decide) rfl (fun ls hl => ?_)
  refine lv_aload_n hx hb dX11_addRow_20 rfl (lv_at hl 1 rfl) ?_
  refine ok.getR hO h_a (by decide) k13_39 (by decide) (fun _ _ he hv kk => th_get (ci := 11) (C := RX11) (T := TX11) (N := 66) hx hb hts inX11 hown hK hH he rfl 39 (by decide) fl2 hv dX11_addRow_21 kk) ?_
  refine lv_iload hx hb dX11_addRow_24 (lv_at hl 0 rfl) ?_
  refine lv_iload_n hx hb dX11_addRow_26 rfl (lv_at hl 2 rfl) ?_
  refine m_iast hx hb hK hH hS h00 hO h_a k13_39 isA1 (by decide) ef39 ⟨by omega, by omega⟩ (by omega) (by omega) rkd el1 dX11_addRow_27 (fun σ_s_2 H locs hO hF9 hM9 ha9 hH hS => ?_)
  replace hM := hM.tu hM9 (by decide)
  replace hF := hF.tu hF9 (by decide)
  have e_3 : aF σ_s_2 (ad E a 1) = f1 := (hM9.a (by decide) (by decide)).trans ef1
  have e_4 : aF σ_s_2 (ad E a 61) = f61 := (hM9.a (by decide) (by decide)).trans ef61
  have e_5 : aF σ_s_2 (ad E a 40) = f40 := (hM9.a (by decide) (by decide)).trans ef40
  have e_6 : aF σ_s_2 (ad E a 42) = f42 := (hM9.a (by decide) (by decide)).trans ef42
  have e_7 : aF σ_s_2 (ad E a 43) = f43 := (hM9.a (by decide) (by decide)).trans ef43
  have e_8 : aF σ_s_2 (ad E a 44) = f44 := (hM9.a (by decide) (by decide)).trans ef44
  have e_9 : aF σ_s_2 (ad E a 45) = f45 := (hM9.a (by decide) (by decide)).trans ef45
  have e_10 : aF σ_s_2 (ad E a 46) = f46 := (hM9.a (by decide) (by decide)).trans ef46
  have e_11 : gI σ_s_2 a 48 = a480 := (hM9.i (by decide)).trans ea480
  obtain ⟨g_12, dg_12⟩ : ∃ g9, g9 = upd f39 (130 * a480 + z_1).toNat (I kd) := ⟨_, rfl⟩
  rw [← dg_12] at ha9
  have ef_13 := ha9
  refine lv_aload_n hx hb dX11_addRow_28 rfl (lv_at hl 1 rfl) ?_
  refine ok.getR hO h_a (by decide) k13_40 (by decide) (fun _ _ he hv kk => th_get (ci := 11) (C := RX11) (T := TX11) (N := 66) hx hb hts inX11 hown hK hH he rfl 40 (by decide) fl3 hv dX11_addRow_29 kk) ?_
  refine lv_iload hx hb dX11_addRow_32 (lv_at hl 0 rfl) ?_
  refine lv_iload_n hx hb dX11_addRow_34 rfl (lv_at hl 3 rfl) ?_
  refine m_iast hx hb hK hH hS h00 hO h_a k13_40 isA1 (by decide) e_5 ⟨by omega, by omega⟩ (by omega) (by omega) rdp el1 dX11_addRow_35 (fun σ_s_14 H locs hO hF9 hM9 ha9 hH hS => ?_)
  replace hM := hM.tu hM9 (by decide)
  replace hF := hF.tu hF9 (by decide)
  have e_15 : aF σ_s_14 (ad E a 1) = f1 := (hM9.a (by decide) (by decide)).trans e_3
  have e_16 : aF σ_s_14 (ad E a 61) = f61 := (hM9.a (by decide) (by decide)).trans e_4
  have e_17 : aF σ_s_14 (ad E a 42) = f42 := (hM9.a (by decide) (by decide)).trans e_6
  have e_18 : aF σ_s_14 (ad E a 43) = f43 := (hM9.a (by decide) (by decide)).trans e_7
  have e_19 : aF σ_s_14 (ad E a 44) = f44 := (hM9.a (by decide) (by decide)).trans e_8
  have e_20 : aF σ_s_14 (ad E a 45) = f45 := (hM9.a (by decide) (by decide)).trans e_9
  have e_21 : aF σ_s_14 (ad E a 46) = f46 := (hM9.a (by decide) (by decide)).trans e_10
  have e_22 : gI σ_s_14 a 48 = a480 := (hM9.i (by decide)).trans e_11
  have e_23 : aF σ_s_14 (ad E a 39) = g_12 := (hM9.a (by decide) (by decide)).trans ef_13
  obtain ⟨g_24, dg_24⟩ : ∃ g9, g9 = upd f40 (130 * a480 + z_1).toNat (I dp) := ⟨_, rfl⟩
  rw [← dg_24] at ha9
  have ef_25 := ha9
  refine lv_iconst (v := I 0) hx hb dX11_addRow_36 (by decide) ?_
  refine lv_istore (lv' := [(8, .int (I 0)), (7, .int (I (130 * a480 + z_1))), (0, .ref a), (1, .int (I kd)), (2, .int (I dp)), (3, .ref (ad E a 61)), (4, .int (I i)), (5, .ref (ad E a 1)), (6, .int (I j))]) hx hb dX11_addRow_37 hl (by decide) rfl (fun ls hl => ?_)
  replace hl : lv_has ls 9 [(8, .int (I 0)), (7, .int (I (130 * a480 + z_1))), (0, .ref a), (2, .int (I dp)), (3, .ref (ad E a 61)), (4, .int (I i)), (5, .ref (ad E a 1)), (6, .int (I j))] := lv_sub hl [0, 1, 2, 4, 5, 6, 7, 8] rfl
  refine th_loop (α := Int) (pc := 39) (fun x9 => (dp - x9).toNat) (fun x9 σ9 H9 l9 ls9 => ok y E σ9 ∧ fr [13] E σ σ9 ∧ fm [39, 40, 41, 42, 43, 44, 45, 46] E σ σ9 a ∧ th_H G b0 σ9 H9 ∧ va_S (th_A b0) s.heap H9 l9 ∧ lv_has ls9 9 [(0, .ref a), (2, .int (I dp)), (3, .ref (ad E a 61)), (4, .int (I i)), (5, .ref (ad E a 1)), (6, .int (I j)), (7, .int (I (130 * a480 + z_1))), (8, .int (I x9))] ∧ rng x9 ∧ (0 ≤ x9) ∧ (x9 ≤ 8) ∧ (gI σ9 a 48 = a480) ∧ (aF σ9 (ad E a 1) = f1) ∧ (aF σ9 (ad E a 61) = f61) ∧ (aF σ9 (ad E a 42) = f42) ∧ (aF σ9 (ad E a 43) = f43) ∧ (aF σ9 (ad E a 44) = f44) ∧ (aF σ9 (ad E a 45) = f45) ∧ (aF σ9 (ad E a 46) = f46) ∧ (aF σ9 (ad E a 39) = g_12) ∧ (aF σ9 (ad E a 40) = g_24)) ?_ (0) σ_s_14 _ _ _ ⟨hO, hF, hM, hH, hS, lv_sub hl [2, 3, 4, 5, 6, 7, 1, 0] rfl, (show rng 0 from ⟨by decide, by decide⟩), by first | (dsimp only; omega) | omega, by first | (dsimp only; omega) | omega, e_22, e_15, e_16, e_17, e_18, e_19, e_20, e_21, e_23, ef_25⟩
  intro x9 σ_J_49 H locs ls hI9 ihJ_49
  obtain ⟨v8q48, ex9⟩ : ∃ z, z = x9 := ⟨_, rfl⟩
  subst ex9
  obtain ⟨hO, hF, hM, hH, hS, hl, rv8q48, J_49_0, J_49_1, J_49_2, J_49_3, J_49_4, J_49_5, J_49_6, J_49_7, J_49_8, J_49_9, J_49_10, J_49_11⟩ := hI9
  have hl : lv_has ls 9 [(0, .ref a), (2, .int (I dp)), (3, .ref (ad E a 61)), (4, .int (I i)), (5, .ref (ad E a 1)), (6, .int (I j)), (7, .int (I (130 * a480 + z_1))), (8, .int (I v8q48))] := hl
  have rv8q48 : rng v8q48 := rv8q48
  have J_49_0 : 0 ≤ v8q48 := J_49_0
  have J_49_1 : v8q48 ≤ 8 := J_49_1
  have J_49_2 : gI σ_J_49 a 48 = a480 := J_49_2
  have J_49_3 : aF σ_J_49 (ad E a 1) = f1 := J_49_3
  have J_49_4 : aF σ_J_49 (ad E a 61) = f61 := J_49_4
  have J_49_5 : aF σ_J_49 (ad E a 42) = f42 := J_49_5
  have J_49_6 : aF σ_J_49 (ad E a 43) = f43 := J_49_6
  have J_49_7 : aF σ_J_49 (ad E a 44) = f44 := J_49_7
  have J_49_8 : aF σ_J_49 (ad E a 45) = f45 := J_49_8
  have J_49_9 : aF σ_J_49 (ad E a 46) = f46 := J_49_9
  have J_49_10 : aF σ_J_49 (ad E a 39) = g_12 := J_49_10
  have J_49_11 : aF σ_J_49 (ad E a 40) = g_24 := J_49_11
  refine lv_iload hx hb dX11_addRow_39 (lv_at hl 7 rfl) ?_
  refine lv_iload_n hx hb dX11_addRow_41 rfl (lv_at hl 1 rfl) ?_
  refine lv_icmp_ge (tgt := 71) hx hb dX11_addRow_42 (by decide) (fun c_50 => ?_) (fun c_50 => ?_)
  · replace c_50 := (I_le (a := dp) (b := v8q48) rdp rv8q48).mp c_50
    refine lv_aload_n hx hb dX11_addRow_71 rfl (lv_at hl 0 rfl) ?_
    refine ok.getR hO h_a (by decide) k13_42 (by decide) (fun _ _ he hv kk => th_get (ci := 11) (C := RX11) (T := TX11) (N := 66) hx hb hts inX11 hown hK hH he rfl 42 (by decide) fl4 hv dX11_addRow_72 kk) ?_
    refine lv_iload hx hb dX11_addRow_75 (lv_at hl 6 rfl) ?_
    refine lv_aload_n hx hb dX11_addRow_77 rfl (lv_at hl 0 rfl) ?_
    refine lv_aload_n hx hb dX11_addRow_78 rfl (lv_at hl 2 rfl) ?_
    refine lv_iload hx hb dX11_addRow_79 (lv_at hl 3 rfl) ?_
    obtain ⟨_, hc_51⟩ := hO.cell h_a (by decide) (ci := 11) rfl
    refine th_calli (va_runV (As := [.ref (ad E a 61), .int (I i)]) (rest := [.int (I (130 * a480 + z_1)), .ref (ad E a 42)]) ⟨hx, hb, hml, hown, hts⟩ (m_add61 l G y b0 σ_J_49 E hO a h_a i (show rng i from ri) (by omega) (by omega) w f61 J_49_4 f44 J_49_7 f46 J_49_9 (by omega) (by omega) (by omega) (by omega)) (cwV 2 hts gX11_addRow_X11_addThings rfl rfl rfl (by decide +kernel) ⟨Nat.le_of_ble_eq_true rfl, Nat.le_of_ble_eq_true rfl⟩) (th_PV hK hH rfl hc_51) rfl rfl hl.1 rfl (lv_room (Nat.le_of_ble_eq_true rfl)) dX11_addRow_81 ⟨Nat.le_of_ble_eq_true rfl, Nat.le_of_ble_eq_true rfl⟩) hS (fun z_54 σ_s_53 H locs rz_54 hw_52 hH hS => ?_)
    obtain ⟨hO9, hF9, hM9, hw_52⟩ := hw_52
    replace hM := hM.tu hM9 (by decide)
    replace hF := hF.tu hF9 (by decide)
    have e_55 : gI σ_s_53 a 48 = a480 := (hM9.i (by decide)).trans J_49_2
    have e_56 : aF σ_s_53 (ad E a 1) = f1 := (hM9.a (by decide) (by decide)).trans J_49_3
    have e_57 : aF σ_s_53 (ad E a 61) = f61 := (hM9.a (by decide) (by decide)).trans J_49_4
    have e_58 : aF σ_s_53 (ad E a 42) = f42 := (hM9.a (by decide) (by decide)).trans J_49_5
    have e_59 : aF σ_s_53 (ad E a 43) = f43 := (hM9.a (by decide) (by decide)).trans J_49_6
    have e_60 : aF σ_s_53 (ad E a 45) = f45 := (hM9.a (by decide) (by decide)).trans J_49_8
    have e_61 : aF σ_s_53 (ad E a 39) = g_12 := (hM9.a (by decide) (by decide)).trans J_49_10
    have e_62 : aF σ_s_53 (ad E a 40) = g_24 := (hM9.a (by decide) (by decide)).trans J_49_11
    replace hO := hO9
    generalize ef_64 : aF σ_s_53 (ad E a 44) = g_63 at hw_52
    generalize ef_66 : aF σ_s_53 (ad E a 46) = g_65 at hw_52
    have hw_52 : z_54 = 150 * w + (f46 w.toNat).toInt ∧ cpx f44 g_63 f61 z_54 i (4 * mS f61 i) ∧ g_65 = upd f46 w.toNat (I ((f46 w.toNat).toInt + mS f61 i)) := hw_52
    have hm_67 : (g_65 w.toNat).toInt = (f46 w.toNat).toInt + mS f61 i := by rw [hw_52.2.2, upd_at, I_toInt ⟨by omega, by omega⟩]
    refine m_iast hx hb hK hH hS h00 hO h_a k13_42 isA1 (by decide) e_58 ⟨by omega, by omega⟩ (by omega) (by omega) rz_54 el1 dX11_addRow_84 (fun σ_s_68 H locs hO hF9 hM9 ha9 hH hS => ?_)
    replace hM := hM.tu hM9 (by decide)
    replace hF := hF.tu hF9 (by decide)
    have e_69 : gI σ_s_68 a 48 = a480 := (hM9.i (by decide)).trans e_55
    have e_70 : aF σ_s_68 (ad E a 1) = f1 := (hM9.a (by decide) (by decide)).trans e_56
    have e_71 : aF σ_s_68 (ad E a 61) = f61 := (hM9.a (by decide) (by decide)).trans e_57
    have e_72 : aF σ_s_68 (ad E a 43) = f43 := (hM9.a (by decide) (by decide)).trans e_59
    have e_73 : aF σ_s_68 (ad E a 45) = f45 := (hM9.a (by decide) (by decide)).trans e_60
    have e_74 : aF σ_s_68 (ad E a 39) = g_12 := (hM9.a (by decide) (by decide)).trans e_61
    have e_75 : aF σ_s_68 (ad E a 40) = g_24 := (hM9.a (by decide) (by decide)).trans e_62
    have e_76 : aF σ_s_68 (ad E a 44) = g_63 := (hM9.a (by decide) (by decide)).trans ef_64
    have e_77 : aF σ_s_68 (ad E a 46) = g_65 := (hM9.a (by decide) (by decide)).trans ef_66
    obtain ⟨g_78, dg_78⟩ : ∃ g9, g9 = upd f42 (130 * a480 + z_1).toNat (I z_54) := ⟨_, rfl⟩
    rw [← dg_78] at ha9
    have ef_79 := ha9
    refine lv_aload_n hx hb dX11_addRow_85 rfl (lv_at hl 0 rfl) ?_
    refine ok.getR hO h_a (by decide) k13_43 (by decide) (fun _ _ he hv kk => th_get (ci := 11) (C := RX11) (T := TX11) (N := 66) hx hb hts inX11 hown hK hH he rfl 43 (by decide) fl5 hv dX11_addRow_86 kk) ?_
    refine lv_iload hx hb dX11_addRow_89 (lv_at hl 6 rfl) ?_
    refine lv_aload_n hx hb dX11_addRow_91 rfl (lv_at hl 0 rfl) ?_
    refine lv_aload hx hb dX11_addRow_92 (lv_at hl 4 rfl) ?_
    refine lv_iload hx hb dX11_addRow_94 (lv_at hl 5 rfl) ?_
    obtain ⟨_, hc_80⟩ := hO.cell h_a (by decide) (ci := 11) rfl
    refine th_calli (va_runV (As := [.ref (ad E a 1), .int (I j)]) (rest := [.int (I (130 * a480 + z_1)), .ref (ad E a 43)]) ⟨hx, hb, hml, hown, hts⟩ (m_addN1 l G y b0 σ_s_68 E hO a h_a j (show rng j from rj) (by omega) (by omega)) (cwV 2 hts gX11_addRow_X11_addThings rfl rfl rfl (by decide +kernel) ⟨Nat.le_of_ble_eq_true rfl, Nat.le_of_ble_eq_true rfl⟩) (th_PV hK hH rfl hc_80) rfl rfl hl.1 rfl (lv_room (Nat.le_of_ble_eq_true rfl)) dX11_addRow_96 ⟨Nat.le_of_ble_eq_true rfl, Nat.le_of_ble_eq_true rfl⟩) hS (fun z_83 σ_s_82 H locs rz_83 hw_81 hH hS => ?_)
    obtain ⟨e9, hw_81⟩ := hw_81
    replace e9 := e9.symm
    subst e9
    have hw_81 : z_83 = -1 := hw_81
    refine m_iast hx hb hK hH hS h00 hO h_a k13_43 isA1 (by decide) e_72 ⟨by omega, by omega⟩ (by omega) (by omega) rz_83 el1 dX11_addRow_99 (fun σ_s_84 H locs hO hF9 hM9 ha9 hH hS => ?_)
    replace hM := hM.tu hM9 (by decide)
    replace hF := hF.tu hF9 (by decide)
    have e_85 : gI σ_s_84 a 48 = a480 := (hM9.i (by decide)).trans e_69
    have e_86 : aF σ_s_84 (ad E a 1) = f1 := (hM9.a (by decide) (by decide)).trans e_70
    have e_87 : aF σ_s_84 (ad E a 61) = f61 := (hM9.a (by decide) (by decide)).trans e_71
    have e_88 : aF σ_s_84 (ad E a 45) = f45 := (hM9.a (by decide) (by decide)).trans e_73
    have e_89 : aF σ_s_84 (ad E a 39) = g_12 := (hM9.a (by decide) (by decide)).trans e_74
    have e_90 : aF σ_s_84 (ad E a 40) = g_24 := (hM9.a (by decide) (by decide)).trans e_75
    have e_91 : aF σ_s_84 (ad E a 44) = g_63 := (hM9.a (by decide) (by decide)).trans e_76
    have e_92 : aF σ_s_84 (ad E a 46) = g_65 := (hM9.a (by decide) (by decide)).trans e_77
    have e_93 : aF σ_s_84 (ad E a 42) = g_78 := (hM9.a (by decide) (by decide)).trans ef_79
    obtain ⟨g_94, dg_94⟩ : ∃ g9, g9 = upd f43 (130 * a480 + z_1).toNat (I z_83) := ⟨_, rfl⟩
    rw [← dg_94] at ha9
    have ef_95 := ha9
    refine lv_aload_n hx hb dX11_addRow_100 rfl (lv_at hl 0 rfl) ?_
    refine ok.getR hO h_a (by decide) k13_45 (by decide) (fun _ _ he hv kk => th_get (ci := 11) (C := RX11) (T := TX11) (N := 66) hx hb hts inX11 hown hK hH he rfl 45 (by decide) fl1 hv dX11_addRow_101 kk) ?_
    refine lv_aload_n hx hb dX11_addRow_104 rfl (lv_at hl 0 rfl) ?_
    refine ok.getIc hO h_a (by decide) k13_48 e_85 (fun _ _ he hv kk => th_get (ci := 11) (C := RX11) (T := TX11) (N := 66) hx hb hts inX11 hown hK hH he rfl 48 (by decide) fl0 hv dX11_addRow_105 kk) ?_
    refine lv_dup2_11 hx hb dX11_addRow_108 rfl rfl ?_
    refine m_iald hx hb hK hH hO h_a k13_45 isA1 e_88 ra480 (by omega) (by omega) dX11_addRow_109 (fun z_96 ez_96 rz_96 elx9 => ?_)
    refine lv_iconst (v := I 1) hx hb dX11_addRow_110 (by decide) ?_
    have hzn2 : z_96 = z_1 := by have h9 := ez_96; rw [hw9] at h9; omega
    refine lv_iadd hx hb dX11_addRow_111 ?_
    refine nq_top (I_add _ _) ?_
    refine m_iast hx hb hK hH hS h00 hO h_a k13_45 isA1 (by decide) e_88 ra480 (by omega) (by omega) ⟨by omega, by omega⟩ el1 dX11_addRow_112 (fun σ_s_97 H locs hO hF9 hM9 ha9 hH hS => ?_)
    replace hM := hM.tu hM9 (by decide)
    replace hF := hF.tu hF9 (by decide)
    have e_98 : gI σ_s_97 a 48 = a480 := (hM9.i (by decide)).trans e_85
    have e_99 : aF σ_s_97 (ad E a 1) = f1 := (hM9.a (by decide) (by decide)).trans e_86
    have e_100 : aF σ_s_97 (ad E a 61) = f61 := (hM9.a (by decide) (by decide)).trans e_87
    have e_101 : aF σ_s_97 (ad E a 39) = g_12 := (hM9.a (by decide) (by decide)).trans e_89
    have e_102 : aF σ_s_97 (ad E a 40) = g_24 := (hM9.a (by decide) (by decide)).trans e_90
    have e_103 : aF σ_s_97 (ad E a 44) = g_63 := (hM9.a (by decide) (by decide)).trans e_91
    have e_104 : aF σ_s_97 (ad E a 46) = g_65 := (hM9.a (by decide) (by decide)).trans e_92
    have e_105 : aF σ_s_97 (ad E a 42) = g_78 := (hM9.a (by decide) (by decide)).trans e_93
    have e_106 : aF σ_s_97 (ad E a 43) = g_94 := (hM9.a (by decide) (by decide)).trans ef_95
    obtain ⟨g_107, dg_107⟩ : ∃ g9, g9 = upd f45 (a480).toNat (I (z_96 + 1)) := ⟨_, rfl⟩
    rw [← dg_107] at ha9
    have ef_108 := ha9
    exact th_vret hx hb hr hlocks hH hS ⟨hO, hF, hM, by rw [show aF σ_s_97 (ad E a 39) = g_12 from e_101, show aF σ_s_97 (ad E a 40) = g_24 from e_102, show aF σ_s_97 (ad E a 42) = g_78 from e_105, show aF σ_s_97 (ad E a 43) = g_94 from e_106, show aF σ_s_97 (ad E a 44) = g_63 from e_103, show aF σ_s_97 (ad E a 45) = g_107 from ef_108, show aF σ_s_97 (ad E a 46) = g_65 from e_104]; have ht := cpx.thing (w := w) (m2 := (f46 w.toNat).toInt + mS f61 i) hw_52.2.1 hy5 rfl (by omega) (by omega) (by omega) (by omega) (by omega) (by omega); have hs9 : same f44 g_63 (150 * w) (150 * w + (f46 w.toNat).toInt) 0 := hw_52.2.1.low2 (by omega) (by omega); have hw8 : wt g_63 z_54 + wt g_63 (-1) ≤ mS f61 i := (by rw [wt_pos (by omega), wt_neg, ht.2]; omega); have hR := row_add (A := z_54) (B := -1) (K := kd) (D := dp) (x := (130 * a480 + z_1).toNat) (m2 := (f46 w.toNat).toInt + (mS f61 i)) hyr dg_12 dg_24 dg_78 (upd_to dg_94 rfl (show _ = (-1 : Int) by omega)) (by omega) (by omega) (by omega) (by omega) (Or.inr ht.1) (Or.inl rfl) (by omega) (by omega) hs9 (by omega) (by omega) (by omega) (by omega) rz_54 ⟨by decide, by decide⟩; exact ⟨hR, upd_get dg_107 (by rw [hw9]) (by first | exact ⟨by omega, by omega⟩) |>.trans (by omega), hm_67, hlf.rf.up dg_12 (by omega) (by omega), hlf.rf.up dg_24 (by omega) (by omega), hlf.rf.up dg_78 (by omega) (by omega), hlf.rf.up dg_94 (by omega) (by omega), hlf.rf.cp hw_52.2.1 (by omega) (by omega) (by omega), hlf.rf.up dg_107 (by omega) (by omega), hlf.rf.up hw_52.2.2 (by omega) (by omega)⟩⟩ dX11_addRow_113
  · replace c_50 := mt (I_le (a := dp) (b := v8q48) rdp rv8q48).mpr c_50
    refine lv_aload_n hx hb dX11_addRow_45 rfl (lv_at hl 0 rfl) ?_
    refine ok.getR hO h_a (by decide) k13_41 (by decide) (fun _ _ he hv kk => th_get (ci := 11) (C := RX11) (T := TX11) (N := 66) hx hb hts inX11 hown hK hH he rfl 41 (by decide) fl6 hv dX11_addRow_46 kk) ?_
    refine lv_bipush (v := I 8) hx hb dX11_addRow_49 (by decide) ?_
    refine lv_iload hx hb dX11_addRow_51 (lv_at hl 6 rfl) ?_
    refine lv_imul hx hb dX11_addRow_53 ?_
    refine nq_top (I_mul _ _) ?_
    refine lv_iload hx hb dX11_addRow_54 (lv_at hl 7 rfl) ?_
    refine lv_iadd hx hb dX11_addRow_56 ?_
    refine th_addo (fun z_109 rz_109 hz_109 => ?_)
    refine lv_aload_n hx hb dX11_addRow_57 rfl (lv_at hl 0 rfl) ?_
    refine ok.getR hO h_a (by decide) k13_47 (by decide) (fun _ _ he hv kk => th_get (ci := 11) (C := RX11) (T := TX11) (N := 66) hx hb hts inX11 hown hK hH he rfl 47 (by decide) fl7 hv dX11_addRow_58 kk) ?_
    refine lv_iload hx hb dX11_addRow_61 (lv_at hl 7 rfl) ?_
    obtain ⟨f_111, ef_112⟩ : ∃ f9, aF σ_J_49 (ad E a 47) = f9 := ⟨_, rfl⟩
    refine m_iald hx hb hK hH hO h_a k13_47 isA1 ef_112 rv8q48 (by omega) (by omega) dX11_addRow_63 (fun z_110 ez_110 rz_110 elx9 => ?_)
    obtain ⟨f_114, ef_115⟩ : ∃ f9, aF σ_J_49 (ad E a 41) = f9 := ⟨_, rfl⟩
    refine m_iast hx hb hK hH hS h00 hO h_a k13_41 isA1 (by decide) ef_115 rz_109 (by omega) (by omega) rz_110 el1 dX11_addRow_64 (fun σ_s_113 H locs hO hF9 hM9 ha9 hH hS => ?_)
    replace hM := hM.tu hM9 (by decide)
    replace hF := hF.tu hF9 (by decide)
    have e_116 : gI σ_s_113 a 48 = a480 := (hM9.i (by decide)).trans J_49_2
    have e_117 : aF σ_s_113 (ad E a 1) = f1 := (hM9.a (by decide) (by decide)).trans J_49_3
    have e_118 : aF σ_s_113 (ad E a 61) = f61 := (hM9.a (by decide) (by decide)).trans J_49_4
    have e_119 : aF σ_s_113 (ad E a 42) = f42 := (hM9.a (by decide) (by decide)).trans J_49_5
    have e_120 : aF σ_s_113 (ad E a 43) = f43 := (hM9.a (by decide) (by decide)).trans J_49_6
    have e_121 : aF σ_s_113 (ad E a 44) = f44 := (hM9.a (by decide) (by decide)).trans J_49_7
    have e_122 : aF σ_s_113 (ad E a 45) = f45 := (hM9.a (by decide) (by decide)).trans J_49_8
    have e_123 : aF σ_s_113 (ad E a 46) = f46 := (hM9.a (by decide) (by decide)).trans J_49_9
    have e_124 : aF σ_s_113 (ad E a 39) = g_12 := (hM9.a (by decide) (by decide)).trans J_49_10
    have e_125 : aF σ_s_113 (ad E a 40) = g_24 := (hM9.a (by decide) (by decide)).trans J_49_11
    have e_126 : aF σ_s_113 (ad E a 47) = f_111 := (hM9.a (by decide) (by decide)).trans ef_112
    obtain ⟨g_127, dg_127⟩ : ∃ g9, g9 = upd f_114 (z_109).toNat (I z_110) := ⟨_, rfl⟩
    rw [← dg_127] at ha9
    have ef_128 := ha9
    refine lv_iinc (v := I (v8q48 + 1)) (lv' := [(8, .int (I (v8q48 + 1))), (0, .ref a), (2, .int (I dp)), (3, .ref (ad E a 61)), (4, .int (I i)), (5, .ref (ad E a 1)), (6, .int (I j)), (7, .int (I (130 * a480 + z_1)))]) hx hb dX11_addRow_65 hl (k := 7) rfl (I_add _ _) (by decide) rfl (fun ls hl => ?_)
    refine lv_goto (tgt := 39) hx hb dX11_addRow_68 (by decide) ?_
    exact ihJ_49 (v8q48 + 1) σ_s_113 _ _ _ (by first | (dsimp only; omega) | omega) ⟨hO, hF, hM, hH, hS, lv_sub hl [1, 2, 3, 4, 5, 6, 7, 0] rfl, ⟨by first | (dsimp only; omega) | omega, by first | (dsimp only; omega) | omega⟩, by first | (dsimp only; omega) | omega, by first | (dsimp only; omega) | omega, e_116, e_117, e_118, e_119, e_120, e_121, e_122, e_123, e_124, e_125⟩

set_option maxHeartbeats 4000000 in
set_option maxRecDepth 100000 in
theorem m_rowC (l : Launch) (G : va_G) (y : Nat → ClassId) (b0 : Nat) (σ : th_M) (E : th_E) (hO : ok y E σ) (a : Nat) (h_a : kd E a = 13) (kd : Int) (rkd : rng kd) (l_kd : 1 ≤ kd) (u_kd : kd ≤ 1) (dp : Int) (rdp : rng dp) (l_dp : 1 ≤ dp) (u_dp : dp ≤ 8) (i : Int) (ri : rng i) (l_i : -1 ≤ i) (u_i : i ≤ -1) (j : Int) (rj : rng j) (l_j : 0 ≤ j) (u_j : j ≤ 59) (w : Int) (f1 : Nat → Int32) (ef1 : aF σ (ad E a 1) = f1) (f61 : Nat → Int32) (ef61 : aF σ (ad E a 61) = f61) (f39 : Nat → Int32) (ef39 : aF σ (ad E a 39) = f39) (f40 : Nat → Int32) (ef40 : aF σ (ad E a 40) = f40) (f42 : Nat → Int32) (ef42 : aF σ (ad E a 42) = f42) (f43 : Nat → Int32) (ef43 : aF σ (ad E a 43) = f43) (f44 : Nat → Int32) (ef44 : aF σ (ad E a 44) = f44) (f45 : Nat → Int32) (ef45 : aF σ (ad E a 45) = f45) (f46 : Nat → Int32) (ef46 : aF σ (ad E a 46) = f46) (hy0 : gI σ a 48 = w) (hy1 : 0 ≤ w ∧ w ≤ 1) (hy2 : rws w f39 f40 f42 f43 f44 (f45 w.toNat).toInt (f46 w.toNat).toInt) (hy3 : 0 ≤ (f45 w.toNat).toInt ∧ (f45 w.toNat).toInt < 130) (hy4 : 0 ≤ (f46 w.toNat).toInt ∧ (f46 w.toNat).toInt + mS f1 j ≤ 150) (hy5 : mT f1 j (j + mS f1 j)) (hy6 : 1 ≤ mS f1 j ∧ mS f1 j ≤ 60 ∧ j + mS f1 j ≤ 60) : Met l yX11_addRow wsX11_addRow ({ frames := 2, cells := 0, slots := 0, locals := 53 }) (th_P G y b0 σ [.ref a, .int (I kd), .int (I dp), .ref (ad E a 61), .int (I i), .ref (ad E a 1), .int (I j)]) (th_Qv G b0 (fun σ1 => ok y E σ1 ∧ fr [13] E σ σ1 ∧ fm [39, 40, 41, 42, 43, 44, 45, 46] E σ σ1 a ∧ (rws w (aF σ1 (ad E a 39)) (aF σ1 (ad E a 40)) (aF σ1 (ad E a 42)) (aF σ1 (ad E a 43)) (aF σ1 (ad E a 44)) ((f45 w.toNat).toInt + 1) ((f46 w.toNat).toInt + mS f1 j) ∧ ((aF σ1 (ad E a 45)) w.toNat).toInt = (f45 w.toNat).toInt + 1 ∧ ((aF σ1 (ad E a 46)) w.toNat).toInt = (f46 w.toNat).toInt + mS f1 j ∧ hall w f39 f40 f42 f43 f44 f45 f46 (aF σ1 (ad E a 39)) (aF σ1 (ad E a 40)) (aF σ1 (ad E a 42)) (aF σ1 (ad E a 43)) (aF σ1 (ad E a 44)) (aF σ1 (ad E a 45)) (aF σ1 (ad E a 46))))) 0 0 (th_A b0) := by
  refine Met.ofW (cc := cX11_addRow) (maxL := 9) (ret := none) (by decide) rfl ?_
  intro p e s m args below meth c s₁ B hml hv
  obtain ⟨rfl, hH, hK⟩ := hv
  have hx := B.exec
  have hb := B.bytes
  have hr := B.returns
  have hts := atoms_spec (ws := wsX11_addRow) B.pre
  have hown : s.vm.findClass RX11 = some m.cls := findClass_of_methodNamed B.named
  have hlocks := B.notSynchronized
  have h00 : b0 ≤ s.heap.size := hH.1
  have hS : va_S (th_A b0) s.heap s.heap [] := va_S.rf
  have hF : fr [13] E σ σ := fr.rf
  have hM : fm [39, 40, 41, 42, 43, 44, 45, 46] E σ σ a := fm.rf
  have inX11 : ∀ w ∈ wsX110, w ∈ wsX11_addRow := by decide +kernel
  have fl0 := hts (.fieldLink RX11 438 "NestQueryModel" "which" "I") (by decide +kernel)
  have fl1 := hts (.fieldLink RX11 69 "NestQueryModel" "rowsMany" "[I") (by decide +kernel)
  have fl2 := hts (.fieldLink RX11 51 "NestQueryModel" "rowKind" "[I") (by decide +kernel)
  have fl3 := hts (.fieldLink RX11 54 "NestQueryModel" "rowSteps" "[I") (by decide +kernel)
  have fl4 := hts (.fieldLink RX11 60 "NestQueryModel" "rowWas" "[I") (by decide +kernel)
  have fl5 := hts (.fieldLink RX11 63 "NestQueryModel" "rowIs" "[I") (by decide +kernel)
  have fl6 := hts (.fieldLink RX11 57 "NestQueryModel" "rowPath" "[I") (by decide +kernel)
  have fl7 := hts (.fieldLink RX11 75 "NestQueryModel" "way" "[I") (by decide +kernel)
  have hl := lv_entry ([.ref a, .int (I kd), .int (I dp), .ref (ad E a 61), .int (I i), .ref (ad E a 1), .int (I j)]) (n := 9) (Nat.le_of_ble_eq_true rfl)
  rw [lg_entry_eq]
  generalize (lg_sl ([.ref a, .int (I kd), .int (I dp), .ref (ad E a 61), .int (I i), .ref (ad E a 1), .int (I j)]) ++ List.replicate (9 - (lg_sl ([.ref a, .int (I kd), .int (I dp), .ref (ad E a 61), .int (I i), .ref (ad E a 1), .int (I j)])).length) Slot.unset).toArray = ls at hl ⊢
  have hl : lv_has ls 9 [(0, .ref a), (1, .int (I kd)), (2, .int (I dp)), (3, .ref (ad E a 61)), (4, .int (I i)), (5, .ref (ad E a 1)), (6, .int (I j))] := hl
  obtain ⟨a480, ea480, ra480, la480, ua480⟩ := hO.gi h_a (by decide) k13_48
  have hw9 : a480 = w := by omega
  have hyr := hy2
  refine lv_sipush (v := I 130) hx hb dX11_addRow_0 (by decide) ?_
  refine lv_aload_n hx hb dX11_addRow_3 rfl (lv_at hl 0 rfl) ?_
  refine ok.getIc hO h_a (by decide) k13_48 ea480 (fun _ _ he hv kk => th_get (ci := 11) (C := RX11) (T := TX11) (N := 66) hx hb hts inX11 hown hK hH he rfl 48 (by decide) fl0 hv dX11_addRow_4 kk) ?_
  refine lv_imul hx hb dX11_addRow_7 ?_
  refine nq_top (I_mul _ _) ?_
  refine lv_aload_n hx hb dX11_addRow_8 rfl (lv_at hl 0 rfl) ?_
  refine ok.getR hO h_a (by decide) k13_45 (by decide) (fun _ _ he hv kk => th_get (ci := 11) (C := RX11) (T := TX11) (N := 66) hx hb hts inX11 hown hK hH he rfl 45 (by decide) fl1 hv dX11_addRow_9 kk) ?_
  refine lv_aload_n hx hb dX11_addRow_12 rfl (lv_at hl 0 rfl) ?_
  refine ok.getIc hO h_a (by decide) k13_48 ea480 (fun _ _ he hv kk => th_get (ci := 11) (C := RX11) (T := TX11) (N := 66) hx hb hts inX11 hown hK hH he rfl 48 (by decide) fl0 hv dX11_addRow_13 kk) ?_
  refine m_iald hx hb hK hH hO h_a k13_45 isA1 ef45 ra480 (by omega) (by omega) dX11_addRow_16 (fun z_1 ez_1 rz_1 elx9 => ?_)
  have hzn : (f45 w.toNat).toInt = z_1 := by rw [← hw9]; exact ez_1
  refine lv_iadd hx hb dX11_addRow_17 ?_
  refine nq_top (I_add _ _) ?_
  refine lv_istore (lv' := [(7, .int (I (130 * a480 + z_1))), (0, .ref a), (1, .int (I kd)), (2, .int (I dp)), (3, .ref (ad E a 61)), (4, .int (I i)), (5, .ref (ad E a 1)), (6, .int (I j))]) hx hb dX11_addRow_18 hl (by decide) rfl (fun ls hl => ?_)
  refine lv_aload_n hx hb dX11_addRow_20 rfl (lv_at hl 1 rfl) ?_
  refine ok.getR hO h_a (by decide) k13_39 (by decide) (fun _ _ he hv kk => th_get (ci := 11) (C := RX11) (T := TX11) (N := 66) hx hb hts inX11 hown hK hH he rfl 39 (by decide) fl2 hv dX11_addRow_21 kk) ?_
  refine lv_iload hx hb dX11_addRow_24 (lv_at hl 0 rfl) ?_
  refine lv_iload_n hx hb dX11_addRow_26 rfl (lv_at hl 2 rfl) ?_
  refine m_iast hx hb hK hH hS h00 hO h_a k13_39 isA1 (by decide) ef39 ⟨by omega, by omega⟩ (by omega) (by omega) rkd el1 dX11_addRow_27 (fun σ_s_2 H locs hO hF9 hM9 ha9 hH hS => ?_)
  replace hM := hM.tu hM9 (by decide)
  replace hF := hF.tu hF9 (by decide)
  have e_3 : aF σ_s_2 (ad E a 1) = f1 := (hM9.a (by decide) (by decide)).trans ef1
  have e_4 : aF σ_s_2 (ad E a 61) = f61 := (hM9.a (by decide) (by decide)).trans ef61
  have e_5 : aF σ_s_2 (ad E a 40) = f40 := (hM9.a (by decide) (by decide)).trans ef40
  have e_6 : aF σ_s_2 (ad E a 42) = f42 := (hM9.a (by decide) (by decide)).trans ef42
  have e_7 : aF σ_s_2 (ad E a 43) = f43 := (hM9.a (by decide) (by decide)).trans ef43
  have e_8 : aF σ_s_2 (ad E a 44) = f44 := (hM9.a (by decide) (by decide)).trans ef44
  have e_9 : aF σ_s_2 (ad E a 45) = f45 := (hM9.a (by decide) (by decide)).trans ef45
  have e_10 : aF σ_s_2 (ad E a 46) = f46 := (hM9.a (by decide) (by decide)).trans ef46
  have e_11 : gI σ_s_2 a 48 = a480 := (hM9.i (by decide)).trans ea480
  obtain ⟨g_12, dg_12⟩ : ∃ g9, g9 = upd f39 (130 * a480 + z_1).toNat (I kd) := ⟨_, rfl⟩
  rw [← dg_12] at ha9
  have ef_13 := ha9
  refine lv_aload_n hx hb dX11_addRow_28 rfl (lv_at hl 1 rfl) ?_
  refine ok.getR hO h_a (by decide) k13_40 (by decide) (fun _ _ he hv kk => th_get (ci := 11) (C := RX11) (T := TX11) (N := 66) hx hb hts inX11 hown hK hH he rfl 40 (by decide) fl3 hv dX11_addRow_29 kk) ?_
  refine lv_iload hx hb dX11_addRow_32 (lv_at hl 0 rfl) ?_
  refine lv_iload_n hx hb dX11_addRow_34 rfl (lv_at hl 3 rfl) ?_
  refine m_iast hx hb hK hH hS h00 hO h_a k13_40 isA1 (by decide) e_5 ⟨by omega, by omega⟩ (by omega) (by omega) rdp el1 dX11_addRow_35 (fun σ_s_14 H locs hO hF9 hM9 ha9 hH hS => ?_)
  replace hM := hM.tu hM9 (by decide)
  replace hF := hF.tu hF9 (by decide)
  have e_15 : aF σ_s_14 (ad E a 1) = f1 := (hM9.a (by decide) (by decide)).trans e_3
  have e_16 : aF σ_s_14 (ad E a 61) = f61 := (hM9.a (by decide) (by decide)).trans e_4
  have e_17 : aF σ_s_14 (ad E a 42) = f42 := (hM9.a (by decide) (by decide)).trans e_6
  have e_18 : aF σ_s_14 (ad E a 43) = f43 := (hM9.a (by decide) (by decide)).trans e_7
  have e_19 : aF σ_s_14 (ad E a 44) = f44 := (hM9.a (by decide) (by decide)).trans e_8
  have e_20 : aF σ_s_14 (ad E a 45) = f45 := (hM9.a (by decide) (by decide)).trans e_9
  have e_21 : aF σ_s_14 (ad E a 46) = f46 := (hM9.a (by decide) (by decide)).trans e_10
  have e_22 : gI σ_s_14 a 48 = a480 := (hM9.i (by decide)).trans e_11
  have e_23 : aF σ_s_14 (ad E a 39) = g_12 := (hM9.a (by decide) (by decide)).trans ef_13
  obtain ⟨g_24, dg_24⟩ : ∃ g9, g9 = upd f40 (130 * a480 + z_1).toNat (I dp) := ⟨_, rfl⟩
  rw [← dg_24] at ha9
  have ef_25 := ha9
  refine lv_iconst (v := I 0) hx hb dX11_addRow_36 (by decide) ?_
  refine lv_istore (lv' := [(8, .int (I 0)), (7, .int (I (130 * a480 + z_1))), (0, .ref a), (1, .int (I kd)), (2, .int (I dp)), (3, .ref (ad E a 61)), (4, .int (I i)), (5, .ref (ad E a 1)), (6, .int (I j))]) hx hb dX11_addRow_37 hl (by decide) rfl (fun ls hl => ?_)
  replace hl : lv_has ls 9 [(8, .int (I 0)), (7, .int (I (130 * a480 + z_1))), (0, .ref a), (2, .int (I dp)), (3, .ref (ad E a 61)), (4, .int (I i)), (5, .ref (ad E a 1)), (6, .int (I j))] := lv_sub hl [0, 1, 2, 4, 5, 6, 7, 8] rfl
  refine th_loop (α := Int) (pc := 39) (fun x9 => (dp - x9).toNat) (fun x9 σ9 H9 l9 ls9 => ok y E σ9 ∧ fr [13] E σ σ9 ∧ fm [39, 40, 41, 42, 43, 44, 45, 46] E σ σ9 a ∧ th_H G b0 σ9 H9 ∧ va_S (th_A b0) s.heap H9 l9 ∧ lv_has ls9 9 [(0, .ref a), (2, .int (I dp)), (3, .ref (ad E a 61)), (4, .int (I i)), (5, .ref (ad E a 1)), (6, .int (I j)), (7, .int (I (130 * a480 + z_1))), (8, .int (I x9))] ∧ rng x9 ∧ (0 ≤ x9) ∧ (x9 ≤ 8) ∧ (gI σ9 a 48 = a480) ∧ (aF σ9 (ad E a 1) = f1) ∧ (aF σ9 (ad E a 61) = f61) ∧ (aF σ9 (ad E a 42) = f42) ∧ (aF σ9 (ad E a 43) = f43) ∧ (aF σ9 (ad E a 44) = f44) ∧ (aF σ9 (ad E a 45) = f45) ∧ (aF σ9 (ad E a 46) = f46) ∧ (aF σ9 (ad E a 39) = g_12) ∧ (aF σ9 (ad E a 40) = g_24)) ?_ (0) σ_s_14 _ _ _ ⟨hO, hF, hM, hH, hS, lv_sub hl [2, 3, 4, 5, 6, 7, 1, 0] rfl, (show rng 0 from ⟨by decide, by decide⟩), by first | (dsimp only; omega) | omega, by first | (dsimp only; omega) | omega, e_22, e_15, e_16, e_17, e_18, e_19, e_20, e_21, e_23, ef_25⟩
  intro x9 σ_J_49 H locs ls hI9 ihJ_49
  obtain ⟨v8q48, ex9⟩ : ∃ z, z = x9 := ⟨_, rfl⟩
  subst ex9
  obtain ⟨hO, hF, hM, hH, hS, hl, rv8q48, J_49_0, J_49_1, J_49_2, J_49_3, J_49_4, J_49_5, J_49_6, J_49_7, J_49_8, J_49_9, J_49_10, J_49_11⟩ := hI9
  have hl : lv_has ls 9 [(0, .ref a), (2, .int (I dp)), (3, .ref (ad E a 61)), (4, .int (I i)), (5, .ref (ad E a 1)), (6, .int (I j)), (7, .int (I (130 * a480 + z_1))), (8, .int (I v8q48))] := hl
  have rv8q48 : rng v8q48 := rv8q48
  have J_49_0 : 0 ≤ v8q48 := J_49_0
  have J_49_1 : v8q48 ≤ 8 := J_49_1
  have J_49_2 : gI σ_J_49 a 48 = a480 := J_49_2
  have J_49_3 : aF σ_J_49 (ad E a 1) = f1 := J_49_3
  have J_49_4 : aF σ_J_49 (ad E a 61) = f61 := J_49_4
  have J_49_5 : aF σ_J_49 (ad E a 42) = f42 := J_49_5
  have J_49_6 : aF σ_J_49 (ad E a 43) = f43 := J_49_6
  have J_49_7 : aF σ_J_49 (ad E a 44) = f44 := J_49_7
  have J_49_8 : aF σ_J_49 (ad E a 45) = f45 := J_49_8
  have J_49_9 : aF σ_J_49 (ad E a 46) = f46 := J_49_9
  have J_49_10 : aF σ_J_49 (ad E a 39) = g_12 := J_49_10
  have J_49_11 : aF σ_J_49 (ad E a 40) = g_24 := J_49_11
  refine lv_iload hx hb dX11_addRow_39 (lv_at hl 7 rfl) ?_
  refine lv_iload_n hx hb dX11_addRow_41 rfl (lv_at hl 1 rfl) ?_
  refine lv_icmp_ge (tgt := 71) hx hb dX11_addRow_42 (by decide) (fun c_50 => ?_) (fun c_50 => ?_)
  · replace c_50 := (I_le (a := dp) (b := v8q48) rdp rv8q48).mp c_50
    refine lv_aload_n hx hb dX11_addRow_71 rfl (lv_at hl 0 rfl) ?_
    refine ok.getR hO h_a (by decide) k13_42 (by decide) (fun _ _ he hv kk => th_get (ci := 11) (C := RX11) (T := TX11) (N := 66) hx hb hts inX11 hown hK hH he rfl 42 (by decide) fl4 hv dX11_addRow_72 kk) ?_
    refine lv_iload hx hb dX11_addRow_75 (lv_at hl 6 rfl) ?_
    refine lv_aload_n hx hb dX11_addRow_77 rfl (lv_at hl 0 rfl) ?_
    refine lv_aload_n hx hb dX11_addRow_78 rfl (lv_at hl 2 rfl) ?_
    refine lv_iload hx hb dX11_addRow_79 (lv_at hl 3 rfl) ?_
    obtain ⟨_, hc_51⟩ := hO.cell h_a (by decide) (ci := 11) rfl
    refine th_calli (va_runV (As := [.ref (ad E a 61), .int (I i)]) (rest := [.int (I (130 * a480 + z_1)), .ref (ad E a 42)]) ⟨hx, hb, hml, hown, hts⟩ (m_addN61 l G y b0 σ_J_49 E hO a h_a i (show rng i from ri) (by omega) (by omega)) (cwV 2 hts gX11_addRow_X11_addThings rfl rfl rfl (by decide +kernel) ⟨Nat.le_of_ble_eq_true rfl, Nat.le_of_ble_eq_true rfl⟩) (th_PV hK hH rfl hc_51) rfl rfl hl.1 rfl (lv_room (Nat.le_of_ble_eq_true rfl)) dX11_addRow_81 ⟨Nat.le_of_ble_eq_true rfl, Nat.le_of_ble_eq_true rfl⟩) hS (fun z_54 σ_s_53 H locs rz_54 hw_52 hH hS => ?_)
    obtain ⟨e9, hw_52⟩ := hw_52
    replace e9 := e9.symm
    subst e9
    have hw_52 : z_54 = -1 := hw_52
    refine m_iast hx hb hK hH hS h00 hO h_a k13_42 isA1 (by decide) J_49_5 ⟨by omega, by omega⟩ (by omega) (by omega) rz_54 el1 dX11_addRow_84 (fun σ_s_55 H locs hO hF9 hM9 ha9 hH hS => ?_)
    replace hM := hM.tu hM9 (by decide)
    replace hF := hF.tu hF9 (by decide)
    have e_56 : gI σ_s_55 a 48 = a480 := (hM9.i (by decide)).trans J_49_2
    have e_57 : aF σ_s_55 (ad E a 1) = f1 := (hM9.a (by decide) (by decide)).trans J_49_3
    have e_58 : aF σ_s_55 (ad E a 61) = f61 := (hM9.a (by decide) (by decide)).trans J_49_4
    have e_59 : aF σ_s_55 (ad E a 43) = f43 := (hM9.a (by decide) (by decide)).trans J_49_6
    have e_60 : aF σ_s_55 (ad E a 44) = f44 := (hM9.a (by decide) (by decide)).trans J_49_7
    have e_61 : aF σ_s_55 (ad E a 45) = f45 := (hM9.a (by decide) (by decide)).trans J_49_8
    have e_62 : aF σ_s_55 (ad E a 46) = f46 := (hM9.a (by decide) (by decide)).trans J_49_9
    have e_63 : aF σ_s_55 (ad E a 39) = g_12 := (hM9.a (by decide) (by decide)).trans J_49_10
    have e_64 : aF σ_s_55 (ad E a 40) = g_24 := (hM9.a (by decide) (by decide)).trans J_49_11
    obtain ⟨g_65, dg_65⟩ : ∃ g9, g9 = upd f42 (130 * a480 + z_1).toNat (I z_54) := ⟨_, rfl⟩
    rw [← dg_65] at ha9
    have ef_66 := ha9
    refine lv_aload_n hx hb dX11_addRow_85 rfl (lv_at hl 0 rfl) ?_
    refine ok.getR hO h_a (by decide) k13_43 (by decide) (fun _ _ he hv kk => th_get (ci := 11) (C := RX11) (T := TX11) (N := 66) hx hb hts inX11 hown hK hH he rfl 43 (by decide) fl5 hv dX11_addRow_86 kk) ?_
    refine lv_iload hx hb dX11_addRow_89 (lv_at hl 6 rfl) ?_
    refine lv_aload_n hx hb dX11_addRow_91 rfl (lv_at hl 0 rfl) ?_
    refine lv_aload hx hb dX11_addRow_92 (lv_at hl 4 rfl) ?_
    refine lv_iload hx hb dX11_addRow_94 (lv_at hl 5 rfl) ?_
    obtain ⟨_, hc_67⟩ := hO.cell h_a (by decide) (ci := 11) rfl
    refine th_calli (va_runV (As := [.ref (ad E a 1), .int (I j)]) (rest := [.int (I (130 * a480 + z_1)), .ref (ad E a 43)]) ⟨hx, hb, hml, hown, hts⟩ (m_add1 l G y b0 σ_s_55 E hO a h_a j (show rng j from rj) (by omega) (by omega) w f1 e_57 f44 e_60 f46 e_62 (by omega) (by omega) (by omega) (by omega)) (cwV 2 hts gX11_addRow_X11_addThings rfl rfl rfl (by decide +kernel) ⟨Nat.le_of_ble_eq_true rfl, Nat.le_of_ble_eq_true rfl⟩) (th_PV hK hH rfl hc_67) rfl rfl hl.1 rfl (lv_room (Nat.le_of_ble_eq_true rfl)) dX11_addRow_96 ⟨Nat.le_of_ble_eq_true rfl, Nat.le_of_ble_eq_true rfl⟩) hS (fun z_70 σ_s_69 H locs rz_70 hw_68 hH hS => ?_)
    obtain ⟨hO9, hF9, hM9, hw_68⟩ := hw_68
    replace hM := hM.tu hM9 (by decide)
    replace hF := hF.tu hF9 (by decide)
    have e_71 : gI σ_s_69 a 48 = a480 := (hM9.i (by decide)).trans e_56
    have e_72 : aF σ_s_69 (ad E a 1) = f1 := (hM9.a (by decide) (by decide)).trans e_57
    have e_73 : aF σ_s_69 (ad E a 61) = f61 := (hM9.a (by decide) (by decide)).trans e_58
    have e_74 : aF σ_s_69 (ad E a 43) = f43 := (hM9.a (by decide) (by decide)).trans e_59
    have e_75 : aF σ_s_69 (ad E a 45) = f45 := (hM9.a (by decide) (by decide)).trans e_61
    have e_76 : aF σ_s_69 (ad E a 39) = g_12 := (hM9.a (by decide) (by decide)).trans e_63
    have e_77 : aF σ_s_69 (ad E a 40) = g_24 := (hM9.a (by decide) (by decide)).trans e_64
    have e_78 : aF σ_s_69 (ad E a 42) = g_65 := (hM9.a (by decide) (by decide)).trans ef_66
    replace hO := hO9
    generalize ef_80 : aF σ_s_69 (ad E a 44) = g_79 at hw_68
    generalize ef_82 : aF σ_s_69 (ad E a 46) = g_81 at hw_68
    have hw_68 : z_70 = 150 * w + (f46 w.toNat).toInt ∧ cpx f44 g_79 f1 z_70 j (4 * mS f1 j) ∧ g_81 = upd f46 w.toNat (I ((f46 w.toNat).toInt + mS f1 j)) := hw_68
    have hm_83 : (g_81 w.toNat).toInt = (f46 w.toNat).toInt + mS f1 j := (by rw [hw_68.2.2, upd_at, I_toInt ⟨by omega, by omega⟩])
    refine m_iast hx hb hK hH hS h00 hO h_a k13_43 isA1 (by decide) e_74 ⟨by omega, by omega⟩ (by omega) (by omega) rz_70 el1 dX11_addRow_99 (fun σ_s_84 H locs hO hF9 hM9 ha9 hH hS => ?_)
    replace hM := hM.tu hM9 (by decide)
    replace hF := hF.tu hF9 (by decide)
    have e_85 : gI σ_s_84 a 48 = a480 := (hM9.i (by decide)).trans e_71
    have e_86 : aF σ_s_84 (ad E a 1) = f1 := (hM9.a (by decide) (by decide)).trans e_72
    have e_87 : aF σ_s_84 (ad E a 61) = f61 := (hM9.a (by decide) (by decide)).trans e_73
    have e_88 : aF σ_s_84 (ad E a 45) = f45 := (hM9.a (by decide) (by decide)).trans e_75
    have e_89 : aF σ_s_84 (ad E a 39) = g_12 := (hM9.a (by decide) (by decide)).trans e_76
    have e_90 : aF σ_s_84 (ad E a 40) = g_24 := (hM9.a (by decide) (by decide)).trans e_77
    have e_91 : aF σ_s_84 (ad E a 42) = g_65 := (hM9.a (by decide) (by decide)).trans e_78
    have e_92 : aF σ_s_84 (ad E a 44) = g_79 := (hM9.a (by decide) (by decide)).trans ef_80
    have e_93 : aF σ_s_84 (ad E a 46) = g_81 := (hM9.a (by decide) (by decide)).trans ef_82
    obtain ⟨g_94, dg_94⟩ : ∃ g9, g9 = upd f43 (130 * a480 + z_1).toNat (I z_70) := ⟨_, rfl⟩
    rw [← dg_94] at ha9
    have ef_95 := ha9
    refine lv_aload_n hx hb dX11_addRow_100 rfl (lv_at hl 0 rfl) ?_
    refine ok.getR hO h_a (by decide) k13_45 (by decide) (fun _ _ he hv kk => th_get (ci := 11) (C := RX11) (T := TX11) (N := 66) hx hb hts inX11 hown hK hH he rfl 45 (by decide) fl1 hv dX11_addRow_101 kk) ?_
    refine lv_aload_n hx hb dX11_addRow_104 rfl (lv_at hl 0 rfl) ?_
    refine ok.getIc hO h_a (by decide) k13_48 e_85 (fun _ _ he hv kk => th_get (ci := 11) (C := RX11) (T := TX11) (N := 66) hx hb hts inX11 hown hK hH he rfl 48 (by decide) fl0 hv dX11_addRow_105 kk) ?_
    refine lv_dup2_11 hx hb dX11_addRow_108 rfl rfl ?_
    refine m_iald hx hb hK hH hO h_a k13_45 isA1 e_88 ra480 (by omega) (by omega) dX11_addRow_109 (fun z_96 ez_96 rz_96 elx9 => ?_)
    refine lv_iconst (v := I 1) hx hb dX11_addRow_110 (by decide) ?_
    have hzn2 : z_96 = z_1 := by have h9 := ez_96; rw [hw9] at h9; omega
    refine lv_iadd hx hb dX11_addRow_111 ?_
    refine nq_top (I_add _ _) ?_
    refine m_iast hx hb hK hH hS h00 hO h_a k13_45 isA1 (by decide) e_88 ra480 (by omega) (by omega) ⟨by omega, by omega⟩ el1 dX11_addRow_112 (fun σ_s_97 H locs hO hF9 hM9 ha9 hH hS => ?_)
    replace hM := hM.tu hM9 (by decide)
    replace hF := hF.tu hF9 (by decide)
    have e_98 : gI σ_s_97 a 48 = a480 := (hM9.i (by decide)).trans e_85
    have e_99 : aF σ_s_97 (ad E a 1) = f1 := (hM9.a (by decide) (by decide)).trans e_86
    have e_100 : aF σ_s_97 (ad E a 61) = f61 := (hM9.a (by decide) (by decide)).trans e_87
    have e_101 : aF σ_s_97 (ad E a 39) = g_12 := (hM9.a (by decide) (by decide)).trans e_89
    have e_102 : aF σ_s_97 (ad E a 40) = g_24 := (hM9.a (by decide) (by decide)).trans e_90
    have e_103 : aF σ_s_97 (ad E a 42) = g_65 := (hM9.a (by decide) (by decide)).trans e_91
    have e_104 : aF σ_s_97 (ad E a 44) = g_79 := (hM9.a (by decide) (by decide)).trans e_92
    have e_105 : aF σ_s_97 (ad E a 46) = g_81 := (hM9.a (by decide) (by decide)).trans e_93
    have e_106 : aF σ_s_97 (ad E a 43) = g_94 := (hM9.a (by decide) (by decide)).trans ef_95
    obtain ⟨g_107, dg_107⟩ : ∃ g9, g9 = upd f45 (a480).toNat (I (z_96 + 1)) := ⟨_, rfl⟩
    rw [← dg_107] at ha9
    have ef_108 := ha9
    exact th_vret hx hb hr hlocks hH hS ⟨hO, hF, hM, by rw [show aF σ_s_97 (ad E a 39) = g_12 from e_101, show aF σ_s_97 (ad E a 40) = g_24 from e_102, show aF σ_s_97 (ad E a 42) = g_65 from e_103, show aF σ_s_97 (ad E a 43) = g_94 from e_106, show aF σ_s_97 (ad E a 44) = g_79 from e_104, show aF σ_s_97 (ad E a 45) = g_107 from ef_108, show aF σ_s_97 (ad E a 46) = g_81 from e_105]; have ht := cpx.thing (w := w) (m2 := (f46 w.toNat).toInt + mS f1 j) hw_68.2.1 hy5 rfl (by omega) (by omega) (by omega) (by omega) (by omega) (by omega); have hs9 : same f44 g_79 (150 * w) (150 * w + (f46 w.toNat).toInt) 0 := hw_68.2.1.low2 (by omega) (by omega); have hw8 : wt g_79 (-1) + wt g_79 z_70 ≤ mS f1 j := (by rw [wt_neg, wt_pos (by omega), ht.2]; omega); have hR := row_add (A := -1) (B := z_70) (K := kd) (D := dp) (x := (130 * a480 + z_1).toNat) (m2 := (f46 w.toNat).toInt + (mS f1 j)) hyr dg_12 dg_24 (upd_to dg_65 rfl (show _ = (-1 : Int) by omega)) dg_94 (by omega) (by omega) (by omega) (by omega) (Or.inl rfl) (Or.inr ht.1) (by omega) (by omega) hs9 (by omega) (by omega) (by omega) (by omega) ⟨by decide, by decide⟩ rz_70; exact ⟨hR, upd_get dg_107 (by rw [hw9]) (by first | exact ⟨by omega, by omega⟩) |>.trans (by omega), hm_83, hlf.rf.up dg_12 (by omega) (by omega), hlf.rf.up dg_24 (by omega) (by omega), hlf.rf.up dg_65 (by omega) (by omega), hlf.rf.up dg_94 (by omega) (by omega), hlf.rf.cp hw_68.2.1 (by omega) (by omega) (by omega), hlf.rf.up dg_107 (by omega) (by omega), hlf.rf.up hw_68.2.2 (by omega) (by omega)⟩⟩ dX11_addRow_113
  · replace c_50 := mt (I_le (a := dp) (b := v8q48) rdp rv8q48).mpr c_50
    refine lv_aload_n hx hb dX11_addRow_45 rfl (lv_at hl 0 rfl) ?_
    refine ok.getR hO h_a (by decide) k13_41 (by decide) (fun _ _ he hv kk => th_get (ci := 11) (C := RX11) (T := TX11) (N := 66) hx hb hts inX11 hown hK hH he rfl 41 (by decide) fl6 hv dX11_addRow_46 kk) ?_
    refine lv_bipush (v := I 8) hx hb dX11_addRow_49 (by decide) ?_
    refine lv_iload hx hb dX11_addRow_51 (lv_at hl 6 rfl) ?_
    refine lv_imul hx hb dX11_addRow_53 ?_
    refine nq_top (I_mul _ _) ?_
    refine lv_iload hx hb dX11_addRow_54 (lv_at hl 7 rfl) ?_
    refine lv_iadd hx hb dX11_addRow_56 ?_
    refine th_addo (fun z_109 rz_109 hz_109 => ?_)
    refine lv_aload_n hx hb dX11_addRow_57 rfl (lv_at hl 0 rfl) ?_
    refine ok.getR hO h_a (by decide) k13_47 (by decide) (fun _ _ he hv kk => th_get (ci := 11) (C := RX11) (T := TX11) (N := 66) hx hb hts inX11 hown hK hH he rfl 47 (by decide) fl7 hv dX11_addRow_58 kk) ?_
    refine lv_iload hx hb dX11_addRow_61 (lv_at hl 7 rfl) ?_
    obtain ⟨f_111, ef_112⟩ : ∃ f9, aF σ_J_49 (ad E a 47) = f9 := ⟨_, rfl⟩
    refine m_iald hx hb hK hH hO h_a k13_47 isA1 ef_112 rv8q48 (by omega) (by omega) dX11_addRow_63 (fun z_110 ez_110 rz_110 elx9 => ?_)
    obtain ⟨f_114, ef_115⟩ : ∃ f9, aF σ_J_49 (ad E a 41) = f9 := ⟨_, rfl⟩
    refine m_iast hx hb hK hH hS h00 hO h_a k13_41 isA1 (by decide) ef_115 rz_109 (by omega) (by omega) rz_110 el1 dX11_addRow_64 (fun σ_s_113 H locs hO hF9 hM9 ha9 hH hS => ?_)
    replace hM := hM.tu hM9 (by decide)
    replace hF := hF.tu hF9 (by decide)
    have e_116 : gI σ_s_113 a 48 = a480 := (hM9.i (by decide)).trans J_49_2
    have e_117 : aF σ_s_113 (ad E a 1) = f1 := (hM9.a (by decide) (by decide)).trans J_49_3
    have e_118 : aF σ_s_113 (ad E a 61) = f61 := (hM9.a (by decide) (by decide)).trans J_49_4
    have e_119 : aF σ_s_113 (ad E a 42) = f42 := (hM9.a (by decide) (by decide)).trans J_49_5
    have e_120 : aF σ_s_113 (ad E a 43) = f43 := (hM9.a (by decide) (by decide)).trans J_49_6
    have e_121 : aF σ_s_113 (ad E a 44) = f44 := (hM9.a (by decide) (by decide)).trans J_49_7
    have e_122 : aF σ_s_113 (ad E a 45) = f45 := (hM9.a (by decide) (by decide)).trans J_49_8
    have e_123 : aF σ_s_113 (ad E a 46) = f46 := (hM9.a (by decide) (by decide)).trans J_49_9
    have e_124 : aF σ_s_113 (ad E a 39) = g_12 := (hM9.a (by decide) (by decide)).trans J_49_10
    have e_125 : aF σ_s_113 (ad E a 40) = g_24 := (hM9.a (by decide) (by decide)).trans J_49_11
    have e_126 : aF σ_s_113 (ad E a 47) = f_111 := (hM9.a (by decide) (by decide)).trans ef_112
    obtain ⟨g_127, dg_127⟩ : ∃ g9, g9 = upd f_114 (z_109).toNat (I z_110) := ⟨_, rfl⟩
    rw [← dg_127] at ha9
    have ef_128 := ha9
    refine lv_iinc (v := I (v8q48 + 1)) (lv' := [(8, .int (I (v8q48 + 1))), (0, .ref a), (2, .int (I dp)), (3, .ref (ad E a 61)), (4, .int (I i)), (5, .ref (ad E a 1)), (6, .int (I j)), (7, .int (I (130 * a480 + z_1)))]) hx hb dX11_addRow_65 hl (k := 7) rfl (I_add _ _) (by decide) rfl (fun ls hl => ?_)
    refine lv_goto (tgt := 39) hx hb dX11_addRow_68 (by decide) ?_
    exact ihJ_49 (v8q48 + 1) σ_s_113 _ _ _ (by first | (dsimp only; omega) | omega) ⟨hO, hF, hM, hH, hS, lv_sub hl [1, 2, 3, 4, 5, 6, 7, 0] rfl, ⟨by first | (dsimp only; omega) | omega, by first | (dsimp only; omega) | omega⟩, by first | (dsimp only; omega) | omega, by first | (dsimp only; omega) | omega, e_116, e_117, e_118, e_119, e_120, e_121, e_122, e_123, e_124, e_125⟩

set_option maxHeartbeats 4000000 in
set_option maxRecDepth 100000 in
theorem m_rowB (l : Launch) (G : va_G) (y : Nat → ClassId) (b0 : Nat) (σ : th_M) (E : th_E) (hO : ok y E σ) (a : Nat) (h_a : kd E a = 13) (kd : Int) (rkd : rng kd) (l_kd : 3 ≤ kd) (u_kd : kd ≤ 3) (dp : Int) (rdp : rng dp) (l_dp : 0 ≤ dp) (u_dp : dp ≤ 8) (i : Int) (ri : rng i) (l_i : 0 ≤ i) (u_i : i ≤ 59) (j : Int) (rj : rng j) (l_j : 0 ≤ j) (u_j : j ≤ 59) (w : Int) (f1 : Nat → Int32) (ef1 : aF σ (ad E a 1) = f1) (f61 : Nat → Int32) (ef61 : aF σ (ad E a 61) = f61) (f39 : Nat → Int32) (ef39 : aF σ (ad E a 39) = f39) (f40 : Nat → Int32) (ef40 : aF σ (ad E a 40) = f40) (f42 : Nat → Int32) (ef42 : aF σ (ad E a 42) = f42) (f43 : Nat → Int32) (ef43 : aF σ (ad E a 43) = f43) (f44 : Nat → Int32) (ef44 : aF σ (ad E a 44) = f44) (f45 : Nat → Int32) (ef45 : aF σ (ad E a 45) = f45) (f46 : Nat → Int32) (ef46 : aF σ (ad E a 46) = f46) (hy0 : gI σ a 48 = w) (hy1 : 0 ≤ w ∧ w ≤ 1) (hy2 : rws w f39 f40 f42 f43 f44 (f45 w.toNat).toInt (f46 w.toNat).toInt) (hy3 : 0 ≤ (f45 w.toNat).toInt ∧ (f45 w.toNat).toInt < 130) (hy4 : 0 ≤ (f46 w.toNat).toInt ∧ (f46 w.toNat).toInt + (mS f61 i + mS f1 j) ≤ 150) (hy5 : mT f61 i (i + mS f61 i)) (hy6 : 1 ≤ mS f61 i ∧ mS f61 i ≤ 60 ∧ i + mS f61 i ≤ 60) (hy7 : mT f1 j (j + mS f1 j)) (hy8 : 1 ≤ mS f1 j ∧ mS f1 j ≤ 60 ∧ j + mS f1 j ≤ 60) : Met l yX11_addRow wsX11_addRow ({ frames := 2, cells := 0, slots := 0, locals := 53 }) (th_P G y b0 σ [.ref a, .int (I kd), .int (I dp), .ref (ad E a 61), .int (I i), .ref (ad E a 1), .int (I j)]) (th_Qv G b0 (fun σ1 => ok y E σ1 ∧ fr [13] E σ σ1 ∧ fm [39, 40, 41, 42, 43, 44, 45, 46] E σ σ1 a ∧ (rws w (aF σ1 (ad E a 39)) (aF σ1 (ad E a 40)) (aF σ1 (ad E a 42)) (aF σ1 (ad E a 43)) (aF σ1 (ad E a 44)) ((f45 w.toNat).toInt + 1) ((f46 w.toNat).toInt + (mS f61 i + mS f1 j)) ∧ ((aF σ1 (ad E a 45)) w.toNat).toInt = (f45 w.toNat).toInt + 1 ∧ ((aF σ1 (ad E a 46)) w.toNat).toInt = (f46 w.toNat).toInt + (mS f61 i + mS f1 j) ∧ hall w f39 f40 f42 f43 f44 f45 f46 (aF σ1 (ad E a 39)) (aF σ1 (ad E a 40)) (aF σ1 (ad E a 42)) (aF σ1 (ad E a 43)) (aF σ1 (ad E a 44)) (aF σ1 (ad E a 45)) (aF σ1 (ad E a 46))))) 0 0 (th_A b0) := by
  refine Met.ofW (cc := cX11_addRow) (maxL := 9) (ret := none) (by decide) rfl ?_
  intro p e s m args below meth c s₁ B hml hv
  obtain ⟨rfl, hH, hK⟩ := hv
  have hx := B.exec
  have hb := B.bytes
  have hr := B.returns
  have hts := atoms_spec (ws := wsX11_addRow) B.pre
  have hown : s.vm.findClass RX11 = some m.cls := findClass_of_methodNamed B.named
  have hlocks := B.notSynchronized
  have h00 : b0 ≤ s.heap.size := hH.1
  have hS : va_S (th_A b0) s.heap s.heap [] := va_S.rf
  have hF : fr [13] E σ σ := fr.rf
  have hM : fm [39, 40, 41, 42, 43, 44, 45, 46] E σ σ a := fm.rf
  have inX11 : ∀ w ∈ wsX110, w ∈ wsX11_addRow := by decide +kernel
  have fl0 := hts (.fieldLink RX11 438 "NestQueryModel" "which" "I") (by decide +kernel)
  have fl1 := hts (.fieldLink RX11 69 "NestQueryModel" "rowsMany" "[I") (by decide +kernel)
  have fl2 := hts (.fieldLink RX11 51 "NestQueryModel" "rowKind" "[I") (by decide +kernel)
  have fl3 := hts (.fieldLink RX11 54 "NestQueryModel" "rowSteps" "[I") (by decide +kernel)
  have fl4 := hts (.fieldLink RX11 60 "NestQueryModel" "rowWas" "[I") (by decide +kernel)
  have fl5 := hts (.fieldLink RX11 63 "NestQueryModel" "rowIs" "[I") (by decide +kernel)
  have fl6 := hts (.fieldLink RX11 57 "NestQueryModel" "rowPath" "[I") (by decide +kernel)
  have fl7 := hts (.fieldLink RX11 75 "NestQueryModel" "way" "[I") (by decide +kernel)
  have hl := lv_entry ([.ref a, .int (I kd), .int (I dp), .ref (ad E a 61), .int (I i), .ref (ad E a 1), .int (I j)]) (n := 9) (Nat.le_of_ble_eq_true rfl)
  rw [lg_entry_eq]
  generalize (lg_sl ([.ref a, .int (I kd), .int (I dp), .ref (ad E a 61), .int (I i), .ref (ad E a 1), .int (I j)]) ++ List.replicate (9 - (lg_sl ([.ref a, .int (I kd), .int (I dp), .ref (ad E a 61), .int (I i), .ref (ad E a 1), .int (I j)])).length) Slot.unset).toArray = ls at hl ⊢
  have hl : lv_has ls 9 [(0, .ref a), (1, .int (I kd)), (2, .int (I dp)), (3, .ref (ad E a 61)), (4, .int (I i)), (5, .ref (ad E a 1)), (6, .int (I j))] := hl
  obtain ⟨a480, ea480, ra480, la480, ua480⟩ := hO.gi h_a (by decide) k13_48
  have hw9 : a480 = w := by omega
  have hyr := hy2
  refine lv_sipush (v := I 130) hx hb dX11_addRow_0 (by decide) ?_
  refine lv_aload_n hx hb dX11_addRow_3 rfl (lv_at hl 0 rfl) ?_
  refine ok.getIc hO h_a (by decide) k13_48 ea480 (fun _ _ he hv kk => th_get (ci := 11) (C := RX11) (T := TX11) (N := 66) hx hb hts inX11 hown hK hH he rfl 48 (by decide) fl0 hv dX11_addRow_4 kk) ?_
  refine lv_imul hx hb dX11_addRow_7 ?_
  refine nq_top (I_mul _ _) ?_
  refine lv_aload_n hx hb dX11_addRow_8 rfl (lv_at hl 0 rfl) ?_
  refine ok.getR hO h_a (by decide) k13_45 (by decide) (fun _ _ he hv kk => th_get (ci := 11) (C := RX11) (T := TX11) (N := 66) hx hb hts inX11 hown hK hH he rfl 45 (by decide) fl1 hv dX11_addRow_9 kk) ?_
  refine lv_aload_n hx hb dX11_addRow_12 rfl (lv_at hl 0 rfl) ?_
  refine ok.getIc hO h_a (by decide) k13_48 ea480 (fun _ _ he hv kk => th_get (ci := 11) (C := RX11) (T := TX11) (N := 66) hx hb hts inX11 hown hK hH he rfl 48 (by decide) fl0 hv dX11_addRow_13 kk) ?_
  refine m_iald hx hb hK hH hO h_a k13_45 isA1 ef45 ra480 (by omega) (by omega) dX11_addRow_16 (fun z_1 ez_1 rz_1 elx9 => ?_)
  have hzn : (f45 w.toNat).toInt = z_1 := by rw [← hw9]; exact ez_1
  refine lv_iadd hx hb dX11_addRow_17 ?_
  refine nq_top (I_add _ _) ?_
  refine lv_istore (lv' := [(7, .int (I (130 * a480 + z_1))), (0, .ref a), (1, .int (I kd)), (2, .int (I dp)), (3, .ref (ad E a 61)), (4, .int (I i)), (5, .ref (ad E a 1)), (6, .int (I j))]) hx hb dX11_addRow_18 hl (by decide) rfl (fun ls hl => ?_)
  refine lv_aload_n hx hb dX11_addRow_20 rfl (lv_at hl 1 rfl) ?_
  refine ok.getR hO h_a (by decide) k13_39 (by decide) (fun _ _ he hv kk => th_get (ci := 11) (C := RX11) (T := TX11) (N := 66) hx hb hts inX11 hown hK hH he rfl 39 (by decide) fl2 hv dX11_addRow_21 kk) ?_
  refine lv_iload hx hb dX11_addRow_24 (lv_at hl 0 rfl) ?_
  refine lv_iload_n hx hb dX11_addRow_26 rfl (lv_at hl 2 rfl) ?_
  refine m_iast hx hb hK hH hS h00 hO h_a k13_39 isA1 (by decide) ef39 ⟨by omega, by omega⟩ (by omega) (by omega) rkd el1 dX11_addRow_27 (fun σ_s_2 H locs hO hF9 hM9 ha9 hH hS => ?_)
  replace hM := hM.tu hM9 (by decide)
  replace hF := hF.tu hF9 (by decide)
  have e_3 : aF σ_s_2 (ad E a 1) = f1 := (hM9.a (by decide) (by decide)).trans ef1
  have e_4 : aF σ_s_2 (ad E a 61) = f61 := (hM9.a (by decide) (by decide)).trans ef61
  have e_5 : aF σ_s_2 (ad E a 40) = f40 := (hM9.a (by decide) (by decide)).trans ef40
  have e_6 : aF σ_s_2 (ad E a 42) = f42 := (hM9.a (by decide) (by decide)).trans ef42
  have e_7 : aF σ_s_2 (ad E a 43) = f43 := (hM9.a (by decide) (by decide)).trans ef43
  have e_8 : aF σ_s_2 (ad E a 44) = f44 := (hM9.a (by decide) (by decide)).trans ef44
  have e_9 : aF σ_s_2 (ad E a 45) = f45 := (hM9.a (by decide) (by decide)).trans ef45
  have e_10 : aF σ_s_2 (ad E a 46) = f46 := (hM9.a (by decide) (by decide)).trans ef46
  have e_11 : gI σ_s_2 a 48 = a480 := (hM9.i (by decide)).trans ea480
  obtain ⟨g_12, dg_12⟩ : ∃ g9, g9 = upd f39 (130 * a480 + z_1).toNat (I kd) := ⟨_, rfl⟩
  rw [← dg_12] at ha9
  have ef_13 := ha9
  refine lv_aload_n hx hb dX11_addRow_28 rfl (lv_at hl 1 rfl) ?_
  refine ok.getR hO h_a (by decide) k13_40 (by decide) (fun _ _ he hv kk => th_get (ci := 11) (C := RX11) (T := TX11) (N := 66) hx hb hts inX11 hown hK hH he rfl 40 (by decide) fl3 hv dX11_addRow_29 kk) ?_
  refine lv_iload hx hb dX11_addRow_32 (lv_at hl 0 rfl) ?_
  refine lv_iload_n hx hb dX11_addRow_34 rfl (lv_at hl 3 rfl) ?_
  refine m_iast hx hb hK hH hS h00 hO h_a k13_40 isA1 (by decide) e_5 ⟨by omega, by omega⟩ (by omega) (by omega) rdp el1 dX11_addRow_35 (fun σ_s_14 H locs hO hF9 hM9 ha9 hH hS => ?_)
  replace hM := hM.tu hM9 (by decide)
  replace hF := hF.tu hF9 (by decide)
  have e_15 : aF σ_s_14 (ad E a 1) = f1 := (hM9.a (by decide) (by decide)).trans e_3
  have e_16 : aF σ_s_14 (ad E a 61) = f61 := (hM9.a (by decide) (by decide)).trans e_4
  have e_17 : aF σ_s_14 (ad E a 42) = f42 := (hM9.a (by decide) (by decide)).trans e_6
  have e_18 : aF σ_s_14 (ad E a 43) = f43 := (hM9.a (by decide) (by decide)).trans e_7
  have e_19 : aF σ_s_14 (ad E a 44) = f44 := (hM9.a (by decide) (by decide)).trans e_8
  have e_20 : aF σ_s_14 (ad E a 45) = f45 := (hM9.a (by decide) (by decide)).trans e_9
  have e_21 : aF σ_s_14 (ad E a 46) = f46 := (hM9.a (by decide) (by decide)).trans e_10
  have e_22 : gI σ_s_14 a 48 = a480 := (hM9.i (by decide)).trans e_11
  have e_23 : aF σ_s_14 (ad E a 39) = g_12 := (hM9.a (by decide) (by decide)).trans ef_13
  obtain ⟨g_24, dg_24⟩ : ∃ g9, g9 = upd f40 (130 * a480 + z_1).toNat (I dp) := ⟨_, rfl⟩
  rw [← dg_24] at ha9
  have ef_25 := ha9
  refine lv_iconst (v := I 0) hx hb dX11_addRow_36 (by decide) ?_
  refine lv_istore (lv' := [(8, .int (I 0)), (7, .int (I (130 * a480 + z_1))), (0, .ref a), (1, .int (I kd)), (2, .int (I dp)), (3, .ref (ad E a 61)), (4, .int (I i)), (5, .ref (ad E a 1)), (6, .int (I j))]) hx hb dX11_addRow_37 hl (by decide) rfl (fun ls hl => ?_)
  replace hl : lv_has ls 9 [(8, .int (I 0)), (7, .int (I (130 * a480 + z_1))), (0, .ref a), (2, .int (I dp)), (3, .ref (ad E a 61)), (4, .int (I i)), (5, .ref (ad E a 1)), (6, .int (I j))] := lv_sub hl [0, 1, 2, 4, 5, 6, 7, 8] rfl
  refine th_loop (α := Int) (pc := 39) (fun x9 => (dp - x9).toNat) (fun x9 σ9 H9 l9 ls9 => ok y E σ9 ∧ fr [13] E σ σ9 ∧ fm [39, 40, 41, 42, 43, 44, 45, 46] E σ σ9 a ∧ th_H G b0 σ9 H9 ∧ va_S (th_A b0) s.heap H9 l9 ∧ lv_has ls9 9 [(0, .ref a), (2, .int (I dp)), (3, .ref (ad E a 61)), (4, .int (I i)), (5, .ref (ad E a 1)), (6, .int (I j)), (7, .int (I (130 * a480 + z_1))), (8, .int (I x9))] ∧ rng x9 ∧ (0 ≤ x9) ∧ (x9 ≤ 8) ∧ (gI σ9 a 48 = a480) ∧ (aF σ9 (ad E a 1) = f1) ∧ (aF σ9 (ad E a 61) = f61) ∧ (aF σ9 (ad E a 42) = f42) ∧ (aF σ9 (ad E a 43) = f43) ∧ (aF σ9 (ad E a 44) = f44) ∧ (aF σ9 (ad E a 45) = f45) ∧ (aF σ9 (ad E a 46) = f46) ∧ (aF σ9 (ad E a 39) = g_12) ∧ (aF σ9 (ad E a 40) = g_24)) ?_ (0) σ_s_14 _ _ _ ⟨hO, hF, hM, hH, hS, lv_sub hl [2, 3, 4, 5, 6, 7, 1, 0] rfl, (show rng 0 from ⟨by decide, by decide⟩), by first | (dsimp only; omega) | omega, by first | (dsimp only; omega) | omega, e_22, e_15, e_16, e_17, e_18, e_19, e_20, e_21, e_23, ef_25⟩
  intro x9 σ_J_49 H locs ls hI9 ihJ_49
  obtain ⟨v8q48, ex9⟩ : ∃ z, z = x9 := ⟨_, rfl⟩
  subst ex9
  obtain ⟨hO, hF, hM, hH, hS, hl, rv8q48, J_49_0, J_49_1, J_49_2, J_49_3, J_49_4, J_49_5, J_49_6, J_49_7, J_49_8, J_49_9, J_49_10, J_49_11⟩ := hI9
  have hl : lv_has ls 9 [(0, .ref a), (2, .int (I dp)), (3, .ref (ad E a 61)), (4, .int (I i)), (5, .ref (ad E a 1)), (6, .int (I j)), (7, .int (I (130 * a480 + z_1))), (8, .int (I v8q48))] := hl
  have rv8q48 : rng v8q48 := rv8q48
  have J_49_0 : 0 ≤ v8q48 := J_49_0
  have J_49_1 : v8q48 ≤ 8 := J_49_1
  have J_49_2 : gI σ_J_49 a 48 = a480 := J_49_2
  have J_49_3 : aF σ_J_49 (ad E a 1) = f1 := J_49_3
  have J_49_4 : aF σ_J_49 (ad E a 61) = f61 := J_49_4
  have J_49_5 : aF σ_J_49 (ad E a 42) = f42 := J_49_5
  have J_49_6 : aF σ_J_49 (ad E a 43) = f43 := J_49_6
  have J_49_7 : aF σ_J_49 (ad E a 44) = f44 := J_49_7
  have J_49_8 : aF σ_J_49 (ad E a 45) = f45 := J_49_8
  have J_49_9 : aF σ_J_49 (ad E a 46) = f46 := J_49_9
  have J_49_10 : aF σ_J_49 (ad E a 39) = g_12 := J_49_10
  have J_49_11 : aF σ_J_49 (ad E a 40) = g_24 := J_49_11
  refine lv_iload hx hb dX11_addRow_39 (lv_at hl 7 rfl) ?_
  refine lv_iload_n hx hb dX11_addRow_41 rfl (lv_at hl 1 rfl) ?_
  refine lv_icmp_ge (tgt := 71) hx hb dX11_addRow_42 (by decide) (fun c_50 => ?_) (fun c_50 => ?_)
  · replace c_50 := (I_le (a := dp) (b := v8q48) rdp rv8q48).mp c_50
    refine lv_aload_n hx hb dX11_addRow_71 rfl (lv_at hl 0 rfl) ?_
    refine ok.getR hO h_a (by decide) k13_42 (by decide) (fun _ _ he hv kk => th_get (ci := 11) (C := RX11) (T := TX11) (N := 66) hx hb hts inX11 hown hK hH he rfl 42 (by decide) fl4 hv dX11_addRow_72 kk) ?_
    refine lv_iload hx hb dX11_addRow_75 (lv_at hl 6 rfl) ?_
    refine lv_aload_n hx hb dX11_addRow_77 rfl (lv_at hl 0 rfl) ?_
    refine lv_aload_n hx hb dX11_addRow_78 rfl (lv_at hl 2 rfl) ?_
    refine lv_iload hx hb dX11_addRow_79 (lv_at hl 3 rfl) ?_
    obtain ⟨_, hc_51⟩ := hO.cell h_a (by decide) (ci := 11) rfl
    refine th_calli (va_runV (As := [.ref (ad E a 61), .int (I i)]) (rest := [.int (I (130 * a480 + z_1)), .ref (ad E a 42)]) ⟨hx, hb, hml, hown, hts⟩ (m_add61 l G y b0 σ_J_49 E hO a h_a i (show rng i from ri) (by omega) (by omega) w f61 J_49_4 f44 J_49_7 f46 J_49_9 (by omega) (by omega) (by omega) (by omega)) (cwV 2 hts gX11_addRow_X11_addThings rfl rfl rfl (by decide +kernel) ⟨Nat.le_of_ble_eq_true rfl, Nat.le_of_ble_eq_true rfl⟩) (th_PV hK hH rfl hc_51) rfl rfl hl.1 rfl (lv_room (Nat.le_of_ble_eq_true rfl)) dX11_addRow_81 ⟨Nat.le_of_ble_eq_true rfl, Nat.le_of_ble_eq_true rfl⟩) hS (fun z_54 σ_s_53 H locs rz_54 hw_52 hH hS => ?_)
    obtain ⟨hO9, hF9, hM9, hw_52⟩ := hw_52
    replace hM := hM.tu hM9 (by decide)
    replace hF := hF.tu hF9 (by decide)
    have e_55 : gI σ_s_53 a 48 = a480 := (hM9.i (by decide)).trans J_49_2
    have e_56 : aF σ_s_53 (ad E a 1) = f1 := (hM9.a (by decide) (by decide)).trans J_49_3
    have e_57 : aF σ_s_53 (ad E a 61) = f61 := (hM9.a (by decide) (by decide)).trans J_49_4
    have e_58 : aF σ_s_53 (ad E a 42) = f42 := (hM9.a (by decide) (by decide)).trans J_49_5
    have e_59 : aF σ_s_53 (ad E a 43) = f43 := (hM9.a (by decide) (by decide)).trans J_49_6
    have e_60 : aF σ_s_53 (ad E a 45) = f45 := (hM9.a (by decide) (by decide)).trans J_49_8
    have e_61 : aF σ_s_53 (ad E a 39) = g_12 := (hM9.a (by decide) (by decide)).trans J_49_10
    have e_62 : aF σ_s_53 (ad E a 40) = g_24 := (hM9.a (by decide) (by decide)).trans J_49_11
    replace hO := hO9
    generalize ef_64 : aF σ_s_53 (ad E a 44) = g_63 at hw_52
    generalize ef_66 : aF σ_s_53 (ad E a 46) = g_65 at hw_52
    have hw_52 : z_54 = 150 * w + (f46 w.toNat).toInt ∧ cpx f44 g_63 f61 z_54 i (4 * mS f61 i) ∧ g_65 = upd f46 w.toNat (I ((f46 w.toNat).toInt + mS f61 i)) := hw_52
    have hm_67 : (g_65 w.toNat).toInt = (f46 w.toNat).toInt + mS f61 i := by rw [hw_52.2.2, upd_at, I_toInt ⟨by omega, by omega⟩]
    refine m_iast hx hb hK hH hS h00 hO h_a k13_42 isA1 (by decide) e_58 ⟨by omega, by omega⟩ (by omega) (by omega) rz_54 el1 dX11_addRow_84 (fun σ_s_68 H locs hO hF9 hM9 ha9 hH hS => ?_)
    replace hM := hM.tu hM9 (by decide)
    replace hF := hF.tu hF9 (by decide)
    have e_69 : gI σ_s_68 a 48 = a480 := (hM9.i (by decide)).trans e_55
    have e_70 : aF σ_s_68 (ad E a 1) = f1 := (hM9.a (by decide) (by decide)).trans e_56
    have e_71 : aF σ_s_68 (ad E a 61) = f61 := (hM9.a (by decide) (by decide)).trans e_57
    have e_72 : aF σ_s_68 (ad E a 43) = f43 := (hM9.a (by decide) (by decide)).trans e_59
    have e_73 : aF σ_s_68 (ad E a 45) = f45 := (hM9.a (by decide) (by decide)).trans e_60
    have e_74 : aF σ_s_68 (ad E a 39) = g_12 := (hM9.a (by decide) (by decide)).trans e_61
    have e_75 : aF σ_s_68 (ad E a 40) = g_24 := (hM9.a (by decide) (by decide)).trans e_62
    have e_76 : aF σ_s_68 (ad E a 44) = g_63 := (hM9.a (by decide) (by decide)).trans ef_64
    have e_77 : aF σ_s_68 (ad E a 46) = g_65 := (hM9.a (by decide) (by decide)).trans ef_66
    obtain ⟨g_78, dg_78⟩ : ∃ g9, g9 = upd f42 (130 * a480 + z_1).toNat (I z_54) := ⟨_, rfl⟩
    rw [← dg_78] at ha9
    have ef_79 := ha9
    refine lv_aload_n hx hb dX11_addRow_85 rfl (lv_at hl 0 rfl) ?_
    refine ok.getR hO h_a (by decide) k13_43 (by decide) (fun _ _ he hv kk => th_get (ci := 11) (C := RX11) (T := TX11) (N := 66) hx hb hts inX11 hown hK hH he rfl 43 (by decide) fl5 hv dX11_addRow_86 kk) ?_
    refine lv_iload hx hb dX11_addRow_89 (lv_at hl 6 rfl) ?_
    refine lv_aload_n hx hb dX11_addRow_91 rfl (lv_at hl 0 rfl) ?_
    refine lv_aload hx hb dX11_addRow_92 (lv_at hl 4 rfl) ?_
    refine lv_iload hx hb dX11_addRow_94 (lv_at hl 5 rfl) ?_
    obtain ⟨_, hc_80⟩ := hO.cell h_a (by decide) (ci := 11) rfl
    refine th_calli (va_runV (As := [.ref (ad E a 1), .int (I j)]) (rest := [.int (I (130 * a480 + z_1)), .ref (ad E a 43)]) ⟨hx, hb, hml, hown, hts⟩ (m_add1 l G y b0 σ_s_68 E hO a h_a j (show rng j from rj) (by omega) (by omega) w f1 e_70 g_63 e_76 g_65 e_77 (by omega) (by omega) (by omega) (by omega)) (cwV 2 hts gX11_addRow_X11_addThings rfl rfl rfl (by decide +kernel) ⟨Nat.le_of_ble_eq_true rfl, Nat.le_of_ble_eq_true rfl⟩) (th_PV hK hH rfl hc_80) rfl rfl hl.1 rfl (lv_room (Nat.le_of_ble_eq_true rfl)) dX11_addRow_96 ⟨Nat.le_of_ble_eq_true rfl, Nat.le_of_ble_eq_true rfl⟩) hS (fun z_83 σ_s_82 H locs rz_83 hw_81 hH hS => ?_)
    obtain ⟨hO9, hF9, hM9, hw_81⟩ := hw_81
    replace hM := hM.tu hM9 (by decide)
    replace hF := hF.tu hF9 (by decide)
    have e_84 : gI σ_s_82 a 48 = a480 := (hM9.i (by decide)).trans e_69
    have e_85 : aF σ_s_82 (ad E a 1) = f1 := (hM9.a (by decide) (by decide)).trans e_70
    have e_86 : aF σ_s_82 (ad E a 61) = f61 := (hM9.a (by decide) (by decide)).trans e_71
    have e_87 : aF σ_s_82 (ad E a 43) = f43 := (hM9.a (by decide) (by decide)).trans e_72
    have e_88 : aF σ_s_82 (ad E a 45) = f45 := (hM9.a (by decide) (by decide)).trans e_73
    have e_89 : aF σ_s_82 (ad E a 39) = g_12 := (hM9.a (by decide) (by decide)).trans e_74
    have e_90 : aF σ_s_82 (ad E a 40) = g_24 := (hM9.a (by decide) (by decide)).trans e_75
    have e_91 : aF σ_s_82 (ad E a 42) = g_78 := (hM9.a (by decide) (by decide)).trans ef_79
    replace hO := hO9
    generalize ef_93 : aF σ_s_82 (ad E a 44) = g_92 at hw_81
    generalize ef_95 : aF σ_s_82 (ad E a 46) = g_94 at hw_81
    have hw_81 : z_83 = 150 * w + (g_65 w.toNat).toInt ∧ cpx g_63 g_92 f1 z_83 j (4 * mS f1 j) ∧ g_94 = upd g_65 w.toNat (I ((g_65 w.toNat).toInt + mS f1 j)) := hw_81
    have hm_96 : (g_94 w.toNat).toInt = (f46 w.toNat).toInt + (mS f61 i + mS f1 j) := (by rw [hw_81.2.2, upd_at, I_toInt ⟨by omega, by omega⟩]; omega)
    have hq_97 : hlf w 1 f46 g_94 := (hlf.rf.up hw_52.2.2 (by omega) (by omega)).up hw_81.2.2 (by omega) (by omega)
    refine m_iast hx hb hK hH hS h00 hO h_a k13_43 isA1 (by decide) e_87 ⟨by omega, by omega⟩ (by omega) (by omega) rz_83 el1 dX11_addRow_99 (fun σ_s_98 H locs hO hF9 hM9 ha9 hH hS => ?_)
    replace hM := hM.tu hM9 (by decide)
    replace hF := hF.tu hF9 (by decide)
    have e_99 : gI σ_s_98 a 48 = a480 := (hM9.i (by decide)).trans e_84
    have e_100 : aF σ_s_98 (ad E a 1) = f1 := (hM9.a (by decide) (by decide)).trans e_85
    have e_101 : aF σ_s_98 (ad E a 61) = f61 := (hM9.a (by decide) (by decide)).trans e_86
    have e_102 : aF σ_s_98 (ad E a 45) = f45 := (hM9.a (by decide) (by decide)).trans e_88
    have e_103 : aF σ_s_98 (ad E a 39) = g_12 := (hM9.a (by decide) (by decide)).trans e_89
    have e_104 : aF σ_s_98 (ad E a 40) = g_24 := (hM9.a (by decide) (by decide)).trans e_90
    have e_105 : aF σ_s_98 (ad E a 42) = g_78 := (hM9.a (by decide) (by decide)).trans e_91
    have e_106 : aF σ_s_98 (ad E a 44) = g_92 := (hM9.a (by decide) (by decide)).trans ef_93
    have e_107 : aF σ_s_98 (ad E a 46) = g_94 := (hM9.a (by decide) (by decide)).trans ef_95
    obtain ⟨g_108, dg_108⟩ : ∃ g9, g9 = upd f43 (130 * a480 + z_1).toNat (I z_83) := ⟨_, rfl⟩
    rw [← dg_108] at ha9
    have ef_109 := ha9
    refine lv_aload_n hx hb dX11_addRow_100 rfl (lv_at hl 0 rfl) ?_
    refine ok.getR hO h_a (by decide) k13_45 (by decide) (fun _ _ he hv kk => th_get (ci := 11) (C := RX11) (T := TX11) (N := 66) hx hb hts inX11 hown hK hH he rfl 45 (by decide) fl1 hv dX11_addRow_101 kk) ?_
    refine lv_aload_n hx hb dX11_addRow_104 rfl (lv_at hl 0 rfl) ?_
    refine ok.getIc hO h_a (by decide) k13_48 e_99 (fun _ _ he hv kk => th_get (ci := 11) (C := RX11) (T := TX11) (N := 66) hx hb hts inX11 hown hK hH he rfl 48 (by decide) fl0 hv dX11_addRow_105 kk) ?_
    refine lv_dup2_11 hx hb dX11_addRow_108 rfl rfl ?_
    refine m_iald hx hb hK hH hO h_a k13_45 isA1 e_102 ra480 (by omega) (by omega) dX11_addRow_109 (fun z_110 ez_110 rz_110 elx9 => ?_)
    refine lv_iconst (v := I 1) hx hb dX11_addRow_110 (by decide) ?_
    have hzn2 : z_110 = z_1 := by have h9 := ez_110; rw [hw9] at h9; omega
    refine lv_iadd hx hb dX11_addRow_111 ?_
    refine nq_top (I_add _ _) ?_
    refine m_iast hx hb hK hH hS h00 hO h_a k13_45 isA1 (by decide) e_102 ra480 (by omega) (by omega) ⟨by omega, by omega⟩ el1 dX11_addRow_112 (fun σ_s_111 H locs hO hF9 hM9 ha9 hH hS => ?_)
    replace hM := hM.tu hM9 (by decide)
    replace hF := hF.tu hF9 (by decide)
    have e_112 : gI σ_s_111 a 48 = a480 := (hM9.i (by decide)).trans e_99
    have e_113 : aF σ_s_111 (ad E a 1) = f1 := (hM9.a (by decide) (by decide)).trans e_100
    have e_114 : aF σ_s_111 (ad E a 61) = f61 := (hM9.a (by decide) (by decide)).trans e_101
    have e_115 : aF σ_s_111 (ad E a 39) = g_12 := (hM9.a (by decide) (by decide)).trans e_103
    have e_116 : aF σ_s_111 (ad E a 40) = g_24 := (hM9.a (by decide) (by decide)).trans e_104
    have e_117 : aF σ_s_111 (ad E a 42) = g_78 := (hM9.a (by decide) (by decide)).trans e_105
    have e_118 : aF σ_s_111 (ad E a 44) = g_92 := (hM9.a (by decide) (by decide)).trans e_106
    have e_119 : aF σ_s_111 (ad E a 46) = g_94 := (hM9.a (by decide) (by decide)).trans e_107
    have e_120 : aF σ_s_111 (ad E a 43) = g_108 := (hM9.a (by decide) (by decide)).trans ef_109
    obtain ⟨g_121, dg_121⟩ : ∃ g9, g9 = upd f45 (a480).toNat (I (z_110 + 1)) := ⟨_, rfl⟩
    rw [← dg_121] at ha9
    have ef_122 := ha9
    exact th_vret hx hb hr hlocks hH hS ⟨hO, hF, hM, by rw [show aF σ_s_111 (ad E a 39) = g_12 from e_115, show aF σ_s_111 (ad E a 40) = g_24 from e_116, show aF σ_s_111 (ad E a 42) = g_78 from e_117, show aF σ_s_111 (ad E a 43) = g_108 from e_120, show aF σ_s_111 (ad E a 44) = g_92 from e_118, show aF σ_s_111 (ad E a 45) = g_121 from ef_122, show aF σ_s_111 (ad E a 46) = g_94 from e_119]; have hu := cpx.thing (w := w) (m2 := (f46 w.toNat).toInt + mS f61 i) hw_52.2.1 hy5 rfl (by omega) (by omega) (by omega) (by omega) (by omega) (by omega); have hs8 : same g_63 g_92 (150 * w) (150 * w + ((f46 w.toNat).toInt + mS f61 i)) 0 := hw_81.2.1.low2 (by omega) (by omega); have hv := hu.1.up (m2 := (f46 w.toNat).toInt + (mS f61 i + mS f1 j)) hs8 (by omega); have ht := cpx.thing (w := w) (m2 := (f46 w.toNat).toInt + (mS f61 i + mS f1 j)) hw_81.2.1 hy7 rfl (by omega) (by omega) (by omega) (by omega) (by omega) (by omega); have hs7 : same f44 g_63 (150 * w) (150 * w + (f46 w.toNat).toInt) 0 := hw_52.2.1.low2 (by omega) (by omega); have hs9 : same f44 g_92 (150 * w) (150 * w + (f46 w.toNat).toInt) 0 := hs7.tr (hs8.sub (Int.le_refl _) (by omega)); have hw8 : wt g_92 z_54 + wt g_92 z_83 ≤ mS f61 i + mS f1 j := (by rw [wt_pos (by omega), wt_pos (by omega), ht.2, hv.2, hu.2]; omega); have hR := row_add (A := z_54) (B := z_83) (K := kd) (D := dp) (x := (130 * a480 + z_1).toNat) (m2 := (f46 w.toNat).toInt + (mS f61 i + mS f1 j)) hyr dg_12 dg_24 dg_78 dg_108 (by omega) (by omega) (by omega) (by omega) (Or.inr hv.1) (Or.inr ht.1) (by omega) (by omega) hs9 (by omega) (by omega) (by omega) (by omega) rz_54 rz_83; exact ⟨hR, upd_get dg_121 (by rw [hw9]) (by first | exact ⟨by omega, by omega⟩) |>.trans (by omega), hm_96, hlf.rf.up dg_12 (by omega) (by omega), hlf.rf.up dg_24 (by omega) (by omega), hlf.rf.up dg_78 (by omega) (by omega), hlf.rf.up dg_108 (by omega) (by omega), (hlf.rf.cp hw_52.2.1 (by omega) (by omega) (by omega)).cp hw_81.2.1 (by omega) (by omega) (by omega), hlf.rf.up dg_121 (by omega) (by omega), hq_97⟩⟩ dX11_addRow_113
  · replace c_50 := mt (I_le (a := dp) (b := v8q48) rdp rv8q48).mpr c_50
    refine lv_aload_n hx hb dX11_addRow_45 rfl (lv_at hl 0 rfl) ?_
    refine ok.getR hO h_a (by decide) k13_41 (by decide) (fun _ _ he hv kk => th_get (ci := 11) (C := RX11) (T := TX11) (N := 66) hx hb hts inX11 hown hK hH he rfl 41 (by decide) fl6 hv dX11_addRow_46 kk) ?_
    refine lv_bipush (v := I 8) hx hb dX11_addRow_49 (by decide) ?_
    refine lv_iload hx hb dX11_addRow_51 (lv_at hl 6 rfl) ?_
    refine lv_imul hx hb dX11_addRow_53 ?_
    refine nq_top (I_mul _ _) ?_
    refine lv_iload hx hb dX11_addRow_54 (lv_at hl 7 rfl) ?_
    refine lv_iadd hx hb dX11_addRow_56 ?_
    refine th_addo (fun z_123 rz_123 hz_123 => ?_)
    refine lv_aload_n hx hb dX11_addRow_57 rfl (lv_at hl 0 rfl) ?_
    refine ok.getR hO h_a (by decide) k13_47 (by decide) (fun _ _ he hv kk => th_get (ci := 11) (C := RX11) (T := TX11) (N := 66) hx hb hts inX11 hown hK hH he rfl 47 (by decide) fl7 hv dX11_addRow_58 kk) ?_
    refine lv_iload hx hb dX11_addRow_61 (lv_at hl 7 rfl) ?_
    obtain ⟨f_125, ef_126⟩ : ∃ f9, aF σ_J_49 (ad E a 47) = f9 := ⟨_, rfl⟩
    refine m_iald hx hb hK hH hO h_a k13_47 isA1 ef_126 rv8q48 (by omega) (by omega) dX11_addRow_63 (fun z_124 ez_124 rz_124 elx9 => ?_)
    obtain ⟨f_128, ef_129⟩ : ∃ f9, aF σ_J_49 (ad E a 41) = f9 := ⟨_, rfl⟩
    refine m_iast hx hb hK hH hS h00 hO h_a k13_41 isA1 (by decide) ef_129 rz_123 (by omega) (by omega) rz_124 el1 dX11_addRow_64 (fun σ_s_127 H locs hO hF9 hM9 ha9 hH hS => ?_)
    replace hM := hM.tu hM9 (by decide)
    replace hF := hF.tu hF9 (by decide)
    have e_130 : gI σ_s_127 a 48 = a480 := (hM9.i (by decide)).trans J_49_2
    have e_131 : aF σ_s_127 (ad E a 1) = f1 := (hM9.a (by decide) (by decide)).trans J_49_3
    have e_132 : aF σ_s_127 (ad E a 61) = f61 := (hM9.a (by decide) (by decide)).trans J_49_4
    have e_133 : aF σ_s_127 (ad E a 42) = f42 := (hM9.a (by decide) (by decide)).trans J_49_5
    have e_134 : aF σ_s_127 (ad E a 43) = f43 := (hM9.a (by decide) (by decide)).trans J_49_6
    have e_135 : aF σ_s_127 (ad E a 44) = f44 := (hM9.a (by decide) (by decide)).trans J_49_7
    have e_136 : aF σ_s_127 (ad E a 45) = f45 := (hM9.a (by decide) (by decide)).trans J_49_8
    have e_137 : aF σ_s_127 (ad E a 46) = f46 := (hM9.a (by decide) (by decide)).trans J_49_9
    have e_138 : aF σ_s_127 (ad E a 39) = g_12 := (hM9.a (by decide) (by decide)).trans J_49_10
    have e_139 : aF σ_s_127 (ad E a 40) = g_24 := (hM9.a (by decide) (by decide)).trans J_49_11
    have e_140 : aF σ_s_127 (ad E a 47) = f_125 := (hM9.a (by decide) (by decide)).trans ef_126
    obtain ⟨g_141, dg_141⟩ : ∃ g9, g9 = upd f_128 (z_123).toNat (I z_124) := ⟨_, rfl⟩
    rw [← dg_141] at ha9
    have ef_142 := ha9
    refine lv_iinc (v := I (v8q48 + 1)) (lv' := [(8, .int (I (v8q48 + 1))), (0, .ref a), (2, .int (I dp)), (3, .ref (ad E a 61)), (4, .int (I i)), (5, .ref (ad E a 1)), (6, .int (I j)), (7, .int (I (130 * a480 + z_1)))]) hx hb dX11_addRow_65 hl (k := 7) rfl (I_add _ _) (by decide) rfl (fun ls hl => ?_)
    refine lv_goto (tgt := 39) hx hb dX11_addRow_68 (by decide) ?_
    exact ihJ_49 (v8q48 + 1) σ_s_127 _ _ _ (by first | (dsimp only; omega) | omega) ⟨hO, hF, hM, hH, hS, lv_sub hl [1, 2, 3, 4, 5, 6, 7, 0] rfl, ⟨by first | (dsimp only; omega) | omega, by first | (dsimp only; omega) | omega⟩, by first | (dsimp only; omega) | omega, by first | (dsimp only; omega) | omega, e_130, e_131, e_132, e_133, e_134, e_135, e_136, e_137, e_138, e_139⟩
