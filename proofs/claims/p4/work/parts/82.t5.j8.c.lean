set_option maxHeartbeats 20000000 in
set_option maxRecDepth 100000 in
theorem j8_path (l : Launch) (G : va_G) (y : Nat → ClassId) (b0 : Nat) (σ : th_M) (E : th_E) (hO : ok y E σ) (a : Nat) (h_a : kd E a = 13) (slot : Int) (rslot : rng slot) (nn : Int) (rnn : rng nn) (f1 : Nat → Int32) (ef1 : aF σ (ad E a 1) = f1) (f37 : Nat → Int32) (ef37 : aF σ (ad E a 37) = f37) (f61 : Nat → Int32) (ef61 : aF σ (ad E a 61) = f61) (f62 : Nat → Int32) (ef62 : aF σ (ad E a 62) = f62) (f39 : Nat → Int32) (ef39 : aF σ (ad E a 39) = f39) (f40 : Nat → Int32) (ef40 : aF σ (ad E a 40) = f40) (f42 : Nat → Int32) (ef42 : aF σ (ad E a 42) = f42) (f43 : Nat → Int32) (ef43 : aF σ (ad E a 43) = f43) (f44 : Nat → Int32) (ef44 : aF σ (ad E a 44) = f44) (f45 : Nat → Int32) (ef45 : aF σ (ad E a 45) = f45) (f46 : Nat → Int32) (ef46 : aF σ (ad E a 46) = f46) (f6 : Nat → Int32) (ef6 : aF σ (ad E a 6) = f6) (f8 : Nat → Int32) (ef8 : aF σ (ad E a 8) = f8) (T : tkT) (hSt : (((0 ≤ slot ∧ slot ≤ 3) ∧ 0 ≤ nn ∧ nn ≤ gI σ a 12) → tkSt (byf f6 nn) T)) (hy0 : jw f1 f37 f61 f62 f39 f40 f42 f43 f44 f45 f46 (gI σ a 36) (gI σ a 58) (gI σ a 59)) : Met l yX11_path wsX11_path ({ frames := 50, cells := 0, slots := 0, locals := 1686 }) (th_P G y b0 σ [.ref a, .int (I slot), .int (I nn)]) (th_Qi G b0 (fun r σ1 => ok y E σ1 ∧ fr [13] E σ σ1 ∧ fm [0, 4, 7, 8, 9, 10, 11, 12, 13, 14, 15, 16, 17, 18, 19, 20, 21, 23, 24, 25, 26, 27, 28, 29, 30] E σ σ1 a ∧ ((jw (aF σ1 (ad E a 1)) (aF σ1 (ad E a 37)) (aF σ1 (ad E a 61)) (aF σ1 (ad E a 62)) (aF σ1 (ad E a 39)) (aF σ1 (ad E a 40)) (aF σ1 (ad E a 42)) (aF σ1 (ad E a 43)) (aF σ1 (ad E a 44)) (aF σ1 (ad E a 45)) (aF σ1 (ad E a 46)) (gI σ1 a 36) (gI σ1 a 58) (gI σ1 a 59) ∧ ((((0 ≤ slot ∧ slot ≤ 3) ∧ 0 ≤ nn ∧ nn ≤ gI σ a 12) ∧ gI σ1 a 12 = 0) ∨ (¬ ((0 ≤ slot ∧ slot ≤ 3) ∧ 0 ≤ nn ∧ nn ≤ gI σ a 12) ∧ gI σ1 a 12 = gI σ a 12))) ∧ (((0 ≤ slot ∧ slot ≤ 3) ∧ 0 ≤ nn ∧ nn ≤ gI σ a 12) → PthR T r (gI σ1 a 21) ∧ gI σ1 a 0 = 0) ∧ (¬ (0 ≤ slot ∧ slot ≤ 3) → gI σ1 a 0 = 1) ∧ ((0 ≤ slot ∧ slot ≤ 3) ∧ ¬ (0 ≤ nn ∧ nn ≤ gI σ a 12) → gI σ1 a 0 = 2)))) 0 0 (th_A b0) := by
  refine Met.ofW (cc := cX11_path) (maxL := 4) (ret := (some .int)) (by decide) rfl ?_
  intro p e s m args below meth c s₁ B hml hv
  obtain ⟨rfl, hH, hK⟩ := hv
  have hx := B.exec
  have hb := B.bytes
  have hr := B.returns
  have hts := atoms_spec (ws := wsX11_path) B.pre
  have hown : s.vm.findClass RX11 = some m.cls := findClass_of_methodNamed B.named
  have hlocks := B.notSynchronized
  have h00 : b0 ≤ s.heap.size := hH.1
  have hS : va_S (th_A b0) s.heap s.heap [] := va_S.rf
  have hF : fr [13] E σ σ := fr.rf
  have hM : fm [0, 4, 7, 8, 9, 10, 11, 12, 13, 14, 15, 16, 17, 18, 19, 20, 21, 23, 24, 25, 26, 27, 28, 29, 30] E σ σ a := fm.rf
  have hj := hy0
  have hw1 := hj.1.1.1
  have hm1 := hj.1.2.1
  have hm2 := hj.1.2.2.1
  have hm3 := hj.2.2.2.2.1
  have hm4 := hj.2.2.2.2.2.1
  have inX11 : ∀ w ∈ wsX110, w ∈ wsX11_path := by decide +kernel
  have fl0 := hts (.fieldLink RX11 111 "NestQueryModel" "code" "I") (by decide +kernel)
  have fl1 := hts (.fieldLink RX11 114 "NestQueryModel" "taped" "I") (by decide +kernel)
  have fl2 := hts (.fieldLink RX11 300 "NestQueryModel" "isGone" "Z") (by decide +kernel)
  have fl3 := hts (.fieldLink RX11 22 "NestQueryModel" "tape" "[I") (by decide +kernel)
  have fl4 := hts (.fieldLink RX11 28 "NestQueryModel" "pathSize" "[I") (by decide +kernel)
  have fl5 := hts (.fieldLink RX11 25 "NestQueryModel" "paths" "[I") (by decide +kernel)
  have fl6 := hts (.fieldLink RX11 162 "NestQueryModel" "bad" "I") (by decide +kernel)
  have hl := lv_entry ([.ref a, .int (I slot), .int (I nn)]) (n := 4) (Nat.le_of_ble_eq_true rfl)
  rw [lg_entry_eq]
  generalize (lg_sl ([.ref a, .int (I slot), .int (I nn)]) ++ List.replicate (4 - (lg_sl ([.ref a, .int (I slot), .int (I nn)])).length) Slot.unset).toArray = ls at hl ⊢
  have hl : lv_has ls 4 [(0, .ref a), (1, .int (I slot)), (2, .int (I nn))] := hl
  obtain ⟨a360, ea360, ra360, la360, ua360⟩ := hO.gi h_a (by decide) k13_36
  obtain ⟨a580, ea580, ra580, la580, ua580⟩ := hO.gi h_a (by decide) k13_58
  obtain ⟨a590, ea590, ra590, la590, ua590⟩ := hO.gi h_a (by decide) k13_59
  obtain ⟨a120, ea120, ra120, la120, ua120⟩ := hO.gi h_a (by decide) k13_12
  refine lv_aload_n hx hb dX11_path_0 rfl (lv_at hl 0 rfl) ?_
  refine lv_iconst (v := I 0) hx hb dX11_path_1 (by decide) ?_
  obtain ⟨z_1, e_2, rz_1, lz_1, uz_1⟩ := hO.gi h_a (by decide) k13_19
  obtain ⟨z_3, e_4, rz_3, lz_3, uz_3⟩ := hO.gi h_a (by decide) k13_20
  obtain ⟨z_5, e_6, rz_5, lz_5, uz_5⟩ := hO.gi h_a (by decide) k13_21
  refine ok.putJ hO h_a k13_0 (show rng 0 from ⟨by decide, by decide⟩) (by omega) (by omega) (fun _ he hl9 kk => th_put (ci := 11) (v := .int (I 0)) (ty := .int) (C := RX11) (T := TX11) (N := 66) hx hb hts inX11 tyX11 tyX11_ok nmX11 hown hK hH hS h00 he rfl 0 (by decide) fl0 rfl (by decide +kernel) rfl rfl hl9 dX11_path_2 kk) (fun σ_s_7 H locs hO hF9 hM9 hg9 ha9 hH hS => ?_)
  replace hM := hM.tu hM9 (by decide)
  replace hF := hF.tu hF9 (by decide)
  have e_8 : aF σ_s_7 (ad E a 1) = f1 := (hM9.a (by decide) (by decide)).trans ef1
  have e_9 : aF σ_s_7 (ad E a 37) = f37 := (hM9.a (by decide) (by decide)).trans ef37
  have e_10 : aF σ_s_7 (ad E a 61) = f61 := (hM9.a (by decide) (by decide)).trans ef61
  have e_11 : aF σ_s_7 (ad E a 62) = f62 := (hM9.a (by decide) (by decide)).trans ef62
  have e_12 : aF σ_s_7 (ad E a 39) = f39 := (hM9.a (by decide) (by decide)).trans ef39
  have e_13 : aF σ_s_7 (ad E a 40) = f40 := (hM9.a (by decide) (by decide)).trans ef40
  have e_14 : aF σ_s_7 (ad E a 42) = f42 := (hM9.a (by decide) (by decide)).trans ef42
  have e_15 : aF σ_s_7 (ad E a 43) = f43 := (hM9.a (by decide) (by decide)).trans ef43
  have e_16 : aF σ_s_7 (ad E a 44) = f44 := (hM9.a (by decide) (by decide)).trans ef44
  have e_17 : aF σ_s_7 (ad E a 45) = f45 := (hM9.a (by decide) (by decide)).trans ef45
  have e_18 : aF σ_s_7 (ad E a 46) = f46 := (hM9.a (by decide) (by decide)).trans ef46
  have e_19 : aF σ_s_7 (ad E a 6) = f6 := (hM9.a (by decide) (by decide)).trans ef6
  have e_20 : aF σ_s_7 (ad E a 8) = f8 := (hM9.a (by decide) (by decide)).trans ef8
  have e_21 : gI σ_s_7 a 36 = a360 := (hM9.i (by decide)).trans ea360
  have e_22 : gI σ_s_7 a 58 = a580 := (hM9.i (by decide)).trans ea580
  have e_23 : gI σ_s_7 a 59 = a590 := (hM9.i (by decide)).trans ea590
  have e_24 : gI σ_s_7 a 12 = a120 := (hM9.i (by decide)).trans ea120
  have e_25 : gI σ_s_7 a 19 = z_1 := (hM9.i (by decide)).trans e_2
  have e_26 : gI σ_s_7 a 20 = z_3 := (hM9.i (by decide)).trans e_4
  have e_27 : gI σ_s_7 a 21 = z_5 := (hM9.i (by decide)).trans e_6
  have e_28 := hg9
  refine lv_iload_n hx hb dX11_path_5 rfl (lv_at hl 1 rfl) ?_
  refine lv_iconst (v := I 0) hx hb dX11_path_6 (by decide) ?_
  refine lv_iconst (v := I 3) hx hb dX11_path_7 (by decide) ?_
  refine th_calli (va_runS (As := [.int (I slot), .int (I 0), .int (I 3)]) (rest := []) ⟨hx, hb, hml, hown, hts⟩ (w_isIn l G y b0 σ_s_7 E hO slot (show rng slot from rslot) 0 (show rng 0 from (show rng 0 from ⟨by decide, by decide⟩)) 3 (show rng 3 from (show rng 3 from ⟨by decide, by decide⟩))) (va_cwS 3 hts gX11_path_X11_isIn rfl rfl rfl (by decide +kernel) ⟨Nat.le_of_ble_eq_true rfl, Nat.le_of_ble_eq_true rfl⟩) (th_PS hK hH) rfl rfl hl.1 rfl (lv_room (Nat.le_of_ble_eq_true rfl)) dX11_path_8 ⟨Nat.le_of_ble_eq_true rfl, Nat.le_of_ble_eq_true rfl⟩) hS (fun z_31 σ_s_30 H locs rz_31 hw_29 hH hS => ?_)
  obtain ⟨e9, bhw_29, hw_29⟩ := hw_29
  replace e9 := e9.symm
  subst e9
  replace hw_29 : (z_31 = 1 ∧ 0 ≤ slot ∧ slot ≤ 3) ∨ (z_31 = 0 ∧ ¬ (0 ≤ slot ∧ slot ≤ 3)) := hw_29
  refine lv_if_ne (tgt := 20) hx hb dX11_path_11 (by decide) (fun c_32 => ?_) (fun c_32 => ?_)
  · replace c_32 := mt (I_eq (a := z_31) (b := 0) rz_31 (show rng 0 from ⟨by decide, by decide⟩)).mpr c_32
    refine lv_aload_n hx hb dX11_path_20 rfl (lv_at hl 0 rfl) ?_
    refine lv_iload_n hx hb dX11_path_21 rfl (lv_at hl 2 rfl) ?_
    obtain ⟨_, hc_33⟩ := hO.cell h_a (by decide) (ci := 11) rfl
    refine th_calli (va_runV (As := [.int (I nn)]) (rest := []) ⟨hx, hb, hml, hown, hts⟩ (m_isTape l G y b0 σ_s_7 E hO a h_a nn (show rng nn from rnn)) (cwV 1 hts gX11_path_X11_isTape rfl rfl rfl (by decide +kernel) ⟨Nat.le_of_ble_eq_true rfl, Nat.le_of_ble_eq_true rfl⟩) (th_PV hK hH rfl hc_33) rfl rfl hl.1 rfl (lv_room (Nat.le_of_ble_eq_true rfl)) dX11_path_22 ⟨Nat.le_of_ble_eq_true rfl, Nat.le_of_ble_eq_true rfl⟩) hS (fun z_36 σ_s_35 H locs rz_36 hw_34 hH hS => ?_)
    obtain ⟨e9, bhw_34, hw_34⟩ := hw_34
    replace e9 := e9.symm
    subst e9
    replace hw_34 : (z_36 = 1 ∧ 0 ≤ nn ∧ nn ≤ gI σ_s_7 a 12) ∨ (z_36 = 0 ∧ ¬ (0 ≤ nn ∧ nn ≤ gI σ_s_7 a 12)) := hw_34
    refine lv_if_ne (tgt := 34) hx hb dX11_path_25 (by decide) (fun c_37 => ?_) (fun c_37 => ?_)
    · replace c_37 := mt (I_eq (a := z_36) (b := 0) rz_36 (show rng 0 from ⟨by decide, by decide⟩)).mpr c_37
      refine lv_aload_n hx hb dX11_path_34 rfl (lv_at hl 0 rfl) ?_
      refine lv_iconst (v := I 0) hx hb dX11_path_35 (by decide) ?_
      refine ok.putJ hO h_a k13_12 (show rng 0 from ⟨by decide, by decide⟩) (by omega) (by omega) (fun _ he hl9 kk => th_put (ci := 11) (v := .int (I 0)) (ty := .int) (C := RX11) (T := TX11) (N := 66) hx hb hts inX11 tyX11 tyX11_ok nmX11 hown hK hH hS h00 he rfl 12 (by decide) fl1 rfl (by decide +kernel) rfl rfl hl9 dX11_path_36 kk) (fun σ_s_38 H locs hO hF9 hM9 hg9 ha9 hH hS => ?_)
      replace hM := hM.tu hM9 (by decide)
      replace hF := hF.tu hF9 (by decide)
      have e_39 : aF σ_s_38 (ad E a 1) = f1 := (hM9.a (by decide) (by decide)).trans e_8
      have e_40 : aF σ_s_38 (ad E a 37) = f37 := (hM9.a (by decide) (by decide)).trans e_9
      have e_41 : aF σ_s_38 (ad E a 61) = f61 := (hM9.a (by decide) (by decide)).trans e_10
      have e_42 : aF σ_s_38 (ad E a 62) = f62 := (hM9.a (by decide) (by decide)).trans e_11
      have e_43 : aF σ_s_38 (ad E a 39) = f39 := (hM9.a (by decide) (by decide)).trans e_12
      have e_44 : aF σ_s_38 (ad E a 40) = f40 := (hM9.a (by decide) (by decide)).trans e_13
      have e_45 : aF σ_s_38 (ad E a 42) = f42 := (hM9.a (by decide) (by decide)).trans e_14
      have e_46 : aF σ_s_38 (ad E a 43) = f43 := (hM9.a (by decide) (by decide)).trans e_15
      have e_47 : aF σ_s_38 (ad E a 44) = f44 := (hM9.a (by decide) (by decide)).trans e_16
      have e_48 : aF σ_s_38 (ad E a 45) = f45 := (hM9.a (by decide) (by decide)).trans e_17
      have e_49 : aF σ_s_38 (ad E a 46) = f46 := (hM9.a (by decide) (by decide)).trans e_18
      have e_50 : aF σ_s_38 (ad E a 6) = f6 := (hM9.a (by decide) (by decide)).trans e_19
      have e_51 : aF σ_s_38 (ad E a 8) = f8 := (hM9.a (by decide) (by decide)).trans e_20
      have e_52 : gI σ_s_38 a 36 = a360 := (hM9.i (by decide)).trans e_21
      have e_53 : gI σ_s_38 a 58 = a580 := (hM9.i (by decide)).trans e_22
      have e_54 : gI σ_s_38 a 59 = a590 := (hM9.i (by decide)).trans e_23
      have e_55 : gI σ_s_38 a 19 = z_1 := (hM9.i (by decide)).trans e_25
      have e_56 : gI σ_s_38 a 20 = z_3 := (hM9.i (by decide)).trans e_26
      have e_57 : gI σ_s_38 a 21 = z_5 := (hM9.i (by decide)).trans e_27
      have e_58 : gI σ_s_38 a 0 = 0 := (hM9.i (by decide)).trans e_28
      have e_59 := hg9
      refine lv_aload_n hx hb dX11_path_39 rfl (lv_at hl 0 rfl) ?_
      refine lv_iconst (v := I 0) hx hb dX11_path_40 (by decide) ?_
      refine ok.putJ hO h_a k13_25 (show rng 0 from ⟨by decide, by decide⟩) (by omega) (by omega) (fun _ he hl9 kk => th_put (ci := 11) (v := .int (I 0)) (ty := .boolean) (C := RX11) (T := TX11) (N := 66) hx hb hts inX11 tyX11 tyX11_ok nmX11 hown hK hH hS h00 he rfl 25 (by decide) fl2 rfl (by decide +kernel) (nar_z (by omega)) rfl hl9 dX11_path_41 kk) (fun σ_s_60 H locs hO hF9 hM9 hg9 ha9 hH hS => ?_)
      replace hM := hM.tu hM9 (by decide)
      replace hF := hF.tu hF9 (by decide)
      have e_61 : aF σ_s_60 (ad E a 1) = f1 := (hM9.a (by decide) (by decide)).trans e_39
      have e_62 : aF σ_s_60 (ad E a 37) = f37 := (hM9.a (by decide) (by decide)).trans e_40
      have e_63 : aF σ_s_60 (ad E a 61) = f61 := (hM9.a (by decide) (by decide)).trans e_41
      have e_64 : aF σ_s_60 (ad E a 62) = f62 := (hM9.a (by decide) (by decide)).trans e_42
      have e_65 : aF σ_s_60 (ad E a 39) = f39 := (hM9.a (by decide) (by decide)).trans e_43
      have e_66 : aF σ_s_60 (ad E a 40) = f40 := (hM9.a (by decide) (by decide)).trans e_44
      have e_67 : aF σ_s_60 (ad E a 42) = f42 := (hM9.a (by decide) (by decide)).trans e_45
      have e_68 : aF σ_s_60 (ad E a 43) = f43 := (hM9.a (by decide) (by decide)).trans e_46
      have e_69 : aF σ_s_60 (ad E a 44) = f44 := (hM9.a (by decide) (by decide)).trans e_47
      have e_70 : aF σ_s_60 (ad E a 45) = f45 := (hM9.a (by decide) (by decide)).trans e_48
      have e_71 : aF σ_s_60 (ad E a 46) = f46 := (hM9.a (by decide) (by decide)).trans e_49
      have e_72 : aF σ_s_60 (ad E a 6) = f6 := (hM9.a (by decide) (by decide)).trans e_50
      have e_73 : aF σ_s_60 (ad E a 8) = f8 := (hM9.a (by decide) (by decide)).trans e_51
      have e_74 : gI σ_s_60 a 36 = a360 := (hM9.i (by decide)).trans e_52
      have e_75 : gI σ_s_60 a 58 = a580 := (hM9.i (by decide)).trans e_53
      have e_76 : gI σ_s_60 a 59 = a590 := (hM9.i (by decide)).trans e_54
      have e_77 : gI σ_s_60 a 19 = z_1 := (hM9.i (by decide)).trans e_55
      have e_78 : gI σ_s_60 a 20 = z_3 := (hM9.i (by decide)).trans e_56
      have e_79 : gI σ_s_60 a 21 = z_5 := (hM9.i (by decide)).trans e_57
      have e_80 : gI σ_s_60 a 0 = 0 := (hM9.i (by decide)).trans e_58
      have e_81 : gI σ_s_60 a 12 = 0 := (hM9.i (by decide)).trans e_59
      have e_82 := hg9
      refine lv_aload_n hx hb dX11_path_44 rfl (lv_at hl 0 rfl) ?_
      refine lv_aload_n hx hb dX11_path_45 rfl (lv_at hl 0 rfl) ?_
      refine ok.getR hO h_a (by decide) k13_6 (by decide) (fun _ _ he hv kk => th_get (ci := 11) (C := RX11) (T := TX11) (N := 66) hx hb hts inX11 hown hK hH he rfl 6 (by decide) fl3 hv dX11_path_46 kk) ?_
      refine lv_iconst (v := I 0) hx hb dX11_path_49 (by decide) ?_
      refine lv_iload_n hx hb dX11_path_50 rfl (lv_at hl 2 rfl) ?_
      obtain ⟨_, hc_83⟩ := hO.cell h_a (by decide) (ci := 11) rfl
      refine th_callv (va_runV (As := [.ref (ad E a 6), .int (I 0), .int (I nn)]) (rest := []) ⟨hx, hb, hml, hown, hts⟩ (n_begin6 l G y b0 σ_s_60 E hO a h_a 0 (show rng 0 from (show rng 0 from ⟨by decide, by decide⟩)) (by omega) (by omega) nn (show rng nn from rnn) (by omega) (by omega) f6 e_72 T (hSt (by omega))) (cwV 3 hts gX11_path_X11_beginText rfl rfl rfl (by decide +kernel) ⟨Nat.le_of_ble_eq_true rfl, Nat.le_of_ble_eq_true rfl⟩) (th_PV hK hH rfl hc_83) rfl rfl hl.1 rfl (lv_room (Nat.le_of_ble_eq_true rfl)) dX11_path_51 ⟨Nat.le_of_ble_eq_true rfl, Nat.le_of_ble_eq_true rfl⟩) hS (fun σ_s_85 H locs hw_84 hH hS => ?_)
      obtain ⟨hO9, hF9, hM9, hw_84⟩ := hw_84
      replace hM := hM.tu hM9 (by decide)
      replace hF := hF.tu hF9 (by decide)
      have e_86 : aF σ_s_85 (ad E a 1) = f1 := (hM9.a (by decide) (by decide)).trans e_61
      have e_87 : aF σ_s_85 (ad E a 37) = f37 := (hM9.a (by decide) (by decide)).trans e_62
      have e_88 : aF σ_s_85 (ad E a 61) = f61 := (hM9.a (by decide) (by decide)).trans e_63
      have e_89 : aF σ_s_85 (ad E a 62) = f62 := (hM9.a (by decide) (by decide)).trans e_64
      have e_90 : aF σ_s_85 (ad E a 39) = f39 := (hM9.a (by decide) (by decide)).trans e_65
      have e_91 : aF σ_s_85 (ad E a 40) = f40 := (hM9.a (by decide) (by decide)).trans e_66
      have e_92 : aF σ_s_85 (ad E a 42) = f42 := (hM9.a (by decide) (by decide)).trans e_67
      have e_93 : aF σ_s_85 (ad E a 43) = f43 := (hM9.a (by decide) (by decide)).trans e_68
      have e_94 : aF σ_s_85 (ad E a 44) = f44 := (hM9.a (by decide) (by decide)).trans e_69
      have e_95 : aF σ_s_85 (ad E a 45) = f45 := (hM9.a (by decide) (by decide)).trans e_70
      have e_96 : aF σ_s_85 (ad E a 46) = f46 := (hM9.a (by decide) (by decide)).trans e_71
      have e_97 : aF σ_s_85 (ad E a 6) = f6 := (hM9.a (by decide) (by decide)).trans e_72
      have e_98 : aF σ_s_85 (ad E a 8) = f8 := (hM9.a (by decide) (by decide)).trans e_73
      have e_99 : gI σ_s_85 a 36 = a360 := (hM9.i (by decide)).trans e_74
      have e_100 : gI σ_s_85 a 58 = a580 := (hM9.i (by decide)).trans e_75
      have e_101 : gI σ_s_85 a 59 = a590 := (hM9.i (by decide)).trans e_76
      have e_102 : gI σ_s_85 a 21 = z_5 := (hM9.i (by decide)).trans e_79
      have e_103 : gI σ_s_85 a 0 = 0 := (hM9.i (by decide)).trans e_80
      have e_104 : gI σ_s_85 a 12 = 0 := (hM9.i (by decide)).trans e_81
      have e_105 : gI σ_s_85 a 25 = 0 := (hM9.i (by decide)).trans e_82
      replace hO := hO9
      obtain ⟨Bf, hsr, hw_84⟩ := hw_84
      replace hw_84 : (gI σ_s_85 a 11 = nn ∧ 0 ≤ gI σ_s_85 a 17 ∧ gI σ_s_85 a 17 ≤ gI σ_s_85 a 13 ∧ gI σ_s_85 a 13 ≤ gI σ_s_85 a 11 ∧ gI σ_s_85 a 19 = 0) ∧ Bf = byf f6 nn ∧ RSt σ_s_85 a T 0 0 := hw_84
      obtain ⟨hq_106, hBe9, hR9⟩ := hw_84
      have hSt : tkSt Bf T := by rw [hBe9]; exact hSt (by omega)
      have hV9 := hR9.1
      refine lv_aload_n hx hb dX11_path_54 rfl (lv_at hl 0 rfl) ?_
      refine lv_iconst (v := I (-1)) hx hb dX11_path_55 (by decide) ?_
      obtain ⟨_, hc_107⟩ := hO.cell h_a (by decide) (ci := 11) rfl
      refine th_callv (va_runV (As := [.int (I (-1))]) (rest := []) ⟨hx, hb, hml, hown, hts⟩ (n_readPath l G y b0 σ_s_85 E hO a h_a (-1) (show rng (-1) from (show rng (-1) from ⟨by decide, by decide⟩)) f1 e_86 Bf hsr T hSt 0 0 hR9 (by omega) (by omega) (by omega) (by omega) (by omega)) (cwV 1 hts gX11_path_X11_readPath rfl rfl rfl (by decide +kernel) ⟨Nat.le_of_ble_eq_true rfl, Nat.le_of_ble_eq_true rfl⟩) (th_PV hK hH rfl hc_107) rfl rfl hl.1 rfl (lv_room (Nat.le_of_ble_eq_true rfl)) dX11_path_56 ⟨Nat.le_of_ble_eq_true rfl, Nat.le_of_ble_eq_true rfl⟩) hS (fun σ_s_109 H locs hw_108 hH hS => ?_)
      obtain ⟨hO9, hF9, hM9, hw_108⟩ := hw_108
      replace hM := hM.tu hM9 (by decide)
      replace hF := hF.tu hF9 (by decide)
      have e_110 : aF σ_s_109 (ad E a 1) = f1 := (hM9.a (by decide) (by decide)).trans e_86
      have e_111 : aF σ_s_109 (ad E a 37) = f37 := (hM9.a (by decide) (by decide)).trans e_87
      have e_112 : aF σ_s_109 (ad E a 61) = f61 := (hM9.a (by decide) (by decide)).trans e_88
      have e_113 : aF σ_s_109 (ad E a 62) = f62 := (hM9.a (by decide) (by decide)).trans e_89
      have e_114 : aF σ_s_109 (ad E a 39) = f39 := (hM9.a (by decide) (by decide)).trans e_90
      have e_115 : aF σ_s_109 (ad E a 40) = f40 := (hM9.a (by decide) (by decide)).trans e_91
      have e_116 : aF σ_s_109 (ad E a 42) = f42 := (hM9.a (by decide) (by decide)).trans e_92
      have e_117 : aF σ_s_109 (ad E a 43) = f43 := (hM9.a (by decide) (by decide)).trans e_93
      have e_118 : aF σ_s_109 (ad E a 44) = f44 := (hM9.a (by decide) (by decide)).trans e_94
      have e_119 : aF σ_s_109 (ad E a 45) = f45 := (hM9.a (by decide) (by decide)).trans e_95
      have e_120 : aF σ_s_109 (ad E a 46) = f46 := (hM9.a (by decide) (by decide)).trans e_96
      have e_121 : aF σ_s_109 (ad E a 6) = f6 := (hM9.a (by decide) (by decide)).trans e_97
      have e_122 : aF σ_s_109 (ad E a 8) = f8 := (hM9.a (by decide) (by decide)).trans e_98
      have e_123 : gI σ_s_109 a 36 = a360 := (hM9.i (by decide)).trans e_99
      have e_124 : gI σ_s_109 a 58 = a580 := (hM9.i (by decide)).trans e_100
      have e_125 : gI σ_s_109 a 59 = a590 := (hM9.i (by decide)).trans e_101
      have e_126 : gI σ_s_109 a 21 = z_5 := (hM9.i (by decide)).trans e_102
      have e_127 : gI σ_s_109 a 0 = 0 := (hM9.i (by decide)).trans e_103
      have e_128 : gI σ_s_109 a 12 = 0 := (hM9.i (by decide)).trans e_104
      have e_129 : gI σ_s_109 a 25 = 0 := (hM9.i (by decide)).trans e_105
      replace hsr := hsr.mv hM9 (by decide) (by decide) (by decide) (by decide) (by decide)
      replace hO := hO9
      replace hw_108 : (0 ≤ gI σ_s_109 a 26 ∧ gI σ_s_109 a 26 ≤ 8) ∧ ∃ c1 j1, RSt σ_s_109 a T c1 j1 ∧ (c1 = 0 → tK T j1 = 259) ∧ GPe T c1 j1 := hw_108
      have hn_130 := hw_108.2
      replace hw_108 := hw_108.1
      obtain ⟨cc_131, jj_132, hR_133, hn_130⟩ := hn_130
      have hVhR_133 := hR_133.1
      obtain ⟨z_134, e_135, rz_134, lz_134, uz_134⟩ := hO.gi h_a (by decide) k13_19
      obtain ⟨z_136, e_137, rz_136, lz_136, uz_136⟩ := hO.gi h_a (by decide) k13_20
      refine lv_aload_n hx hb dX11_path_59 rfl (lv_at hl 0 rfl) ?_
      obtain ⟨_, hc_138⟩ := hO.cell h_a (by decide) (ci := 11) rfl
      refine th_calli (va_runV (As := []) (rest := []) ⟨hx, hb, hml, hown, hts⟩ (n_isRead l G y b0 σ_s_109 E hO a h_a) (cwV 0 hts gX11_path_X11_isRead rfl rfl rfl (by decide +kernel) ⟨Nat.le_of_ble_eq_true rfl, Nat.le_of_ble_eq_true rfl⟩) (th_PV hK hH rfl hc_138) rfl rfl hl.1 rfl (lv_room (Nat.le_of_ble_eq_true rfl)) dX11_path_60 ⟨Nat.le_of_ble_eq_true rfl, Nat.le_of_ble_eq_true rfl⟩) hS (fun z_141 σ_s_140 H locs rz_141 hw_139 hH hS => ?_)
      obtain ⟨hO9, hF9, hM9, bhw_139, hw_139⟩ := hw_139
      replace hM := hM.tu hM9 (by decide)
      replace hF := hF.tu hF9 (by decide)
      have e_142 : aF σ_s_140 (ad E a 1) = f1 := (hM9.a (by decide) (by decide)).trans e_110
      have e_143 : aF σ_s_140 (ad E a 37) = f37 := (hM9.a (by decide) (by decide)).trans e_111
      have e_144 : aF σ_s_140 (ad E a 61) = f61 := (hM9.a (by decide) (by decide)).trans e_112
      have e_145 : aF σ_s_140 (ad E a 62) = f62 := (hM9.a (by decide) (by decide)).trans e_113
      have e_146 : aF σ_s_140 (ad E a 39) = f39 := (hM9.a (by decide) (by decide)).trans e_114
      have e_147 : aF σ_s_140 (ad E a 40) = f40 := (hM9.a (by decide) (by decide)).trans e_115
      have e_148 : aF σ_s_140 (ad E a 42) = f42 := (hM9.a (by decide) (by decide)).trans e_116
      have e_149 : aF σ_s_140 (ad E a 43) = f43 := (hM9.a (by decide) (by decide)).trans e_117
      have e_150 : aF σ_s_140 (ad E a 44) = f44 := (hM9.a (by decide) (by decide)).trans e_118
      have e_151 : aF σ_s_140 (ad E a 45) = f45 := (hM9.a (by decide) (by decide)).trans e_119
      have e_152 : aF σ_s_140 (ad E a 46) = f46 := (hM9.a (by decide) (by decide)).trans e_120
      have e_153 : aF σ_s_140 (ad E a 6) = f6 := (hM9.a (by decide) (by decide)).trans e_121
      have e_154 : aF σ_s_140 (ad E a 8) = f8 := (hM9.a (by decide) (by decide)).trans e_122
      have e_155 : gI σ_s_140 a 36 = a360 := (hM9.i (by decide)).trans e_123
      have e_156 : gI σ_s_140 a 58 = a580 := (hM9.i (by decide)).trans e_124
      have e_157 : gI σ_s_140 a 59 = a590 := (hM9.i (by decide)).trans e_125
      have e_158 : gI σ_s_140 a 0 = 0 := (hM9.i (by decide)).trans e_127
      have e_159 : gI σ_s_140 a 12 = 0 := (hM9.i (by decide)).trans e_128
      have e_160 : gI σ_s_140 a 25 = 0 := (hM9.i (by decide)).trans e_129
      have e_161 : gI σ_s_140 a 19 = z_134 := (hM9.i (by decide)).trans e_135
      have e_162 : gI σ_s_140 a 20 = z_136 := (hM9.i (by decide)).trans e_137
      replace hsr := hsr.mv hM9 (by decide) (by decide) (by decide) (by decide) (by decide)
      replace hO := hO9
      replace hw_139 : ((z_141 = 1 ∧ gI σ_s_109 a 19 = 0) ∨ (z_141 = 0 ∧ ¬ gI σ_s_109 a 19 = 0)) ∧ ((gI σ_s_109 a 19 = 0 ∧ gI σ_s_140 a 21 = -1) ∨ (¬ gI σ_s_109 a 19 = 0 ∧ gI σ_s_140 a 21 = gI σ_s_109 a 20)) := hw_139
      obtain ⟨z_163, e_164, rz_163, lz_163, uz_163⟩ := hO.gi h_a (by decide) k13_21
      refine lv_if_ne (tgt := 71) hx hb dX11_path_63 (by decide) (fun c_165 => ?_) (fun c_165 => ?_)
      · replace c_165 := mt (I_eq (a := z_141) (b := 0) rz_141 (show rng 0 from ⟨by decide, by decide⟩)).mpr c_165
        refine lv_iconst (v := I 0) hx hb dX11_path_71 (by decide) ?_
        refine lv_istore_n (lv' := [(3, .int (I 0)), (0, .ref a), (1, .int (I slot)), (2, .int (I nn))]) hx hb dX11_path_72 rfl hl (by decide) rfl (fun ls hl => ?_)
        refine th_loop (α := Int) (pc := 73) (fun x9 => (nn - x9).toNat) (fun x9 σ9 H9 l9 ls9 => ok y E σ9 ∧ fr [13] E σ σ9 ∧ fm [0, 4, 7, 8, 9, 10, 11, 12, 13, 14, 15, 16, 17, 18, 19, 20, 21, 23, 24, 25, 26, 27, 28, 29, 30] E σ σ9 a ∧ th_H G b0 σ9 H9 ∧ va_S (th_A b0) s.heap H9 l9 ∧ lv_has ls9 4 [(0, .ref a), (1, .int (I slot)), (2, .int (I nn)), (3, .int (I x9))] ∧ rng x9 ∧ (0 ≤ x9) ∧ (x9 ≤ 400) ∧ (gI σ9 a 36 = a360) ∧ (gI σ9 a 58 = a580) ∧ (gI σ9 a 59 = a590) ∧ (gI σ9 a 0 = 0) ∧ (gI σ9 a 12 = 0) ∧ (gI σ9 a 25 = 0) ∧ (gI σ9 a 19 = z_134) ∧ (gI σ9 a 20 = z_136) ∧ (gI σ9 a 21 = z_163) ∧ (aF σ9 (ad E a 1) = f1) ∧ (aF σ9 (ad E a 37) = f37) ∧ (aF σ9 (ad E a 61) = f61) ∧ (aF σ9 (ad E a 62) = f62) ∧ (aF σ9 (ad E a 39) = f39) ∧ (aF σ9 (ad E a 40) = f40) ∧ (aF σ9 (ad E a 42) = f42) ∧ (aF σ9 (ad E a 43) = f43) ∧ (aF σ9 (ad E a 44) = f44) ∧ (aF σ9 (ad E a 45) = f45) ∧ (aF σ9 (ad E a 46) = f46) ∧ (aF σ9 (ad E a 6) = f6) ∧ (aF σ9 (ad E a 8) = f8)) ?_ (0) σ_s_140 _ _ _ ⟨hO, hF, hM, hH, hS, lv_sub hl [1, 2, 3, 0] rfl, (show rng 0 from ⟨by decide, by decide⟩), by first | (dsimp only; omega) | omega, by first | (dsimp only; omega) | omega, e_155, e_156, e_157, e_158, e_159, e_160, e_161, e_162, e_164, e_142, e_143, e_144, e_145, e_146, e_147, e_148, e_149, e_150, e_151, e_152, e_153, e_154⟩
        intro x9 σ_J_198 H locs ls hI9 ihJ_198
        obtain ⟨v3q197, ex9⟩ : ∃ z, z = x9 := ⟨_, rfl⟩
        subst ex9
        obtain ⟨hO, hF, hM, hH, hS, hl, rv3q197, J_198_0, J_198_1, J_198_2, J_198_3, J_198_4, J_198_5, J_198_6, J_198_7, J_198_8, J_198_9, J_198_10, J_198_11, J_198_12, J_198_13, J_198_14, J_198_15, J_198_16, J_198_17, J_198_18, J_198_19, J_198_20, J_198_21, J_198_22, J_198_23⟩ := hI9
        have hl : lv_has ls 4 [(0, .ref a), (1, .int (I slot)), (2, .int (I nn)), (3, .int (I v3q197))] := hl
        have rv3q197 : rng v3q197 := rv3q197
        replace J_198_0 : 0 ≤ v3q197 := J_198_0
        replace J_198_1 : v3q197 ≤ 400 := J_198_1
        replace J_198_2 : gI σ_J_198 a 36 = a360 := J_198_2
        replace J_198_3 : gI σ_J_198 a 58 = a580 := J_198_3
        replace J_198_4 : gI σ_J_198 a 59 = a590 := J_198_4
        replace J_198_5 : gI σ_J_198 a 0 = 0 := J_198_5
        replace J_198_6 : gI σ_J_198 a 12 = 0 := J_198_6
        replace J_198_7 : gI σ_J_198 a 25 = 0 := J_198_7
        replace J_198_8 : gI σ_J_198 a 19 = z_134 := J_198_8
        replace J_198_9 : gI σ_J_198 a 20 = z_136 := J_198_9
        replace J_198_10 : gI σ_J_198 a 21 = z_163 := J_198_10
        replace J_198_11 : aF σ_J_198 (ad E a 1) = f1 := J_198_11
        replace J_198_12 : aF σ_J_198 (ad E a 37) = f37 := J_198_12
        replace J_198_13 : aF σ_J_198 (ad E a 61) = f61 := J_198_13
        replace J_198_14 : aF σ_J_198 (ad E a 62) = f62 := J_198_14
        replace J_198_15 : aF σ_J_198 (ad E a 39) = f39 := J_198_15
        replace J_198_16 : aF σ_J_198 (ad E a 40) = f40 := J_198_16
        replace J_198_17 : aF σ_J_198 (ad E a 42) = f42 := J_198_17
        replace J_198_18 : aF σ_J_198 (ad E a 43) = f43 := J_198_18
        replace J_198_19 : aF σ_J_198 (ad E a 44) = f44 := J_198_19
        replace J_198_20 : aF σ_J_198 (ad E a 45) = f45 := J_198_20
        replace J_198_21 : aF σ_J_198 (ad E a 46) = f46 := J_198_21
        replace J_198_22 : aF σ_J_198 (ad E a 6) = f6 := J_198_22
        replace J_198_23 : aF σ_J_198 (ad E a 8) = f8 := J_198_23
        refine lv_iload_n hx hb dX11_path_73 rfl (lv_at hl 3 rfl) ?_
        refine lv_iload_n hx hb dX11_path_74 rfl (lv_at hl 2 rfl) ?_
        refine lv_icmp_ge (tgt := 102) hx hb dX11_path_75 (by decide) (fun c_199 => ?_) (fun c_199 => ?_)
        · replace c_199 := (I_le (a := nn) (b := v3q197) rnn rv3q197).mp c_199
          refine lv_aload_n hx hb dX11_path_102 rfl (lv_at hl 0 rfl) ?_
          refine ok.getR hO h_a (by decide) k13_8 (by decide) (fun _ _ he hv kk => th_get (ci := 11) (C := RX11) (T := TX11) (N := 66) hx hb hts inX11 hown hK hH he rfl 8 (by decide) fl4 hv dX11_path_103 kk) ?_
          refine lv_iload_n hx hb dX11_path_106 rfl (lv_at hl 1 rfl) ?_
          refine lv_iload_n hx hb dX11_path_107 rfl (lv_at hl 2 rfl) ?_
          refine lv_iconst (v := I 1) hx hb dX11_path_108 (by decide) ?_
          refine lv_iadd hx hb dX11_path_109 ?_
          refine th_addo (fun z_200 rz_200 hz_200 => ?_)
          refine m_iast hx hb hK hH hS h00 hO h_a k13_8 isA9 (by decide) J_198_23 rslot (by omega) (by omega) rz_200 (el9 (by omega) (by omega)) dX11_path_110 (fun σ_s_201 H locs hO hF9 hM9 ha9 hH hS => ?_)
          replace hM := hM.tu hM9 (by decide)
          replace hF := hF.tu hF9 (by decide)
          have e_202 : gI σ_s_201 a 36 = a360 := (hM9.i (by decide)).trans J_198_2
          have e_203 : gI σ_s_201 a 58 = a580 := (hM9.i (by decide)).trans J_198_3
          have e_204 : gI σ_s_201 a 59 = a590 := (hM9.i (by decide)).trans J_198_4
          have e_205 : gI σ_s_201 a 0 = 0 := (hM9.i (by decide)).trans J_198_5
          have e_206 : gI σ_s_201 a 12 = 0 := (hM9.i (by decide)).trans J_198_6
          have e_207 : gI σ_s_201 a 25 = 0 := (hM9.i (by decide)).trans J_198_7
          have e_208 : gI σ_s_201 a 19 = z_134 := (hM9.i (by decide)).trans J_198_8
          have e_209 : gI σ_s_201 a 20 = z_136 := (hM9.i (by decide)).trans J_198_9
          have e_210 : gI σ_s_201 a 21 = z_163 := (hM9.i (by decide)).trans J_198_10
          have e_211 : aF σ_s_201 (ad E a 1) = f1 := (hM9.a (by decide) (by decide)).trans J_198_11
          have e_212 : aF σ_s_201 (ad E a 37) = f37 := (hM9.a (by decide) (by decide)).trans J_198_12
          have e_213 : aF σ_s_201 (ad E a 61) = f61 := (hM9.a (by decide) (by decide)).trans J_198_13
          have e_214 : aF σ_s_201 (ad E a 62) = f62 := (hM9.a (by decide) (by decide)).trans J_198_14
          have e_215 : aF σ_s_201 (ad E a 39) = f39 := (hM9.a (by decide) (by decide)).trans J_198_15
          have e_216 : aF σ_s_201 (ad E a 40) = f40 := (hM9.a (by decide) (by decide)).trans J_198_16
          have e_217 : aF σ_s_201 (ad E a 42) = f42 := (hM9.a (by decide) (by decide)).trans J_198_17
          have e_218 : aF σ_s_201 (ad E a 43) = f43 := (hM9.a (by decide) (by decide)).trans J_198_18
          have e_219 : aF σ_s_201 (ad E a 44) = f44 := (hM9.a (by decide) (by decide)).trans J_198_19
          have e_220 : aF σ_s_201 (ad E a 45) = f45 := (hM9.a (by decide) (by decide)).trans J_198_20
          have e_221 : aF σ_s_201 (ad E a 46) = f46 := (hM9.a (by decide) (by decide)).trans J_198_21
          have e_222 : aF σ_s_201 (ad E a 6) = f6 := (hM9.a (by decide) (by decide)).trans J_198_22
          obtain ⟨g_223, dg_223⟩ : ∃ g9, g9 = upd f8 (slot).toNat (I z_200) := ⟨_, rfl⟩
          rw [← dg_223] at ha9
          have ef_224 := ha9
          refine lv_iconst (v := I 0) hx hb dX11_path_111 (by decide) ?_
          exact th_iret hx hb hr hlocks hH hS (z := 0) (show rng 0 from ⟨by decide, by decide⟩) ⟨hO, hF, hM, ⟨(by rw [show aF σ_s_201 (ad E a 1) = f1 from e_211, show aF σ_s_201 (ad E a 37) = f37 from e_212, show aF σ_s_201 (ad E a 61) = f61 from e_213, show aF σ_s_201 (ad E a 62) = f62 from e_214, show aF σ_s_201 (ad E a 39) = f39 from e_215, show aF σ_s_201 (ad E a 40) = f40 from e_216, show aF σ_s_201 (ad E a 42) = f42 from e_217, show aF σ_s_201 (ad E a 43) = f43 from e_218, show aF σ_s_201 (ad E a 44) = f44 from e_219, show aF σ_s_201 (ad E a 45) = f45 from e_220, show aF σ_s_201 (ad E a 46) = f46 from e_221]; exact ⟨hj.n (by omega) (by omega) (by omega), by omega⟩), fun _ => ⟨GPe.fin hn_130.2 hn_130.1 (show (0 : Int) = cc_131 by omega) (by omega), by omega⟩, fun h9 => absurd (show 0 ≤ slot ∧ slot ≤ 3 by omega) h9, fun h9 => absurd (show 0 ≤ nn ∧ nn ≤ gI σ a 12 by omega) h9.2⟩⟩ dX11_path_112
        · replace c_199 := mt (I_le (a := nn) (b := v3q197) rnn rv3q197).mpr c_199
          refine lv_aload_n hx hb dX11_path_78 rfl (lv_at hl 0 rfl) ?_
          refine ok.getR hO h_a (by decide) k13_7 (by decide) (fun _ _ he hv kk => th_get (ci := 11) (C := RX11) (T := TX11) (N := 66) hx hb hts inX11 hown hK hH he rfl 7 (by decide) fl5 hv dX11_path_79 kk) ?_
          refine lv_sipush (v := I 400) hx hb dX11_path_82 (by decide) ?_
          refine lv_iload_n hx hb dX11_path_85 rfl (lv_at hl 1 rfl) ?_
          refine lv_imul hx hb dX11_path_86 ?_
          refine nq_top (I_mul _ _) ?_
          refine lv_iload_n hx hb dX11_path_87 rfl (lv_at hl 3 rfl) ?_
          refine lv_iadd hx hb dX11_path_88 ?_
          refine th_addo (fun z_225 rz_225 hz_225 => ?_)
          refine lv_aload_n hx hb dX11_path_89 rfl (lv_at hl 0 rfl) ?_
          refine ok.getR hO h_a (by decide) k13_6 (by decide) (fun _ _ he hv kk => th_get (ci := 11) (C := RX11) (T := TX11) (N := 66) hx hb hts inX11 hown hK hH he rfl 6 (by decide) fl3 hv dX11_path_90 kk) ?_
          refine lv_iload_n hx hb dX11_path_93 rfl (lv_at hl 3 rfl) ?_
          refine m_iald hx hb hK hH hO h_a k13_6 isA1 J_198_22 rv3q197 (by omega) (by omega) dX11_path_94 (fun z_226 ez_226 rz_226 elx9 => ?_)
          obtain ⟨f_228, ef_229⟩ : ∃ f9, aF σ_J_198 (ad E a 7) = f9 := ⟨_, rfl⟩
          refine m_iast hx hb hK hH hS h00 hO h_a k13_7 isA1 (by decide) ef_229 rz_225 (by omega) (by omega) rz_226 el1 dX11_path_95 (fun σ_s_227 H locs hO hF9 hM9 ha9 hH hS => ?_)
          replace hM := hM.tu hM9 (by decide)
          replace hF := hF.tu hF9 (by decide)
          have e_230 : gI σ_s_227 a 36 = a360 := (hM9.i (by decide)).trans J_198_2
          have e_231 : gI σ_s_227 a 58 = a580 := (hM9.i (by decide)).trans J_198_3
          have e_232 : gI σ_s_227 a 59 = a590 := (hM9.i (by decide)).trans J_198_4
          have e_233 : gI σ_s_227 a 0 = 0 := (hM9.i (by decide)).trans J_198_5
          have e_234 : gI σ_s_227 a 12 = 0 := (hM9.i (by decide)).trans J_198_6
          have e_235 : gI σ_s_227 a 25 = 0 := (hM9.i (by decide)).trans J_198_7
          have e_236 : gI σ_s_227 a 19 = z_134 := (hM9.i (by decide)).trans J_198_8
          have e_237 : gI σ_s_227 a 20 = z_136 := (hM9.i (by decide)).trans J_198_9
          have e_238 : gI σ_s_227 a 21 = z_163 := (hM9.i (by decide)).trans J_198_10
          have e_239 : aF σ_s_227 (ad E a 1) = f1 := (hM9.a (by decide) (by decide)).trans J_198_11
          have e_240 : aF σ_s_227 (ad E a 37) = f37 := (hM9.a (by decide) (by decide)).trans J_198_12
          have e_241 : aF σ_s_227 (ad E a 61) = f61 := (hM9.a (by decide) (by decide)).trans J_198_13
          have e_242 : aF σ_s_227 (ad E a 62) = f62 := (hM9.a (by decide) (by decide)).trans J_198_14
          have e_243 : aF σ_s_227 (ad E a 39) = f39 := (hM9.a (by decide) (by decide)).trans J_198_15
          have e_244 : aF σ_s_227 (ad E a 40) = f40 := (hM9.a (by decide) (by decide)).trans J_198_16
          have e_245 : aF σ_s_227 (ad E a 42) = f42 := (hM9.a (by decide) (by decide)).trans J_198_17
          have e_246 : aF σ_s_227 (ad E a 43) = f43 := (hM9.a (by decide) (by decide)).trans J_198_18
          have e_247 : aF σ_s_227 (ad E a 44) = f44 := (hM9.a (by decide) (by decide)).trans J_198_19
          have e_248 : aF σ_s_227 (ad E a 45) = f45 := (hM9.a (by decide) (by decide)).trans J_198_20
          have e_249 : aF σ_s_227 (ad E a 46) = f46 := (hM9.a (by decide) (by decide)).trans J_198_21
          have e_250 : aF σ_s_227 (ad E a 6) = f6 := (hM9.a (by decide) (by decide)).trans J_198_22
          have e_251 : aF σ_s_227 (ad E a 8) = f8 := (hM9.a (by decide) (by decide)).trans J_198_23
          obtain ⟨g_252, dg_252⟩ : ∃ g9, g9 = upd f_228 (z_225).toNat (I z_226) := ⟨_, rfl⟩
          rw [← dg_252] at ha9
          have ef_253 := ha9
          refine lv_iinc (v := I (v3q197 + 1)) (lv' := [(3, .int (I (v3q197 + 1))), (0, .ref a), (1, .int (I slot)), (2, .int (I nn))]) hx hb dX11_path_96 hl (k := 3) rfl (I_add _ _) (by decide) rfl (fun ls hl => ?_)
          refine lv_goto (tgt := 73) hx hb dX11_path_99 (by decide) ?_
          exact ihJ_198 (v3q197 + 1) σ_s_227 _ _ _ (by first | (dsimp only; omega) | omega) ⟨hO, hF, hM, hH, hS, lv_sub hl [1, 2, 3, 0] rfl, ⟨by first | (dsimp only; omega) | omega, by first | (dsimp only; omega) | omega⟩, by first | (dsimp only; omega) | omega, by first | (dsimp only; omega) | omega, e_230, e_231, e_232, e_233, e_234, e_235, e_236, e_237, e_238, e_239, e_240, e_241, e_242, e_243, e_244, e_245, e_246, e_247, e_248, e_249, e_250, e_251⟩
      · replace c_165 := (I_eq (a := z_141) (b := 0) rz_141 (show rng 0 from ⟨by decide, by decide⟩)).mp c_165
        refine lv_aload_n hx hb dX11_path_66 rfl (lv_at hl 0 rfl) ?_
        refine ok.getIc hO h_a (by decide) k13_19 e_161 (fun _ _ he hv kk => th_get (ci := 11) (C := RX11) (T := TX11) (N := 66) hx hb hts inX11 hown hK hH he rfl 19 (by decide) fl6 hv dX11_path_67 kk) ?_
        exact th_iret hx hb hr hlocks hH hS (z := z_134) rz_134 ⟨hO, hF, hM, ⟨(by rw [show aF σ_s_140 (ad E a 1) = f1 from e_142, show aF σ_s_140 (ad E a 37) = f37 from e_143, show aF σ_s_140 (ad E a 61) = f61 from e_144, show aF σ_s_140 (ad E a 62) = f62 from e_145, show aF σ_s_140 (ad E a 39) = f39 from e_146, show aF σ_s_140 (ad E a 40) = f40 from e_147, show aF σ_s_140 (ad E a 42) = f42 from e_148, show aF σ_s_140 (ad E a 43) = f43 from e_149, show aF σ_s_140 (ad E a 44) = f44 from e_150, show aF σ_s_140 (ad E a 45) = f45 from e_151, show aF σ_s_140 (ad E a 46) = f46 from e_152]; exact ⟨hj.n (by omega) (by omega) (by omega), by omega⟩), fun _ => ⟨GPe.fin hn_130.2 hn_130.1 (show z_134 = cc_131 by omega) (by omega), by omega⟩, fun h9 => absurd (show 0 ≤ slot ∧ slot ≤ 3 by omega) h9, fun h9 => absurd (show 0 ≤ nn ∧ nn ≤ gI σ a 12 by omega) h9.2⟩⟩ dX11_path_70
    · replace c_37 := (I_eq (a := z_36) (b := 0) rz_36 (show rng 0 from ⟨by decide, by decide⟩)).mp c_37
      refine lv_aload_n hx hb dX11_path_28 rfl (lv_at hl 0 rfl) ?_
      refine lv_iconst (v := I 2) hx hb dX11_path_29 (by decide) ?_
      obtain ⟨_, hc_254⟩ := hO.cell h_a (by decide) (ci := 11) rfl
      refine th_calli (va_runV (As := [.int (I 2)]) (rest := []) ⟨hx, hb, hml, hown, hts⟩ (n_fail l G y b0 σ_s_7 E hO a h_a 2 (show rng 2 from (show rng 2 from ⟨by decide, by decide⟩))) (cwV 1 hts gX11_path_X11_fail rfl rfl rfl (by decide +kernel) ⟨Nat.le_of_ble_eq_true rfl, Nat.le_of_ble_eq_true rfl⟩) (th_PV hK hH rfl hc_254) rfl rfl hl.1 rfl (lv_room (Nat.le_of_ble_eq_true rfl)) dX11_path_30 ⟨Nat.le_of_ble_eq_true rfl, Nat.le_of_ble_eq_true rfl⟩) hS (fun z_257 σ_s_256 H locs rz_257 hw_255 hH hS => ?_)
      obtain ⟨hO9, hF9, hM9, hw_255⟩ := hw_255
      replace hM := hM.tu hM9 (by decide)
      replace hF := hF.tu hF9 (by decide)
      have e_258 : aF σ_s_256 (ad E a 1) = f1 := (hM9.a (by decide) (by decide)).trans e_8
      have e_259 : aF σ_s_256 (ad E a 37) = f37 := (hM9.a (by decide) (by decide)).trans e_9
      have e_260 : aF σ_s_256 (ad E a 61) = f61 := (hM9.a (by decide) (by decide)).trans e_10
      have e_261 : aF σ_s_256 (ad E a 62) = f62 := (hM9.a (by decide) (by decide)).trans e_11
      have e_262 : aF σ_s_256 (ad E a 39) = f39 := (hM9.a (by decide) (by decide)).trans e_12
      have e_263 : aF σ_s_256 (ad E a 40) = f40 := (hM9.a (by decide) (by decide)).trans e_13
      have e_264 : aF σ_s_256 (ad E a 42) = f42 := (hM9.a (by decide) (by decide)).trans e_14
      have e_265 : aF σ_s_256 (ad E a 43) = f43 := (hM9.a (by decide) (by decide)).trans e_15
      have e_266 : aF σ_s_256 (ad E a 44) = f44 := (hM9.a (by decide) (by decide)).trans e_16
      have e_267 : aF σ_s_256 (ad E a 45) = f45 := (hM9.a (by decide) (by decide)).trans e_17
      have e_268 : aF σ_s_256 (ad E a 46) = f46 := (hM9.a (by decide) (by decide)).trans e_18
      have e_269 : aF σ_s_256 (ad E a 6) = f6 := (hM9.a (by decide) (by decide)).trans e_19
      have e_270 : aF σ_s_256 (ad E a 8) = f8 := (hM9.a (by decide) (by decide)).trans e_20
      have e_271 : gI σ_s_256 a 36 = a360 := (hM9.i (by decide)).trans e_21
      have e_272 : gI σ_s_256 a 58 = a580 := (hM9.i (by decide)).trans e_22
      have e_273 : gI σ_s_256 a 59 = a590 := (hM9.i (by decide)).trans e_23
      have e_274 : gI σ_s_256 a 12 = a120 := (hM9.i (by decide)).trans e_24
      have e_275 : gI σ_s_256 a 19 = z_1 := (hM9.i (by decide)).trans e_25
      have e_276 : gI σ_s_256 a 20 = z_3 := (hM9.i (by decide)).trans e_26
      have e_277 : gI σ_s_256 a 21 = z_5 := (hM9.i (by decide)).trans e_27
      replace hO := hO9
      replace hw_255 : z_257 = 0 ∧ gI σ_s_256 a 0 = 2 := hw_255
      exact th_iret hx hb hr hlocks hH hS (z := z_257) rz_257 ⟨hO, hF, hM, ⟨(by rw [show aF σ_s_256 (ad E a 1) = f1 from e_258, show aF σ_s_256 (ad E a 37) = f37 from e_259, show aF σ_s_256 (ad E a 61) = f61 from e_260, show aF σ_s_256 (ad E a 62) = f62 from e_261, show aF σ_s_256 (ad E a 39) = f39 from e_262, show aF σ_s_256 (ad E a 40) = f40 from e_263, show aF σ_s_256 (ad E a 42) = f42 from e_264, show aF σ_s_256 (ad E a 43) = f43 from e_265, show aF σ_s_256 (ad E a 44) = f44 from e_266, show aF σ_s_256 (ad E a 45) = f45 from e_267, show aF σ_s_256 (ad E a 46) = f46 from e_268]; exact ⟨hj.n (by omega) (by omega) (by omega), by omega⟩), fun h9 => absurd h9.2 (by omega), fun h9 => absurd (show 0 ≤ slot ∧ slot ≤ 3 by omega) h9, fun _ => by omega⟩⟩ dX11_path_33
  · replace c_32 := (I_eq (a := z_31) (b := 0) rz_31 (show rng 0 from ⟨by decide, by decide⟩)).mp c_32
    refine lv_aload_n hx hb dX11_path_14 rfl (lv_at hl 0 rfl) ?_
    refine lv_iconst (v := I 1) hx hb dX11_path_15 (by decide) ?_
    obtain ⟨_, hc_278⟩ := hO.cell h_a (by decide) (ci := 11) rfl
    refine th_calli (va_runV (As := [.int (I 1)]) (rest := []) ⟨hx, hb, hml, hown, hts⟩ (n_fail l G y b0 σ_s_7 E hO a h_a 1 (show rng 1 from (show rng 1 from ⟨by decide, by decide⟩))) (cwV 1 hts gX11_path_X11_fail rfl rfl rfl (by decide +kernel) ⟨Nat.le_of_ble_eq_true rfl, Nat.le_of_ble_eq_true rfl⟩) (th_PV hK hH rfl hc_278) rfl rfl hl.1 rfl (lv_room (Nat.le_of_ble_eq_true rfl)) dX11_path_16 ⟨Nat.le_of_ble_eq_true rfl, Nat.le_of_ble_eq_true rfl⟩) hS (fun z_281 σ_s_280 H locs rz_281 hw_279 hH hS => ?_)
    obtain ⟨hO9, hF9, hM9, hw_279⟩ := hw_279
    replace hM := hM.tu hM9 (by decide)
    replace hF := hF.tu hF9 (by decide)
    have e_282 : aF σ_s_280 (ad E a 1) = f1 := (hM9.a (by decide) (by decide)).trans e_8
    have e_283 : aF σ_s_280 (ad E a 37) = f37 := (hM9.a (by decide) (by decide)).trans e_9
    have e_284 : aF σ_s_280 (ad E a 61) = f61 := (hM9.a (by decide) (by decide)).trans e_10
    have e_285 : aF σ_s_280 (ad E a 62) = f62 := (hM9.a (by decide) (by decide)).trans e_11
    have e_286 : aF σ_s_280 (ad E a 39) = f39 := (hM9.a (by decide) (by decide)).trans e_12
    have e_287 : aF σ_s_280 (ad E a 40) = f40 := (hM9.a (by decide) (by decide)).trans e_13
    have e_288 : aF σ_s_280 (ad E a 42) = f42 := (hM9.a (by decide) (by decide)).trans e_14
    have e_289 : aF σ_s_280 (ad E a 43) = f43 := (hM9.a (by decide) (by decide)).trans e_15
    have e_290 : aF σ_s_280 (ad E a 44) = f44 := (hM9.a (by decide) (by decide)).trans e_16
    have e_291 : aF σ_s_280 (ad E a 45) = f45 := (hM9.a (by decide) (by decide)).trans e_17
    have e_292 : aF σ_s_280 (ad E a 46) = f46 := (hM9.a (by decide) (by decide)).trans e_18
    have e_293 : aF σ_s_280 (ad E a 6) = f6 := (hM9.a (by decide) (by decide)).trans e_19
    have e_294 : aF σ_s_280 (ad E a 8) = f8 := (hM9.a (by decide) (by decide)).trans e_20
    have e_295 : gI σ_s_280 a 36 = a360 := (hM9.i (by decide)).trans e_21
    have e_296 : gI σ_s_280 a 58 = a580 := (hM9.i (by decide)).trans e_22
    have e_297 : gI σ_s_280 a 59 = a590 := (hM9.i (by decide)).trans e_23
    have e_298 : gI σ_s_280 a 12 = a120 := (hM9.i (by decide)).trans e_24
    have e_299 : gI σ_s_280 a 19 = z_1 := (hM9.i (by decide)).trans e_25
    have e_300 : gI σ_s_280 a 20 = z_3 := (hM9.i (by decide)).trans e_26
    have e_301 : gI σ_s_280 a 21 = z_5 := (hM9.i (by decide)).trans e_27
    replace hO := hO9
    replace hw_279 : z_281 = 0 ∧ gI σ_s_280 a 0 = 1 := hw_279
    exact th_iret hx hb hr hlocks hH hS (z := z_281) rz_281 ⟨hO, hF, hM, ⟨(by rw [show aF σ_s_280 (ad E a 1) = f1 from e_282, show aF σ_s_280 (ad E a 37) = f37 from e_283, show aF σ_s_280 (ad E a 61) = f61 from e_284, show aF σ_s_280 (ad E a 62) = f62 from e_285, show aF σ_s_280 (ad E a 39) = f39 from e_286, show aF σ_s_280 (ad E a 40) = f40 from e_287, show aF σ_s_280 (ad E a 42) = f42 from e_288, show aF σ_s_280 (ad E a 43) = f43 from e_289, show aF σ_s_280 (ad E a 44) = f44 from e_290, show aF σ_s_280 (ad E a 45) = f45 from e_291, show aF σ_s_280 (ad E a 46) = f46 from e_292]; exact ⟨hj.n (by omega) (by omega) (by omega), by omega⟩), fun h9 => absurd h9.1 (by omega), fun _ => by omega, fun h9 => absurd h9.1 (by omega)⟩⟩ dX11_path_19
