set_option maxHeartbeats 4000000 in
set_option maxRecDepth 100000 in
theorem j_withText (l : Launch) (G : va_G) (y : Nat → ClassId) (b0 : Nat) (σ : th_M) (E : th_E) (hO : ok y E σ) (a : Nat) (h_a : kd E a = 13) (slot : Int) (rslot : rng slot) (wh : Int) (rwh : rng wh) (l_wh : 0 ≤ wh) (u_wh : wh ≤ 2) (ky : Int) (rky : rng ky) (nn : Int) (rnn : rng nn) (f1 : Nat → Int32) (ef1 : aF σ (ad E a 1) = f1) (f37 : Nat → Int32) (ef37 : aF σ (ad E a 37) = f37) (f61 : Nat → Int32) (ef61 : aF σ (ad E a 61) = f61) (f62 : Nat → Int32) (ef62 : aF σ (ad E a 62) = f62) (f39 : Nat → Int32) (ef39 : aF σ (ad E a 39) = f39) (f40 : Nat → Int32) (ef40 : aF σ (ad E a 40) = f40) (f42 : Nat → Int32) (ef42 : aF σ (ad E a 42) = f42) (f43 : Nat → Int32) (ef43 : aF σ (ad E a 43) = f43) (f44 : Nat → Int32) (ef44 : aF σ (ad E a 44) = f44) (f45 : Nat → Int32) (ef45 : aF σ (ad E a 45) = f45) (f46 : Nat → Int32) (ef46 : aF σ (ad E a 46) = f46) (f2 : Nat → Int32) (ef2 : aF σ (ad E a 2) = f2) (f3 : Nat → Int32) (ef3 : aF σ (ad E a 3) = f3) (f8 : Nat → Int32) (ef8 : aF σ (ad E a 8) = f8) (f35 : Nat → Int32) (ef35 : aF σ (ad E a 35) = f35) (hy0 : jw f1 f37 f61 f62 f39 f40 f42 f43 f44 f45 f46 (gI σ a 36) (gI σ a 58) (gI σ a 59)) : Met l yX11_withText wsX11_withText ({ frames := 52, cells := 0, slots := 0, locals := 2033 }) (th_P G y b0 σ [.ref a, .int (I slot), .int (I wh), .int (I ky), .int (I nn)]) (th_Qi G b0 (fun r σ1 => ok y E σ1 ∧ fr [13] E σ σ1 ∧ fm [0, 1, 2, 3, 4, 5, 9, 10, 11, 12, 13, 14, 15, 16, 17, 18, 19, 20, 21, 22, 23, 24, 25, 26, 27, 28, 29, 30, 32, 33, 34, 35, 36, 37] E σ σ1 a ∧ (jw (aF σ1 (ad E a 1)) (aF σ1 (ad E a 37)) (aF σ1 (ad E a 61)) (aF σ1 (ad E a 62)) (aF σ1 (ad E a 39)) (aF σ1 (ad E a 40)) (aF σ1 (ad E a 42)) (aF σ1 (ad E a 43)) (aF σ1 (ad E a 44)) (aF σ1 (ad E a 45)) (aF σ1 (ad E a 46)) (gI σ1 a 36) (gI σ1 a 58) (gI σ1 a 59) ∧ (((0 ≤ nn ∧ nn ≤ gI σ a 12) ∧ gI σ1 a 12 = 0) ∨ (¬ (0 ≤ nn ∧ nn ≤ gI σ a 12) ∧ gI σ1 a 12 = gI σ a 12))))) 0 0 (th_A b0) := by
  refine Met.ofW (cc := cX11_withText) (maxL := 6) (ret := (some .int)) (by decide) rfl ?_
  intro p e s m args below meth c s₁ B hml hv
  obtain ⟨rfl, hH, hK⟩ := hv
  have hx := B.exec
  have hb := B.bytes
  have hr := B.returns
  have hts := atoms_spec (ws := wsX11_withText) B.pre
  have hown : s.vm.findClass RX11 = some m.cls := findClass_of_methodNamed B.named
  have hlocks := B.notSynchronized
  have h00 : b0 ≤ s.heap.size := hH.1
  have hS : va_S (th_A b0) s.heap s.heap [] := va_S.rf
  have hF : fr [13] E σ σ := fr.rf
  have hM : fm [0, 1, 2, 3, 4, 5, 9, 10, 11, 12, 13, 14, 15, 16, 17, 18, 19, 20, 21, 22, 23, 24, 25, 26, 27, 28, 29, 30, 32, 33, 34, 35, 36, 37] E σ σ a := fm.rf
  have hj := hy0
  have hw1 := hj.1.1.1
  have hm1 := hj.1.2.1
  have hm2 := hj.1.2.2.1
  have hm3 := hj.2.2.2.2.1
  have hm4 := hj.2.2.2.2.2.1
  have inX11 : ∀ w ∈ wsX110, w ∈ wsX11_withText := by decide +kernel
  have fl0 := hts (.fieldLink RX11 111 "NestQueryModel" "code" "I") (by decide +kernel)
  have fl1 := hts (.fieldLink RX11 114 "NestQueryModel" "taped" "I") (by decide +kernel)
  have fl2 := hts (.fieldLink RX11 385 "NestQueryModel" "changeKey" "I") (by decide +kernel)
  have hl := lv_entry ([.ref a, .int (I slot), .int (I wh), .int (I ky), .int (I nn)]) (n := 6) (Nat.le_of_ble_eq_true rfl)
  rw [lg_entry_eq]
  generalize (lg_sl ([.ref a, .int (I slot), .int (I wh), .int (I ky), .int (I nn)]) ++ List.replicate (6 - (lg_sl ([.ref a, .int (I slot), .int (I wh), .int (I ky), .int (I nn)])).length) Slot.unset).toArray = ls at hl ⊢
  have hl : lv_has ls 6 [(0, .ref a), (1, .int (I slot)), (2, .int (I wh)), (3, .int (I ky)), (4, .int (I nn))] := hl
  obtain ⟨a360, ea360, ra360, la360, ua360⟩ := hO.gi h_a (by decide) k13_36
  obtain ⟨a580, ea580, ra580, la580, ua580⟩ := hO.gi h_a (by decide) k13_58
  obtain ⟨a590, ea590, ra590, la590, ua590⟩ := hO.gi h_a (by decide) k13_59
  obtain ⟨a120, ea120, ra120, la120, ua120⟩ := hO.gi h_a (by decide) k13_12
  refine lv_aload_n hx hb dX11_withText_0 rfl (lv_at hl 0 rfl) ?_
  refine lv_iconst (v := I 0) hx hb dX11_withText_1 (by decide) ?_
  refine ok.putJ hO h_a k13_0 (show rng 0 from ⟨by decide, by decide⟩) (by omega) (by omega) (fun _ he hl9 kk => th_put (ci := 11) (v := .int (I 0)) (ty := .int) (C := RX11) (T := TX11) (N := 66) hx hb hts inX11 tyX11 tyX11_ok nmX11 hown hK hH hS h00 he rfl 0 (by decide) fl0 rfl (by decide +kernel) rfl rfl hl9 dX11_withText_2 kk) (fun σ_s_1 H locs hO hF9 hM9 hg9 ha9 hH hS => ?_)
  replace hM := hM.tu hM9 (by decide)
  replace hF := hF.tu hF9 (by decide)
  have e_2 : aF σ_s_1 (ad E a 1) = f1 := (hM9.a (by decide) (by decide)).trans ef1
  have e_3 : aF σ_s_1 (ad E a 37) = f37 := (hM9.a (by decide) (by decide)).trans ef37
  have e_4 : aF σ_s_1 (ad E a 61) = f61 := (hM9.a (by decide) (by decide)).trans ef61
  have e_5 : aF σ_s_1 (ad E a 62) = f62 := (hM9.a (by decide) (by decide)).trans ef62
  have e_6 : aF σ_s_1 (ad E a 39) = f39 := (hM9.a (by decide) (by decide)).trans ef39
  have e_7 : aF σ_s_1 (ad E a 40) = f40 := (hM9.a (by decide) (by decide)).trans ef40
  have e_8 : aF σ_s_1 (ad E a 42) = f42 := (hM9.a (by decide) (by decide)).trans ef42
  have e_9 : aF σ_s_1 (ad E a 43) = f43 := (hM9.a (by decide) (by decide)).trans ef43
  have e_10 : aF σ_s_1 (ad E a 44) = f44 := (hM9.a (by decide) (by decide)).trans ef44
  have e_11 : aF σ_s_1 (ad E a 45) = f45 := (hM9.a (by decide) (by decide)).trans ef45
  have e_12 : aF σ_s_1 (ad E a 46) = f46 := (hM9.a (by decide) (by decide)).trans ef46
  have e_13 : aF σ_s_1 (ad E a 2) = f2 := (hM9.a (by decide) (by decide)).trans ef2
  have e_14 : aF σ_s_1 (ad E a 3) = f3 := (hM9.a (by decide) (by decide)).trans ef3
  have e_15 : aF σ_s_1 (ad E a 8) = f8 := (hM9.a (by decide) (by decide)).trans ef8
  have e_16 : aF σ_s_1 (ad E a 35) = f35 := (hM9.a (by decide) (by decide)).trans ef35
  have e_17 : gI σ_s_1 a 36 = a360 := (hM9.i (by decide)).trans ea360
  have e_18 : gI σ_s_1 a 58 = a580 := (hM9.i (by decide)).trans ea580
  have e_19 : gI σ_s_1 a 59 = a590 := (hM9.i (by decide)).trans ea590
  have e_20 : gI σ_s_1 a 12 = a120 := (hM9.i (by decide)).trans ea120
  have e_21 := hg9
  refine lv_aload_n hx hb dX11_withText_5 rfl (lv_at hl 0 rfl) ?_
  refine lv_iload hx hb dX11_withText_6 (lv_at hl 4 rfl) ?_
  obtain ⟨_, hc_22⟩ := hO.cell h_a (by decide) (ci := 11) rfl
  refine th_calli (va_runV (As := [.int (I nn)]) (rest := []) ⟨hx, hb, hml, hown, hts⟩ (m_isTape l G y b0 σ_s_1 E hO a h_a nn (show rng nn from rnn)) (cwV 1 hts gX11_withText_X11_isTape rfl rfl rfl (by decide +kernel) ⟨Nat.le_of_ble_eq_true rfl, Nat.le_of_ble_eq_true rfl⟩) (th_PV hK hH rfl hc_22) rfl rfl hl.1 rfl (lv_room (Nat.le_of_ble_eq_true rfl)) dX11_withText_8 ⟨Nat.le_of_ble_eq_true rfl, Nat.le_of_ble_eq_true rfl⟩) hS (fun z_25 σ_s_24 H locs rz_25 hw_23 hH hS => ?_)
  obtain ⟨e9, bhw_23, hw_23⟩ := hw_23
  replace e9 := e9.symm
  subst e9
  have hw_23 : (z_25 = 1 ∧ 0 ≤ nn ∧ nn ≤ gI σ_s_1 a 12) ∨ (z_25 = 0 ∧ ¬ (0 ≤ nn ∧ nn ≤ gI σ_s_1 a 12)) := hw_23
  refine lv_if_ne (tgt := 20) hx hb dX11_withText_11 (by decide) (fun c_26 => ?_) (fun c_26 => ?_)
  · replace c_26 := mt (I_eq (a := z_25) (b := 0) rz_25 (show rng 0 from ⟨by decide, by decide⟩)).mpr c_26
    refine lv_aload_n hx hb dX11_withText_20 rfl (lv_at hl 0 rfl) ?_
    refine lv_iconst (v := I 0) hx hb dX11_withText_21 (by decide) ?_
    refine ok.putJ hO h_a k13_12 (show rng 0 from ⟨by decide, by decide⟩) (by omega) (by omega) (fun _ he hl9 kk => th_put (ci := 11) (v := .int (I 0)) (ty := .int) (C := RX11) (T := TX11) (N := 66) hx hb hts inX11 tyX11 tyX11_ok nmX11 hown hK hH hS h00 he rfl 12 (by decide) fl1 rfl (by decide +kernel) rfl rfl hl9 dX11_withText_22 kk) (fun σ_s_27 H locs hO hF9 hM9 hg9 ha9 hH hS => ?_)
    replace hM := hM.tu hM9 (by decide)
    replace hF := hF.tu hF9 (by decide)
    have e_28 : aF σ_s_27 (ad E a 1) = f1 := (hM9.a (by decide) (by decide)).trans e_2
    have e_29 : aF σ_s_27 (ad E a 37) = f37 := (hM9.a (by decide) (by decide)).trans e_3
    have e_30 : aF σ_s_27 (ad E a 61) = f61 := (hM9.a (by decide) (by decide)).trans e_4
    have e_31 : aF σ_s_27 (ad E a 62) = f62 := (hM9.a (by decide) (by decide)).trans e_5
    have e_32 : aF σ_s_27 (ad E a 39) = f39 := (hM9.a (by decide) (by decide)).trans e_6
    have e_33 : aF σ_s_27 (ad E a 40) = f40 := (hM9.a (by decide) (by decide)).trans e_7
    have e_34 : aF σ_s_27 (ad E a 42) = f42 := (hM9.a (by decide) (by decide)).trans e_8
    have e_35 : aF σ_s_27 (ad E a 43) = f43 := (hM9.a (by decide) (by decide)).trans e_9
    have e_36 : aF σ_s_27 (ad E a 44) = f44 := (hM9.a (by decide) (by decide)).trans e_10
    have e_37 : aF σ_s_27 (ad E a 45) = f45 := (hM9.a (by decide) (by decide)).trans e_11
    have e_38 : aF σ_s_27 (ad E a 46) = f46 := (hM9.a (by decide) (by decide)).trans e_12
    have e_39 : aF σ_s_27 (ad E a 2) = f2 := (hM9.a (by decide) (by decide)).trans e_13
    have e_40 : aF σ_s_27 (ad E a 3) = f3 := (hM9.a (by decide) (by decide)).trans e_14
    have e_41 : aF σ_s_27 (ad E a 8) = f8 := (hM9.a (by decide) (by decide)).trans e_15
    have e_42 : aF σ_s_27 (ad E a 35) = f35 := (hM9.a (by decide) (by decide)).trans e_16
    have e_43 : gI σ_s_27 a 36 = a360 := (hM9.i (by decide)).trans e_17
    have e_44 : gI σ_s_27 a 58 = a580 := (hM9.i (by decide)).trans e_18
    have e_45 : gI σ_s_27 a 59 = a590 := (hM9.i (by decide)).trans e_19
    have e_46 : gI σ_s_27 a 0 = 0 := (hM9.i (by decide)).trans e_21
    have e_47 := hg9
    refine lv_aload_n hx hb dX11_withText_25 rfl (lv_at hl 0 rfl) ?_
    refine lv_iload_n hx hb dX11_withText_26 rfl (lv_at hl 1 rfl) ?_
    obtain ⟨_, hc_48⟩ := hO.cell h_a (by decide) (ci := 11) rfl
    refine th_calli (va_runV (As := [.int (I slot)]) (rest := []) ⟨hx, hb, hml, hown, hts⟩ (m_isPath l G y b0 σ_s_27 E hO a h_a slot (show rng slot from rslot) f8 e_41) (cwV 1 hts gX11_withText_X11_isPath rfl rfl rfl (by decide +kernel) ⟨Nat.le_of_ble_eq_true rfl, Nat.le_of_ble_eq_true rfl⟩) (th_PV hK hH rfl hc_48) rfl rfl hl.1 rfl (lv_room (Nat.le_of_ble_eq_true rfl)) dX11_withText_27 ⟨Nat.le_of_ble_eq_true rfl, Nat.le_of_ble_eq_true rfl⟩) hS (fun z_51 σ_s_50 H locs rz_51 hw_49 hH hS => ?_)
    obtain ⟨e9, bhw_49, hw_49⟩ := hw_49
    replace e9 := e9.symm
    subst e9
    have hw_49 : (z_51 = 1 ∧ 0 ≤ slot ∧ slot ≤ 3 ∧ 1 ≤ (f8 slot.toNat).toInt) ∨ z_51 = 0 := hw_49
    refine lv_if_eq (tgt := 45) hx hb dX11_withText_30 (by decide) (fun c_52 => ?_) (fun c_52 => ?_)
    · replace c_52 := (I_eq (a := z_51) (b := 0) rz_51 (show rng 0 from ⟨by decide, by decide⟩)).mp c_52
      refine lv_aload_n hx hb dX11_withText_45 rfl (lv_at hl 0 rfl) ?_
      refine lv_iconst (v := I 1) hx hb dX11_withText_46 (by decide) ?_
      obtain ⟨_, hc_53⟩ := hO.cell h_a (by decide) (ci := 11) rfl
      refine th_calli (va_runV (As := [.int (I 1)]) (rest := []) ⟨hx, hb, hml, hown, hts⟩ (m_refuse l G y b0 σ_s_27 E hO a h_a 1 (show rng 1 from (show rng 1 from ⟨by decide, by decide⟩)) (by omega) (by omega)) (cwV 1 hts gX11_withText_X11_refuse rfl rfl rfl (by decide +kernel) ⟨Nat.le_of_ble_eq_true rfl, Nat.le_of_ble_eq_true rfl⟩) (th_PV hK hH rfl hc_53) rfl rfl hl.1 rfl (lv_room (Nat.le_of_ble_eq_true rfl)) dX11_withText_47 ⟨Nat.le_of_ble_eq_true rfl, Nat.le_of_ble_eq_true rfl⟩) hS (fun z_56 σ_s_55 H locs rz_56 hw_54 hH hS => ?_)
      obtain ⟨hO9, hF9, hM9, hw_54⟩ := hw_54
      replace hM := hM.tu hM9 (by decide)
      replace hF := hF.tu hF9 (by decide)
      have e_57 : aF σ_s_55 (ad E a 1) = f1 := (hM9.a (by decide) (by decide)).trans e_28
      have e_58 : aF σ_s_55 (ad E a 37) = f37 := (hM9.a (by decide) (by decide)).trans e_29
      have e_59 : aF σ_s_55 (ad E a 61) = f61 := (hM9.a (by decide) (by decide)).trans e_30
      have e_60 : aF σ_s_55 (ad E a 62) = f62 := (hM9.a (by decide) (by decide)).trans e_31
      have e_61 : aF σ_s_55 (ad E a 39) = f39 := (hM9.a (by decide) (by decide)).trans e_32
      have e_62 : aF σ_s_55 (ad E a 40) = f40 := (hM9.a (by decide) (by decide)).trans e_33
      have e_63 : aF σ_s_55 (ad E a 42) = f42 := (hM9.a (by decide) (by decide)).trans e_34
      have e_64 : aF σ_s_55 (ad E a 43) = f43 := (hM9.a (by decide) (by decide)).trans e_35
      have e_65 : aF σ_s_55 (ad E a 44) = f44 := (hM9.a (by decide) (by decide)).trans e_36
      have e_66 : aF σ_s_55 (ad E a 45) = f45 := (hM9.a (by decide) (by decide)).trans e_37
      have e_67 : aF σ_s_55 (ad E a 46) = f46 := (hM9.a (by decide) (by decide)).trans e_38
      have e_68 : aF σ_s_55 (ad E a 2) = f2 := (hM9.a (by decide) (by decide)).trans e_39
      have e_69 : aF σ_s_55 (ad E a 3) = f3 := (hM9.a (by decide) (by decide)).trans e_40
      have e_70 : aF σ_s_55 (ad E a 8) = f8 := (hM9.a (by decide) (by decide)).trans e_41
      have e_71 : aF σ_s_55 (ad E a 35) = f35 := (hM9.a (by decide) (by decide)).trans e_42
      have e_72 : gI σ_s_55 a 36 = a360 := (hM9.i (by decide)).trans e_43
      have e_73 : gI σ_s_55 a 58 = a580 := (hM9.i (by decide)).trans e_44
      have e_74 : gI σ_s_55 a 59 = a590 := (hM9.i (by decide)).trans e_45
      have e_75 : gI σ_s_55 a 0 = 0 := (hM9.i (by decide)).trans e_46
      have e_76 : gI σ_s_55 a 12 = 0 := (hM9.i (by decide)).trans e_47
      replace hO := hO9
      have hw_54 : z_56 = -1 := hw_54
      exact th_iret hx hb hr hlocks hH hS (z := z_56) rz_56 ⟨hO, hF, hM, by rw [show aF σ_s_55 (ad E a 1) = f1 from e_57, show aF σ_s_55 (ad E a 37) = f37 from e_58, show aF σ_s_55 (ad E a 61) = f61 from e_59, show aF σ_s_55 (ad E a 62) = f62 from e_60, show aF σ_s_55 (ad E a 39) = f39 from e_61, show aF σ_s_55 (ad E a 40) = f40 from e_62, show aF σ_s_55 (ad E a 42) = f42 from e_63, show aF σ_s_55 (ad E a 43) = f43 from e_64, show aF σ_s_55 (ad E a 44) = f44 from e_65, show aF σ_s_55 (ad E a 45) = f45 from e_66, show aF σ_s_55 (ad E a 46) = f46 from e_67]; exact ⟨hj.n (by omega) (by omega) (by omega), by omega⟩⟩ dX11_withText_50
    · replace c_52 := mt (I_eq (a := z_51) (b := 0) rz_51 (show rng 0 from ⟨by decide, by decide⟩)).mpr c_52
      refine lv_iload_n hx hb dX11_withText_33 rfl (lv_at hl 2 rfl) ?_
      refine lv_iconst (v := I 2) hx hb dX11_withText_34 (by decide) ?_
      refine lv_icmp_ne (tgt := 51) hx hb dX11_withText_35 (by decide) (fun c_77 => ?_) (fun c_77 => ?_)
      · replace c_77 := mt (I_eq (a := wh) (b := 2) rwh (show rng 2 from ⟨by decide, by decide⟩)).mpr c_77
        refine lv_aload_n hx hb dX11_withText_51 rfl (lv_at hl 0 rfl) ?_
        refine lv_iload hx hb dX11_withText_52 (lv_at hl 4 rfl) ?_
        obtain ⟨_, hc_78⟩ := hO.cell h_a (by decide) (ci := 11) rfl
        refine th_calli (va_runV (As := [.int (I nn)]) (rest := []) ⟨hx, hb, hml, hown, hts⟩ (m_readsData l G y b0 σ_s_27 E hO a h_a nn (show rng nn from rnn) (by omega) (by omega) f2 e_39) (cwV 1 hts gX11_withText_X11_readsData rfl rfl rfl (by decide +kernel) ⟨Nat.le_of_ble_eq_true rfl, Nat.le_of_ble_eq_true rfl⟩) (th_PV hK hH rfl hc_78) rfl rfl hl.1 rfl (lv_room (Nat.le_of_ble_eq_true rfl)) dX11_withText_54 ⟨Nat.le_of_ble_eq_true rfl, Nat.le_of_ble_eq_true rfl⟩) hS (fun z_81 σ_s_80 H locs rz_81 hw_79 hH hS => ?_)
        obtain ⟨hO9, hF9, hM9, bhw_79, hw_79⟩ := hw_79
        replace hM := hM.tu hM9 (by decide)
        replace hF := hF.tu hF9 (by decide)
        have e_82 : aF σ_s_80 (ad E a 1) = f1 := (hM9.a (by decide) (by decide)).trans e_28
        have e_83 : aF σ_s_80 (ad E a 37) = f37 := (hM9.a (by decide) (by decide)).trans e_29
        have e_84 : aF σ_s_80 (ad E a 61) = f61 := (hM9.a (by decide) (by decide)).trans e_30
        have e_85 : aF σ_s_80 (ad E a 62) = f62 := (hM9.a (by decide) (by decide)).trans e_31
        have e_86 : aF σ_s_80 (ad E a 39) = f39 := (hM9.a (by decide) (by decide)).trans e_32
        have e_87 : aF σ_s_80 (ad E a 40) = f40 := (hM9.a (by decide) (by decide)).trans e_33
        have e_88 : aF σ_s_80 (ad E a 42) = f42 := (hM9.a (by decide) (by decide)).trans e_34
        have e_89 : aF σ_s_80 (ad E a 43) = f43 := (hM9.a (by decide) (by decide)).trans e_35
        have e_90 : aF σ_s_80 (ad E a 44) = f44 := (hM9.a (by decide) (by decide)).trans e_36
        have e_91 : aF σ_s_80 (ad E a 45) = f45 := (hM9.a (by decide) (by decide)).trans e_37
        have e_92 : aF σ_s_80 (ad E a 46) = f46 := (hM9.a (by decide) (by decide)).trans e_38
        have e_93 : aF σ_s_80 (ad E a 3) = f3 := (hM9.a (by decide) (by decide)).trans e_40
        have e_94 : aF σ_s_80 (ad E a 8) = f8 := (hM9.a (by decide) (by decide)).trans e_41
        have e_95 : aF σ_s_80 (ad E a 35) = f35 := (hM9.a (by decide) (by decide)).trans e_42
        have e_96 : gI σ_s_80 a 36 = a360 := (hM9.i (by decide)).trans e_43
        have e_97 : gI σ_s_80 a 58 = a580 := (hM9.i (by decide)).trans e_44
        have e_98 : gI σ_s_80 a 59 = a590 := (hM9.i (by decide)).trans e_45
        have e_99 : gI σ_s_80 a 0 = 0 := (hM9.i (by decide)).trans e_46
        have e_100 : gI σ_s_80 a 12 = 0 := (hM9.i (by decide)).trans e_47
        replace hO := hO9
        generalize ef_102 : aF σ_s_80 (ad E a 2) = g_101 at hw_79
        have hw_79 : (z_81 = 1 ∧ tr g_101 ∧ mS g_101 0 = gI σ_s_80 a 22) ∨ z_81 = 0 := hw_79
        refine lv_if_ne (tgt := 63) hx hb dX11_withText_57 (by decide) (fun c_103 => ?_) (fun c_103 => ?_)
        · replace c_103 := mt (I_eq (a := z_81) (b := 0) rz_81 (show rng 0 from ⟨by decide, by decide⟩)).mpr c_103
          refine lv_aload_n hx hb dX11_withText_63 rfl (lv_at hl 0 rfl) ?_
          refine lv_iload_n hx hb dX11_withText_64 rfl (lv_at hl 3 rfl) ?_
          refine ok.putJ hO h_a k13_33 rky (by omega) (by omega) (fun _ he hl9 kk => th_put (ci := 11) (v := .int (I ky)) (ty := .int) (C := RX11) (T := TX11) (N := 66) hx hb hts inX11 tyX11 tyX11_ok nmX11 hown hK hH hS h00 he rfl 33 (by decide) fl2 rfl (by decide +kernel) rfl rfl hl9 dX11_withText_65 kk) (fun σ_s_104 H locs hO hF9 hM9 hg9 ha9 hH hS => ?_)
          replace hM := hM.tu hM9 (by decide)
          replace hF := hF.tu hF9 (by decide)
          have e_105 : aF σ_s_104 (ad E a 1) = f1 := (hM9.a (by decide) (by decide)).trans e_82
          have e_106 : aF σ_s_104 (ad E a 37) = f37 := (hM9.a (by decide) (by decide)).trans e_83
          have e_107 : aF σ_s_104 (ad E a 61) = f61 := (hM9.a (by decide) (by decide)).trans e_84
          have e_108 : aF σ_s_104 (ad E a 62) = f62 := (hM9.a (by decide) (by decide)).trans e_85
          have e_109 : aF σ_s_104 (ad E a 39) = f39 := (hM9.a (by decide) (by decide)).trans e_86
          have e_110 : aF σ_s_104 (ad E a 40) = f40 := (hM9.a (by decide) (by decide)).trans e_87
          have e_111 : aF σ_s_104 (ad E a 42) = f42 := (hM9.a (by decide) (by decide)).trans e_88
          have e_112 : aF σ_s_104 (ad E a 43) = f43 := (hM9.a (by decide) (by decide)).trans e_89
          have e_113 : aF σ_s_104 (ad E a 44) = f44 := (hM9.a (by decide) (by decide)).trans e_90
          have e_114 : aF σ_s_104 (ad E a 45) = f45 := (hM9.a (by decide) (by decide)).trans e_91
          have e_115 : aF σ_s_104 (ad E a 46) = f46 := (hM9.a (by decide) (by decide)).trans e_92
          have e_116 : aF σ_s_104 (ad E a 3) = f3 := (hM9.a (by decide) (by decide)).trans e_93
          have e_117 : aF σ_s_104 (ad E a 8) = f8 := (hM9.a (by decide) (by decide)).trans e_94
          have e_118 : aF σ_s_104 (ad E a 35) = f35 := (hM9.a (by decide) (by decide)).trans e_95
          have e_119 : gI σ_s_104 a 36 = a360 := (hM9.i (by decide)).trans e_96
          have e_120 : gI σ_s_104 a 58 = a580 := (hM9.i (by decide)).trans e_97
          have e_121 : gI σ_s_104 a 59 = a590 := (hM9.i (by decide)).trans e_98
          have e_122 : gI σ_s_104 a 0 = 0 := (hM9.i (by decide)).trans e_99
          have e_123 : gI σ_s_104 a 12 = 0 := (hM9.i (by decide)).trans e_100
          have e_124 : aF σ_s_104 (ad E a 2) = g_101 := (hM9.a (by decide) (by decide)).trans ef_102
          have e_125 := hg9
          refine lv_aload_n hx hb dX11_withText_68 rfl (lv_at hl 0 rfl) ?_
          refine lv_iload_n hx hb dX11_withText_69 rfl (lv_at hl 1 rfl) ?_
          refine lv_iload_n hx hb dX11_withText_70 rfl (lv_at hl 2 rfl) ?_
          refine lv_iconst (v := I 0) hx hb dX11_withText_71 (by decide) ?_
          obtain ⟨_, hc_126⟩ := hO.cell h_a (by decide) (ci := 11) rfl
          refine th_calli (va_runV (As := [.int (I slot), .int (I wh), .int (I 0)]) (rest := []) ⟨hx, hb, hml, hown, hts⟩ (m_changes l G y b0 σ_s_104 E hO a h_a slot (show rng slot from rslot) (by omega) (by omega) wh (show rng wh from rwh) (by omega) (by omega) 0 (show rng 0 from (show rng 0 from ⟨by decide, by decide⟩)) f1 e_105 g_101 e_124 f3 e_116 f8 e_117 f35 e_118 f37 e_106 (hw1) (by omega) (hj.1) ((hj.2.1.le (by omega))) ((by omega)) ((fun _ => ((hw_79.resolve_right (by omega)).2.1).td))) (cwV 3 hts gX11_withText_X11_changes rfl rfl rfl (by decide +kernel) ⟨Nat.le_of_ble_eq_true rfl, Nat.le_of_ble_eq_true rfl⟩) (th_PV hK hH rfl hc_126) rfl rfl hl.1 rfl (lv_room (Nat.le_of_ble_eq_true rfl)) dX11_withText_72 ⟨Nat.le_of_ble_eq_true rfl, Nat.le_of_ble_eq_true rfl⟩) hS (fun z_129 σ_s_128 H locs rz_129 hw_127 hH hS => ?_)
          obtain ⟨hO9, hF9, hM9, hw_127⟩ := hw_127
          replace hM := hM.tu hM9 (by decide)
          replace hF := hF.tu hF9 (by decide)
          have e_130 : aF σ_s_128 (ad E a 61) = f61 := (hM9.a (by decide) (by decide)).trans e_107
          have e_131 : aF σ_s_128 (ad E a 62) = f62 := (hM9.a (by decide) (by decide)).trans e_108
          have e_132 : aF σ_s_128 (ad E a 39) = f39 := (hM9.a (by decide) (by decide)).trans e_109
          have e_133 : aF σ_s_128 (ad E a 40) = f40 := (hM9.a (by decide) (by decide)).trans e_110
          have e_134 : aF σ_s_128 (ad E a 42) = f42 := (hM9.a (by decide) (by decide)).trans e_111
          have e_135 : aF σ_s_128 (ad E a 43) = f43 := (hM9.a (by decide) (by decide)).trans e_112
          have e_136 : aF σ_s_128 (ad E a 44) = f44 := (hM9.a (by decide) (by decide)).trans e_113
          have e_137 : aF σ_s_128 (ad E a 45) = f45 := (hM9.a (by decide) (by decide)).trans e_114
          have e_138 : aF σ_s_128 (ad E a 46) = f46 := (hM9.a (by decide) (by decide)).trans e_115
          have e_139 : aF σ_s_128 (ad E a 8) = f8 := (hM9.a (by decide) (by decide)).trans e_117
          have e_140 : gI σ_s_128 a 58 = a580 := (hM9.i (by decide)).trans e_120
          have e_141 : gI σ_s_128 a 59 = a590 := (hM9.i (by decide)).trans e_121
          have e_142 : gI σ_s_128 a 0 = 0 := (hM9.i (by decide)).trans e_122
          have e_143 : gI σ_s_128 a 12 = 0 := (hM9.i (by decide)).trans e_123
          have e_144 : aF σ_s_128 (ad E a 2) = g_101 := (hM9.a (by decide) (by decide)).trans e_124
          have e_145 : gI σ_s_128 a 33 = ky := (hM9.i (by decide)).trans e_125
          replace hO := hO9
          generalize ef_147 : aF σ_s_128 (ad E a 1) = g_146 at hw_127
          generalize ef_149 : aF σ_s_128 (ad E a 37) = g_148 at hw_127
          have hw_127 : tr g_146 ∧ trs g_148 (gI σ_s_128 a 36) := hw_127
          refine lv_istore (lv' := [(5, .int (I z_129)), (0, .ref a), (1, .int (I slot)), (2, .int (I wh)), (3, .int (I ky)), (4, .int (I nn))]) hx hb dX11_withText_75 hl (by decide) rfl (fun ls hl => ?_)
          refine lv_iload hx hb dX11_withText_77 (lv_at hl 0 rfl) ?_
          refine lv_iconst (v := I (-1)) hx hb dX11_withText_79 (by decide) ?_
          refine lv_icmp_ne (tgt := 91) hx hb dX11_withText_80 (by decide) (fun c_150 => ?_) (fun c_150 => ?_)
          · replace c_150 := mt (I_eq (a := z_129) (b := (-1)) rz_129 (show rng (-1) from ⟨by decide, by decide⟩)).mpr c_150
            refine lv_iload hx hb dX11_withText_91 (lv_at hl 0 rfl) ?_
            exact th_iret hx hb hr hlocks hH hS (z := z_129) rz_129 ⟨hO, hF, hM, by rw [show aF σ_s_128 (ad E a 1) = g_146 from ef_147, show aF σ_s_128 (ad E a 37) = g_148 from ef_149, show aF σ_s_128 (ad E a 61) = f61 from e_130, show aF σ_s_128 (ad E a 62) = f62 from e_131, show aF σ_s_128 (ad E a 39) = f39 from e_132, show aF σ_s_128 (ad E a 40) = f40 from e_133, show aF σ_s_128 (ad E a 42) = f42 from e_134, show aF σ_s_128 (ad E a 43) = f43 from e_135, show aF σ_s_128 (ad E a 44) = f44 from e_136, show aF σ_s_128 (ad E a 45) = f45 from e_137, show aF σ_s_128 (ad E a 46) = f46 from e_138]; exact ⟨hj.tree hw_127.1 (hw_127.2.le (by omega)) (by omega) (by omega), by omega⟩⟩ dX11_withText_93
          · replace c_150 := (I_eq (a := z_129) (b := (-1)) rz_129 (show rng (-1) from ⟨by decide, by decide⟩)).mp c_150
            refine lv_aload_n hx hb dX11_withText_83 rfl (lv_at hl 1 rfl) ?_
            refine lv_iconst (v := I 1) hx hb dX11_withText_84 (by decide) ?_
            obtain ⟨z_151, e_152, rz_151, lz_151, uz_151⟩ := hO.gi h_a (by decide) k13_36
            obtain ⟨_, hc_153⟩ := hO.cell h_a (by decide) (ci := 11) rfl
            refine th_calli (va_runV (As := [.int (I 1)]) (rest := []) ⟨hx, hb, hml, hown, hts⟩ (m_refuse l G y b0 σ_s_128 E hO a h_a 1 (show rng 1 from (show rng 1 from ⟨by decide, by decide⟩)) (by omega) (by omega)) (cwV 1 hts gX11_withText_X11_refuse rfl rfl rfl (by decide +kernel) ⟨Nat.le_of_ble_eq_true rfl, Nat.le_of_ble_eq_true rfl⟩) (th_PV hK hH rfl hc_153) rfl rfl hl.1 rfl (lv_room (Nat.le_of_ble_eq_true rfl)) dX11_withText_85 ⟨Nat.le_of_ble_eq_true rfl, Nat.le_of_ble_eq_true rfl⟩) hS (fun z_156 σ_s_155 H locs rz_156 hw_154 hH hS => ?_)
            obtain ⟨hO9, hF9, hM9, hw_154⟩ := hw_154
            replace hM := hM.tu hM9 (by decide)
            replace hF := hF.tu hF9 (by decide)
            have e_157 : aF σ_s_155 (ad E a 61) = f61 := (hM9.a (by decide) (by decide)).trans e_130
            have e_158 : aF σ_s_155 (ad E a 62) = f62 := (hM9.a (by decide) (by decide)).trans e_131
            have e_159 : aF σ_s_155 (ad E a 39) = f39 := (hM9.a (by decide) (by decide)).trans e_132
            have e_160 : aF σ_s_155 (ad E a 40) = f40 := (hM9.a (by decide) (by decide)).trans e_133
            have e_161 : aF σ_s_155 (ad E a 42) = f42 := (hM9.a (by decide) (by decide)).trans e_134
            have e_162 : aF σ_s_155 (ad E a 43) = f43 := (hM9.a (by decide) (by decide)).trans e_135
            have e_163 : aF σ_s_155 (ad E a 44) = f44 := (hM9.a (by decide) (by decide)).trans e_136
            have e_164 : aF σ_s_155 (ad E a 45) = f45 := (hM9.a (by decide) (by decide)).trans e_137
            have e_165 : aF σ_s_155 (ad E a 46) = f46 := (hM9.a (by decide) (by decide)).trans e_138
            have e_166 : aF σ_s_155 (ad E a 8) = f8 := (hM9.a (by decide) (by decide)).trans e_139
            have e_167 : gI σ_s_155 a 58 = a580 := (hM9.i (by decide)).trans e_140
            have e_168 : gI σ_s_155 a 59 = a590 := (hM9.i (by decide)).trans e_141
            have e_169 : gI σ_s_155 a 0 = 0 := (hM9.i (by decide)).trans e_142
            have e_170 : gI σ_s_155 a 12 = 0 := (hM9.i (by decide)).trans e_143
            have e_171 : aF σ_s_155 (ad E a 2) = g_101 := (hM9.a (by decide) (by decide)).trans e_144
            have e_172 : gI σ_s_155 a 33 = ky := (hM9.i (by decide)).trans e_145
            have e_173 : aF σ_s_155 (ad E a 1) = g_146 := (hM9.a (by decide) (by decide)).trans ef_147
            have e_174 : aF σ_s_155 (ad E a 37) = g_148 := (hM9.a (by decide) (by decide)).trans ef_149
            have e_175 : gI σ_s_155 a 36 = z_151 := (hM9.i (by decide)).trans e_152
            replace hO := hO9
            have hw_154 : z_156 = -1 := hw_154
            refine lv_goto (tgt := 93) hx hb dX11_withText_88 (by decide) ?_
            exact th_iret hx hb hr hlocks hH hS (z := z_156) rz_156 ⟨hO, hF, hM, by rw [show aF σ_s_155 (ad E a 1) = g_146 from e_173, show aF σ_s_155 (ad E a 37) = g_148 from e_174, show aF σ_s_155 (ad E a 61) = f61 from e_157, show aF σ_s_155 (ad E a 62) = f62 from e_158, show aF σ_s_155 (ad E a 39) = f39 from e_159, show aF σ_s_155 (ad E a 40) = f40 from e_160, show aF σ_s_155 (ad E a 42) = f42 from e_161, show aF σ_s_155 (ad E a 43) = f43 from e_162, show aF σ_s_155 (ad E a 44) = f44 from e_163, show aF σ_s_155 (ad E a 45) = f45 from e_164, show aF σ_s_155 (ad E a 46) = f46 from e_165]; exact ⟨hj.tree hw_127.1 (hw_127.2.le (by omega)) (by omega) (by omega), by omega⟩⟩ dX11_withText_93
        · replace c_103 := (I_eq (a := z_81) (b := 0) rz_81 (show rng 0 from ⟨by decide, by decide⟩)).mp c_103
          refine lv_bipush (v := I (-2)) hx hb dX11_withText_60 (by decide) ?_
          exact th_iret hx hb hr hlocks hH hS (z := (-2)) (show rng (-2) from ⟨by decide, by decide⟩) ⟨hO, hF, hM, by rw [show aF σ_s_80 (ad E a 1) = f1 from e_82, show aF σ_s_80 (ad E a 37) = f37 from e_83, show aF σ_s_80 (ad E a 61) = f61 from e_84, show aF σ_s_80 (ad E a 62) = f62 from e_85, show aF σ_s_80 (ad E a 39) = f39 from e_86, show aF σ_s_80 (ad E a 40) = f40 from e_87, show aF σ_s_80 (ad E a 42) = f42 from e_88, show aF σ_s_80 (ad E a 43) = f43 from e_89, show aF σ_s_80 (ad E a 44) = f44 from e_90, show aF σ_s_80 (ad E a 45) = f45 from e_91, show aF σ_s_80 (ad E a 46) = f46 from e_92]; exact ⟨hj.n (by omega) (by omega) (by omega), by omega⟩⟩ dX11_withText_62
      · replace c_77 := (I_eq (a := wh) (b := 2) rwh (show rng 2 from ⟨by decide, by decide⟩)).mp c_77
        refine lv_iload_n hx hb dX11_withText_38 rfl (lv_at hl 3 rfl) ?_
        refine th_calli (va_runS (As := [.int (I ky)]) (rest := []) ⟨hx, hb, hml, hown, hts⟩ (w_isKey l G y b0 σ_s_27 E hO ky (show rng ky from rky)) (va_cwS 1 hts gX11_withText_X11_isKey rfl rfl rfl (by decide +kernel) ⟨Nat.le_of_ble_eq_true rfl, Nat.le_of_ble_eq_true rfl⟩) (th_PS hK hH) rfl rfl hl.1 rfl (lv_room (Nat.le_of_ble_eq_true rfl)) dX11_withText_39 ⟨Nat.le_of_ble_eq_true rfl, Nat.le_of_ble_eq_true rfl⟩) hS (fun z_178 σ_s_177 H locs rz_178 hw_176 hH hS => ?_)
        obtain ⟨e9, bhw_176, hw_176⟩ := hw_176
        replace e9 := e9.symm
        subst e9
        refine lv_if_ne (tgt := 51) hx hb dX11_withText_42 (by decide) (fun c_179 => ?_) (fun c_179 => ?_)
        · replace c_179 := mt (I_eq (a := z_178) (b := 0) rz_178 (show rng 0 from ⟨by decide, by decide⟩)).mpr c_179
          refine lv_aload_n hx hb dX11_withText_51 rfl (lv_at hl 0 rfl) ?_
          refine lv_iload hx hb dX11_withText_52 (lv_at hl 4 rfl) ?_
          obtain ⟨_, hc_180⟩ := hO.cell h_a (by decide) (ci := 11) rfl
          refine th_calli (va_runV (As := [.int (I nn)]) (rest := []) ⟨hx, hb, hml, hown, hts⟩ (m_readsData l G y b0 σ_s_27 E hO a h_a nn (show rng nn from rnn) (by omega) (by omega) f2 e_39) (cwV 1 hts gX11_withText_X11_readsData rfl rfl rfl (by decide +kernel) ⟨Nat.le_of_ble_eq_true rfl, Nat.le_of_ble_eq_true rfl⟩) (th_PV hK hH rfl hc_180) rfl rfl hl.1 rfl (lv_room (Nat.le_of_ble_eq_true rfl)) dX11_withText_54 ⟨Nat.le_of_ble_eq_true rfl, Nat.le_of_ble_eq_true rfl⟩) hS (fun z_183 σ_s_182 H locs rz_183 hw_181 hH hS => ?_)
          obtain ⟨hO9, hF9, hM9, bhw_181, hw_181⟩ := hw_181
          replace hM := hM.tu hM9 (by decide)
          replace hF := hF.tu hF9 (by decide)
          have e_184 : aF σ_s_182 (ad E a 1) = f1 := (hM9.a (by decide) (by decide)).trans e_28
          have e_185 : aF σ_s_182 (ad E a 37) = f37 := (hM9.a (by decide) (by decide)).trans e_29
          have e_186 : aF σ_s_182 (ad E a 61) = f61 := (hM9.a (by decide) (by decide)).trans e_30
          have e_187 : aF σ_s_182 (ad E a 62) = f62 := (hM9.a (by decide) (by decide)).trans e_31
          have e_188 : aF σ_s_182 (ad E a 39) = f39 := (hM9.a (by decide) (by decide)).trans e_32
          have e_189 : aF σ_s_182 (ad E a 40) = f40 := (hM9.a (by decide) (by decide)).trans e_33
          have e_190 : aF σ_s_182 (ad E a 42) = f42 := (hM9.a (by decide) (by decide)).trans e_34
          have e_191 : aF σ_s_182 (ad E a 43) = f43 := (hM9.a (by decide) (by decide)).trans e_35
          have e_192 : aF σ_s_182 (ad E a 44) = f44 := (hM9.a (by decide) (by decide)).trans e_36
          have e_193 : aF σ_s_182 (ad E a 45) = f45 := (hM9.a (by decide) (by decide)).trans e_37
          have e_194 : aF σ_s_182 (ad E a 46) = f46 := (hM9.a (by decide) (by decide)).trans e_38
          have e_195 : aF σ_s_182 (ad E a 3) = f3 := (hM9.a (by decide) (by decide)).trans e_40
          have e_196 : aF σ_s_182 (ad E a 8) = f8 := (hM9.a (by decide) (by decide)).trans e_41
          have e_197 : aF σ_s_182 (ad E a 35) = f35 := (hM9.a (by decide) (by decide)).trans e_42
          have e_198 : gI σ_s_182 a 36 = a360 := (hM9.i (by decide)).trans e_43
          have e_199 : gI σ_s_182 a 58 = a580 := (hM9.i (by decide)).trans e_44
          have e_200 : gI σ_s_182 a 59 = a590 := (hM9.i (by decide)).trans e_45
          have e_201 : gI σ_s_182 a 0 = 0 := (hM9.i (by decide)).trans e_46
          have e_202 : gI σ_s_182 a 12 = 0 := (hM9.i (by decide)).trans e_47
          replace hO := hO9
          generalize ef_204 : aF σ_s_182 (ad E a 2) = g_203 at hw_181
          have hw_181 : (z_183 = 1 ∧ tr g_203 ∧ mS g_203 0 = gI σ_s_182 a 22) ∨ z_183 = 0 := hw_181
          refine lv_if_ne (tgt := 63) hx hb dX11_withText_57 (by decide) (fun c_205 => ?_) (fun c_205 => ?_)
          · replace c_205 := mt (I_eq (a := z_183) (b := 0) rz_183 (show rng 0 from ⟨by decide, by decide⟩)).mpr c_205
            refine lv_aload_n hx hb dX11_withText_63 rfl (lv_at hl 0 rfl) ?_
            refine lv_iload_n hx hb dX11_withText_64 rfl (lv_at hl 3 rfl) ?_
            refine ok.putJ hO h_a k13_33 rky (by omega) (by omega) (fun _ he hl9 kk => th_put (ci := 11) (v := .int (I ky)) (ty := .int) (C := RX11) (T := TX11) (N := 66) hx hb hts inX11 tyX11 tyX11_ok nmX11 hown hK hH hS h00 he rfl 33 (by decide) fl2 rfl (by decide +kernel) rfl rfl hl9 dX11_withText_65 kk) (fun σ_s_206 H locs hO hF9 hM9 hg9 ha9 hH hS => ?_)
            replace hM := hM.tu hM9 (by decide)
            replace hF := hF.tu hF9 (by decide)
            have e_207 : aF σ_s_206 (ad E a 1) = f1 := (hM9.a (by decide) (by decide)).trans e_184
            have e_208 : aF σ_s_206 (ad E a 37) = f37 := (hM9.a (by decide) (by decide)).trans e_185
            have e_209 : aF σ_s_206 (ad E a 61) = f61 := (hM9.a (by decide) (by decide)).trans e_186
            have e_210 : aF σ_s_206 (ad E a 62) = f62 := (hM9.a (by decide) (by decide)).trans e_187
            have e_211 : aF σ_s_206 (ad E a 39) = f39 := (hM9.a (by decide) (by decide)).trans e_188
            have e_212 : aF σ_s_206 (ad E a 40) = f40 := (hM9.a (by decide) (by decide)).trans e_189
            have e_213 : aF σ_s_206 (ad E a 42) = f42 := (hM9.a (by decide) (by decide)).trans e_190
            have e_214 : aF σ_s_206 (ad E a 43) = f43 := (hM9.a (by decide) (by decide)).trans e_191
            have e_215 : aF σ_s_206 (ad E a 44) = f44 := (hM9.a (by decide) (by decide)).trans e_192
            have e_216 : aF σ_s_206 (ad E a 45) = f45 := (hM9.a (by decide) (by decide)).trans e_193
            have e_217 : aF σ_s_206 (ad E a 46) = f46 := (hM9.a (by decide) (by decide)).trans e_194
            have e_218 : aF σ_s_206 (ad E a 3) = f3 := (hM9.a (by decide) (by decide)).trans e_195
            have e_219 : aF σ_s_206 (ad E a 8) = f8 := (hM9.a (by decide) (by decide)).trans e_196
            have e_220 : aF σ_s_206 (ad E a 35) = f35 := (hM9.a (by decide) (by decide)).trans e_197
            have e_221 : gI σ_s_206 a 36 = a360 := (hM9.i (by decide)).trans e_198
            have e_222 : gI σ_s_206 a 58 = a580 := (hM9.i (by decide)).trans e_199
            have e_223 : gI σ_s_206 a 59 = a590 := (hM9.i (by decide)).trans e_200
            have e_224 : gI σ_s_206 a 0 = 0 := (hM9.i (by decide)).trans e_201
            have e_225 : gI σ_s_206 a 12 = 0 := (hM9.i (by decide)).trans e_202
            have e_226 : aF σ_s_206 (ad E a 2) = g_203 := (hM9.a (by decide) (by decide)).trans ef_204
            have e_227 := hg9
            refine lv_aload_n hx hb dX11_withText_68 rfl (lv_at hl 0 rfl) ?_
            refine lv_iload_n hx hb dX11_withText_69 rfl (lv_at hl 1 rfl) ?_
            refine lv_iload_n hx hb dX11_withText_70 rfl (lv_at hl 2 rfl) ?_
            refine lv_iconst (v := I 0) hx hb dX11_withText_71 (by decide) ?_
            obtain ⟨_, hc_228⟩ := hO.cell h_a (by decide) (ci := 11) rfl
            refine th_calli (va_runV (As := [.int (I slot), .int (I wh), .int (I 0)]) (rest := []) ⟨hx, hb, hml, hown, hts⟩ (m_changes l G y b0 σ_s_206 E hO a h_a slot (show rng slot from rslot) (by omega) (by omega) wh (show rng wh from rwh) (by omega) (by omega) 0 (show rng 0 from (show rng 0 from ⟨by decide, by decide⟩)) f1 e_207 g_203 e_226 f3 e_218 f8 e_219 f35 e_220 f37 e_208 (hw1) (by omega) (hj.1) ((hj.2.1.le (by omega))) ((by omega)) ((fun _ => ((hw_181.resolve_right (by omega)).2.1).td))) (cwV 3 hts gX11_withText_X11_changes rfl rfl rfl (by decide +kernel) ⟨Nat.le_of_ble_eq_true rfl, Nat.le_of_ble_eq_true rfl⟩) (th_PV hK hH rfl hc_228) rfl rfl hl.1 rfl (lv_room (Nat.le_of_ble_eq_true rfl)) dX11_withText_72 ⟨Nat.le_of_ble_eq_true rfl, Nat.le_of_ble_eq_true rfl⟩) hS (fun z_231 σ_s_230 H locs rz_231 hw_229 hH hS => ?_)
            obtain ⟨hO9, hF9, hM9, hw_229⟩ := hw_229
            replace hM := hM.tu hM9 (by decide)
            replace hF := hF.tu hF9 (by decide)
            have e_232 : aF σ_s_230 (ad E a 61) = f61 := (hM9.a (by decide) (by decide)).trans e_209
            have e_233 : aF σ_s_230 (ad E a 62) = f62 := (hM9.a (by decide) (by decide)).trans e_210
            have e_234 : aF σ_s_230 (ad E a 39) = f39 := (hM9.a (by decide) (by decide)).trans e_211
            have e_235 : aF σ_s_230 (ad E a 40) = f40 := (hM9.a (by decide) (by decide)).trans e_212
            have e_236 : aF σ_s_230 (ad E a 42) = f42 := (hM9.a (by decide) (by decide)).trans e_213
            have e_237 : aF σ_s_230 (ad E a 43) = f43 := (hM9.a (by decide) (by decide)).trans e_214
            have e_238 : aF σ_s_230 (ad E a 44) = f44 := (hM9.a (by decide) (by decide)).trans e_215
            have e_239 : aF σ_s_230 (ad E a 45) = f45 := (hM9.a (by decide) (by decide)).trans e_216
            have e_240 : aF σ_s_230 (ad E a 46) = f46 := (hM9.a (by decide) (by decide)).trans e_217
            have e_241 : aF σ_s_230 (ad E a 8) = f8 := (hM9.a (by decide) (by decide)).trans e_219
            have e_242 : gI σ_s_230 a 58 = a580 := (hM9.i (by decide)).trans e_222
            have e_243 : gI σ_s_230 a 59 = a590 := (hM9.i (by decide)).trans e_223
            have e_244 : gI σ_s_230 a 0 = 0 := (hM9.i (by decide)).trans e_224
            have e_245 : gI σ_s_230 a 12 = 0 := (hM9.i (by decide)).trans e_225
            have e_246 : aF σ_s_230 (ad E a 2) = g_203 := (hM9.a (by decide) (by decide)).trans e_226
            have e_247 : gI σ_s_230 a 33 = ky := (hM9.i (by decide)).trans e_227
            replace hO := hO9
            generalize ef_249 : aF σ_s_230 (ad E a 1) = g_248 at hw_229
            generalize ef_251 : aF σ_s_230 (ad E a 37) = g_250 at hw_229
            have hw_229 : tr g_248 ∧ trs g_250 (gI σ_s_230 a 36) := hw_229
            refine lv_istore (lv' := [(5, .int (I z_231)), (0, .ref a), (1, .int (I slot)), (2, .int (I wh)), (3, .int (I ky)), (4, .int (I nn))]) hx hb dX11_withText_75 hl (by decide) rfl (fun ls hl => ?_)
            refine lv_iload hx hb dX11_withText_77 (lv_at hl 0 rfl) ?_
            refine lv_iconst (v := I (-1)) hx hb dX11_withText_79 (by decide) ?_
            refine lv_icmp_ne (tgt := 91) hx hb dX11_withText_80 (by decide) (fun c_252 => ?_) (fun c_252 => ?_)
            · replace c_252 := mt (I_eq (a := z_231) (b := (-1)) rz_231 (show rng (-1) from ⟨by decide, by decide⟩)).mpr c_252
              refine lv_iload hx hb dX11_withText_91 (lv_at hl 0 rfl) ?_
              exact th_iret hx hb hr hlocks hH hS (z := z_231) rz_231 ⟨hO, hF, hM, by rw [show aF σ_s_230 (ad E a 1) = g_248 from ef_249, show aF σ_s_230 (ad E a 37) = g_250 from ef_251, show aF σ_s_230 (ad E a 61) = f61 from e_232, show aF σ_s_230 (ad E a 62) = f62 from e_233, show aF σ_s_230 (ad E a 39) = f39 from e_234, show aF σ_s_230 (ad E a 40) = f40 from e_235, show aF σ_s_230 (ad E a 42) = f42 from e_236, show aF σ_s_230 (ad E a 43) = f43 from e_237, show aF σ_s_230 (ad E a 44) = f44 from e_238, show aF σ_s_230 (ad E a 45) = f45 from e_239, show aF σ_s_230 (ad E a 46) = f46 from e_240]; exact ⟨hj.tree hw_229.1 (hw_229.2.le (by omega)) (by omega) (by omega), by omega⟩⟩ dX11_withText_93
            · replace c_252 := (I_eq (a := z_231) (b := (-1)) rz_231 (show rng (-1) from ⟨by decide, by decide⟩)).mp c_252
              refine lv_aload_n hx hb dX11_withText_83 rfl (lv_at hl 1 rfl) ?_
              refine lv_iconst (v := I 1) hx hb dX11_withText_84 (by decide) ?_
              obtain ⟨z_253, e_254, rz_253, lz_253, uz_253⟩ := hO.gi h_a (by decide) k13_36
              obtain ⟨_, hc_255⟩ := hO.cell h_a (by decide) (ci := 11) rfl
              refine th_calli (va_runV (As := [.int (I 1)]) (rest := []) ⟨hx, hb, hml, hown, hts⟩ (m_refuse l G y b0 σ_s_230 E hO a h_a 1 (show rng 1 from (show rng 1 from ⟨by decide, by decide⟩)) (by omega) (by omega)) (cwV 1 hts gX11_withText_X11_refuse rfl rfl rfl (by decide +kernel) ⟨Nat.le_of_ble_eq_true rfl, Nat.le_of_ble_eq_true rfl⟩) (th_PV hK hH rfl hc_255) rfl rfl hl.1 rfl (lv_room (Nat.le_of_ble_eq_true rfl)) dX11_withText_85 ⟨Nat.le_of_ble_eq_true rfl, Nat.le_of_ble_eq_true rfl⟩) hS (fun z_258 σ_s_257 H locs rz_258 hw_256 hH hS => ?_)
              obtain ⟨hO9, hF9, hM9, hw_256⟩ := hw_256
              replace hM := hM.tu hM9 (by decide)
              replace hF := hF.tu hF9 (by decide)
              have e_259 : aF σ_s_257 (ad E a 61) = f61 := (hM9.a (by decide) (by decide)).trans e_232
              have e_260 : aF σ_s_257 (ad E a 62) = f62 := (hM9.a (by decide) (by decide)).trans e_233
              have e_261 : aF σ_s_257 (ad E a 39) = f39 := (hM9.a (by decide) (by decide)).trans e_234
              have e_262 : aF σ_s_257 (ad E a 40) = f40 := (hM9.a (by decide) (by decide)).trans e_235
              have e_263 : aF σ_s_257 (ad E a 42) = f42 := (hM9.a (by decide) (by decide)).trans e_236
              have e_264 : aF σ_s_257 (ad E a 43) = f43 := (hM9.a (by decide) (by decide)).trans e_237
              have e_265 : aF σ_s_257 (ad E a 44) = f44 := (hM9.a (by decide) (by decide)).trans e_238
              have e_266 : aF σ_s_257 (ad E a 45) = f45 := (hM9.a (by decide) (by decide)).trans e_239
              have e_267 : aF σ_s_257 (ad E a 46) = f46 := (hM9.a (by decide) (by decide)).trans e_240
              have e_268 : aF σ_s_257 (ad E a 8) = f8 := (hM9.a (by decide) (by decide)).trans e_241
              have e_269 : gI σ_s_257 a 58 = a580 := (hM9.i (by decide)).trans e_242
              have e_270 : gI σ_s_257 a 59 = a590 := (hM9.i (by decide)).trans e_243
              have e_271 : gI σ_s_257 a 0 = 0 := (hM9.i (by decide)).trans e_244
              have e_272 : gI σ_s_257 a 12 = 0 := (hM9.i (by decide)).trans e_245
              have e_273 : aF σ_s_257 (ad E a 2) = g_203 := (hM9.a (by decide) (by decide)).trans e_246
              have e_274 : gI σ_s_257 a 33 = ky := (hM9.i (by decide)).trans e_247
              have e_275 : aF σ_s_257 (ad E a 1) = g_248 := (hM9.a (by decide) (by decide)).trans ef_249
              have e_276 : aF σ_s_257 (ad E a 37) = g_250 := (hM9.a (by decide) (by decide)).trans ef_251
              have e_277 : gI σ_s_257 a 36 = z_253 := (hM9.i (by decide)).trans e_254
              replace hO := hO9
              have hw_256 : z_258 = -1 := hw_256
              refine lv_goto (tgt := 93) hx hb dX11_withText_88 (by decide) ?_
              exact th_iret hx hb hr hlocks hH hS (z := z_258) rz_258 ⟨hO, hF, hM, by rw [show aF σ_s_257 (ad E a 1) = g_248 from e_275, show aF σ_s_257 (ad E a 37) = g_250 from e_276, show aF σ_s_257 (ad E a 61) = f61 from e_259, show aF σ_s_257 (ad E a 62) = f62 from e_260, show aF σ_s_257 (ad E a 39) = f39 from e_261, show aF σ_s_257 (ad E a 40) = f40 from e_262, show aF σ_s_257 (ad E a 42) = f42 from e_263, show aF σ_s_257 (ad E a 43) = f43 from e_264, show aF σ_s_257 (ad E a 44) = f44 from e_265, show aF σ_s_257 (ad E a 45) = f45 from e_266, show aF σ_s_257 (ad E a 46) = f46 from e_267]; exact ⟨hj.tree hw_229.1 (hw_229.2.le (by omega)) (by omega) (by omega), by omega⟩⟩ dX11_withText_93
          · replace c_205 := (I_eq (a := z_183) (b := 0) rz_183 (show rng 0 from ⟨by decide, by decide⟩)).mp c_205
            refine lv_bipush (v := I (-2)) hx hb dX11_withText_60 (by decide) ?_
            exact th_iret hx hb hr hlocks hH hS (z := (-2)) (show rng (-2) from ⟨by decide, by decide⟩) ⟨hO, hF, hM, by rw [show aF σ_s_182 (ad E a 1) = f1 from e_184, show aF σ_s_182 (ad E a 37) = f37 from e_185, show aF σ_s_182 (ad E a 61) = f61 from e_186, show aF σ_s_182 (ad E a 62) = f62 from e_187, show aF σ_s_182 (ad E a 39) = f39 from e_188, show aF σ_s_182 (ad E a 40) = f40 from e_189, show aF σ_s_182 (ad E a 42) = f42 from e_190, show aF σ_s_182 (ad E a 43) = f43 from e_191, show aF σ_s_182 (ad E a 44) = f44 from e_192, show aF σ_s_182 (ad E a 45) = f45 from e_193, show aF σ_s_182 (ad E a 46) = f46 from e_194]; exact ⟨hj.n (by omega) (by omega) (by omega), by omega⟩⟩ dX11_withText_62
        · replace c_179 := (I_eq (a := z_178) (b := 0) rz_178 (show rng 0 from ⟨by decide, by decide⟩)).mp c_179
          refine lv_aload_n hx hb dX11_withText_45 rfl (lv_at hl 0 rfl) ?_
          refine lv_iconst (v := I 1) hx hb dX11_withText_46 (by decide) ?_
          obtain ⟨_, hc_278⟩ := hO.cell h_a (by decide) (ci := 11) rfl
          refine th_calli (va_runV (As := [.int (I 1)]) (rest := []) ⟨hx, hb, hml, hown, hts⟩ (m_refuse l G y b0 σ_s_27 E hO a h_a 1 (show rng 1 from (show rng 1 from ⟨by decide, by decide⟩)) (by omega) (by omega)) (cwV 1 hts gX11_withText_X11_refuse rfl rfl rfl (by decide +kernel) ⟨Nat.le_of_ble_eq_true rfl, Nat.le_of_ble_eq_true rfl⟩) (th_PV hK hH rfl hc_278) rfl rfl hl.1 rfl (lv_room (Nat.le_of_ble_eq_true rfl)) dX11_withText_47 ⟨Nat.le_of_ble_eq_true rfl, Nat.le_of_ble_eq_true rfl⟩) hS (fun z_281 σ_s_280 H locs rz_281 hw_279 hH hS => ?_)
          obtain ⟨hO9, hF9, hM9, hw_279⟩ := hw_279
          replace hM := hM.tu hM9 (by decide)
          replace hF := hF.tu hF9 (by decide)
          have e_282 : aF σ_s_280 (ad E a 1) = f1 := (hM9.a (by decide) (by decide)).trans e_28
          have e_283 : aF σ_s_280 (ad E a 37) = f37 := (hM9.a (by decide) (by decide)).trans e_29
          have e_284 : aF σ_s_280 (ad E a 61) = f61 := (hM9.a (by decide) (by decide)).trans e_30
          have e_285 : aF σ_s_280 (ad E a 62) = f62 := (hM9.a (by decide) (by decide)).trans e_31
          have e_286 : aF σ_s_280 (ad E a 39) = f39 := (hM9.a (by decide) (by decide)).trans e_32
          have e_287 : aF σ_s_280 (ad E a 40) = f40 := (hM9.a (by decide) (by decide)).trans e_33
          have e_288 : aF σ_s_280 (ad E a 42) = f42 := (hM9.a (by decide) (by decide)).trans e_34
          have e_289 : aF σ_s_280 (ad E a 43) = f43 := (hM9.a (by decide) (by decide)).trans e_35
          have e_290 : aF σ_s_280 (ad E a 44) = f44 := (hM9.a (by decide) (by decide)).trans e_36
          have e_291 : aF σ_s_280 (ad E a 45) = f45 := (hM9.a (by decide) (by decide)).trans e_37
          have e_292 : aF σ_s_280 (ad E a 46) = f46 := (hM9.a (by decide) (by decide)).trans e_38
          have e_293 : aF σ_s_280 (ad E a 2) = f2 := (hM9.a (by decide) (by decide)).trans e_39
          have e_294 : aF σ_s_280 (ad E a 3) = f3 := (hM9.a (by decide) (by decide)).trans e_40
          have e_295 : aF σ_s_280 (ad E a 8) = f8 := (hM9.a (by decide) (by decide)).trans e_41
          have e_296 : aF σ_s_280 (ad E a 35) = f35 := (hM9.a (by decide) (by decide)).trans e_42
          have e_297 : gI σ_s_280 a 36 = a360 := (hM9.i (by decide)).trans e_43
          have e_298 : gI σ_s_280 a 58 = a580 := (hM9.i (by decide)).trans e_44
          have e_299 : gI σ_s_280 a 59 = a590 := (hM9.i (by decide)).trans e_45
          have e_300 : gI σ_s_280 a 0 = 0 := (hM9.i (by decide)).trans e_46
          have e_301 : gI σ_s_280 a 12 = 0 := (hM9.i (by decide)).trans e_47
          replace hO := hO9
          have hw_279 : z_281 = -1 := hw_279
          exact th_iret hx hb hr hlocks hH hS (z := z_281) rz_281 ⟨hO, hF, hM, by rw [show aF σ_s_280 (ad E a 1) = f1 from e_282, show aF σ_s_280 (ad E a 37) = f37 from e_283, show aF σ_s_280 (ad E a 61) = f61 from e_284, show aF σ_s_280 (ad E a 62) = f62 from e_285, show aF σ_s_280 (ad E a 39) = f39 from e_286, show aF σ_s_280 (ad E a 40) = f40 from e_287, show aF σ_s_280 (ad E a 42) = f42 from e_288, show aF σ_s_280 (ad E a 43) = f43 from e_289, show aF σ_s_280 (ad E a 44) = f44 from e_290, show aF σ_s_280 (ad E a 45) = f45 from e_291, show aF σ_s_280 (ad E a 46) = f46 from e_292]; exact ⟨hj.n (by omega) (by omega) (by omega), by omega⟩⟩ dX11_withText_50
  · replace c_26 := (I_eq (a := z_25) (b := 0) rz_25 (show rng 0 from ⟨by decide, by decide⟩)).mp c_26
    refine lv_aload_n hx hb dX11_withText_14 rfl (lv_at hl 0 rfl) ?_
    refine lv_iconst (v := I 1) hx hb dX11_withText_15 (by decide) ?_
    obtain ⟨_, hc_302⟩ := hO.cell h_a (by decide) (ci := 11) rfl
    refine th_calli (va_runV (As := [.int (I 1)]) (rest := []) ⟨hx, hb, hml, hown, hts⟩ (m_fail l G y b0 σ_s_1 E hO a h_a 1 (show rng 1 from (show rng 1 from ⟨by decide, by decide⟩))) (cwV 1 hts gX11_withText_X11_fail rfl rfl rfl (by decide +kernel) ⟨Nat.le_of_ble_eq_true rfl, Nat.le_of_ble_eq_true rfl⟩) (th_PV hK hH rfl hc_302) rfl rfl hl.1 rfl (lv_room (Nat.le_of_ble_eq_true rfl)) dX11_withText_16 ⟨Nat.le_of_ble_eq_true rfl, Nat.le_of_ble_eq_true rfl⟩) hS (fun z_305 σ_s_304 H locs rz_305 hw_303 hH hS => ?_)
    obtain ⟨hO9, hF9, hM9, hw_303⟩ := hw_303
    replace hM := hM.tu hM9 (by decide)
    replace hF := hF.tu hF9 (by decide)
    have e_306 : aF σ_s_304 (ad E a 1) = f1 := (hM9.a (by decide) (by decide)).trans e_2
    have e_307 : aF σ_s_304 (ad E a 37) = f37 := (hM9.a (by decide) (by decide)).trans e_3
    have e_308 : aF σ_s_304 (ad E a 61) = f61 := (hM9.a (by decide) (by decide)).trans e_4
    have e_309 : aF σ_s_304 (ad E a 62) = f62 := (hM9.a (by decide) (by decide)).trans e_5
    have e_310 : aF σ_s_304 (ad E a 39) = f39 := (hM9.a (by decide) (by decide)).trans e_6
    have e_311 : aF σ_s_304 (ad E a 40) = f40 := (hM9.a (by decide) (by decide)).trans e_7
    have e_312 : aF σ_s_304 (ad E a 42) = f42 := (hM9.a (by decide) (by decide)).trans e_8
    have e_313 : aF σ_s_304 (ad E a 43) = f43 := (hM9.a (by decide) (by decide)).trans e_9
    have e_314 : aF σ_s_304 (ad E a 44) = f44 := (hM9.a (by decide) (by decide)).trans e_10
    have e_315 : aF σ_s_304 (ad E a 45) = f45 := (hM9.a (by decide) (by decide)).trans e_11
    have e_316 : aF σ_s_304 (ad E a 46) = f46 := (hM9.a (by decide) (by decide)).trans e_12
    have e_317 : aF σ_s_304 (ad E a 2) = f2 := (hM9.a (by decide) (by decide)).trans e_13
    have e_318 : aF σ_s_304 (ad E a 3) = f3 := (hM9.a (by decide) (by decide)).trans e_14
    have e_319 : aF σ_s_304 (ad E a 8) = f8 := (hM9.a (by decide) (by decide)).trans e_15
    have e_320 : aF σ_s_304 (ad E a 35) = f35 := (hM9.a (by decide) (by decide)).trans e_16
    have e_321 : gI σ_s_304 a 36 = a360 := (hM9.i (by decide)).trans e_17
    have e_322 : gI σ_s_304 a 58 = a580 := (hM9.i (by decide)).trans e_18
    have e_323 : gI σ_s_304 a 59 = a590 := (hM9.i (by decide)).trans e_19
    have e_324 : gI σ_s_304 a 12 = a120 := (hM9.i (by decide)).trans e_20
    replace hO := hO9
    exact th_iret hx hb hr hlocks hH hS (z := z_305) rz_305 ⟨hO, hF, hM, by rw [show aF σ_s_304 (ad E a 1) = f1 from e_306, show aF σ_s_304 (ad E a 37) = f37 from e_307, show aF σ_s_304 (ad E a 61) = f61 from e_308, show aF σ_s_304 (ad E a 62) = f62 from e_309, show aF σ_s_304 (ad E a 39) = f39 from e_310, show aF σ_s_304 (ad E a 40) = f40 from e_311, show aF σ_s_304 (ad E a 42) = f42 from e_312, show aF σ_s_304 (ad E a 43) = f43 from e_313, show aF σ_s_304 (ad E a 44) = f44 from e_314, show aF σ_s_304 (ad E a 45) = f45 from e_315, show aF σ_s_304 (ad E a 46) = f46 from e_316]; exact ⟨hj.n (by omega) (by omega) (by omega), by omega⟩⟩ dX11_withText_19

set_option maxHeartbeats 4000000 in
set_option maxRecDepth 100000 in
theorem j_put (l : Launch) (G : va_G) (y : Nat → ClassId) (b0 : Nat) (σ : th_M) (E : th_E) (hO : ok y E σ) (a : Nat) (h_a : kd E a = 13) (slot : Int) (rslot : rng slot) (nn : Int) (rnn : rng nn) (f1 : Nat → Int32) (ef1 : aF σ (ad E a 1) = f1) (f37 : Nat → Int32) (ef37 : aF σ (ad E a 37) = f37) (f61 : Nat → Int32) (ef61 : aF σ (ad E a 61) = f61) (f62 : Nat → Int32) (ef62 : aF σ (ad E a 62) = f62) (f39 : Nat → Int32) (ef39 : aF σ (ad E a 39) = f39) (f40 : Nat → Int32) (ef40 : aF σ (ad E a 40) = f40) (f42 : Nat → Int32) (ef42 : aF σ (ad E a 42) = f42) (f43 : Nat → Int32) (ef43 : aF σ (ad E a 43) = f43) (f44 : Nat → Int32) (ef44 : aF σ (ad E a 44) = f44) (f45 : Nat → Int32) (ef45 : aF σ (ad E a 45) = f45) (f46 : Nat → Int32) (ef46 : aF σ (ad E a 46) = f46) (f2 : Nat → Int32) (ef2 : aF σ (ad E a 2) = f2) (f3 : Nat → Int32) (ef3 : aF σ (ad E a 3) = f3) (f8 : Nat → Int32) (ef8 : aF σ (ad E a 8) = f8) (f35 : Nat → Int32) (ef35 : aF σ (ad E a 35) = f35) (hy0 : jw f1 f37 f61 f62 f39 f40 f42 f43 f44 f45 f46 (gI σ a 36) (gI σ a 58) (gI σ a 59)) : Met l yX11_put wsX11_put ({ frames := 53, cells := 0, slots := 0, locals := 2062 }) (th_P G y b0 σ [.ref a, .int (I slot), .int (I nn)]) (th_Qi G b0 (fun r σ1 => ok y E σ1 ∧ fr [13] E σ σ1 ∧ fm [0, 1, 2, 3, 4, 5, 9, 10, 11, 12, 13, 14, 15, 16, 17, 18, 19, 20, 21, 22, 23, 24, 25, 26, 27, 28, 29, 30, 32, 33, 34, 35, 36, 37] E σ σ1 a ∧ (jw (aF σ1 (ad E a 1)) (aF σ1 (ad E a 37)) (aF σ1 (ad E a 61)) (aF σ1 (ad E a 62)) (aF σ1 (ad E a 39)) (aF σ1 (ad E a 40)) (aF σ1 (ad E a 42)) (aF σ1 (ad E a 43)) (aF σ1 (ad E a 44)) (aF σ1 (ad E a 45)) (aF σ1 (ad E a 46)) (gI σ1 a 36) (gI σ1 a 58) (gI σ1 a 59) ∧ (((0 ≤ nn ∧ nn ≤ gI σ a 12) ∧ gI σ1 a 12 = 0) ∨ (¬ (0 ≤ nn ∧ nn ≤ gI σ a 12) ∧ gI σ1 a 12 = gI σ a 12))))) 0 0 (th_A b0) := by
  refine Met.ofW (cc := cX11_put) (maxL := 3) (ret := (some .int)) (by decide) rfl ?_
  intro p e s m args below meth c s₁ B hml hv
  obtain ⟨rfl, hH, hK⟩ := hv
  have hx := B.exec
  have hb := B.bytes
  have hr := B.returns
  have hts := atoms_spec (ws := wsX11_put) B.pre
  have hown : s.vm.findClass RX11 = some m.cls := findClass_of_methodNamed B.named
  have hlocks := B.notSynchronized
  have h00 : b0 ≤ s.heap.size := hH.1
  have hS : va_S (th_A b0) s.heap s.heap [] := va_S.rf
  have hF : fr [13] E σ σ := fr.rf
  have hM : fm [0, 1, 2, 3, 4, 5, 9, 10, 11, 12, 13, 14, 15, 16, 17, 18, 19, 20, 21, 22, 23, 24, 25, 26, 27, 28, 29, 30, 32, 33, 34, 35, 36, 37] E σ σ a := fm.rf
  have hj := hy0
  have hw1 := hj.1.1.1
  have hm1 := hj.1.2.1
  have hm2 := hj.1.2.2.1
  have hm3 := hj.2.2.2.2.1
  have hm4 := hj.2.2.2.2.2.1
  have hl := lv_entry ([.ref a, .int (I slot), .int (I nn)]) (n := 3) (Nat.le_of_ble_eq_true rfl)
  rw [lg_entry_eq]
  generalize (lg_sl ([.ref a, .int (I slot), .int (I nn)]) ++ List.replicate (3 - (lg_sl ([.ref a, .int (I slot), .int (I nn)])).length) Slot.unset).toArray = ls at hl ⊢
  have hl : lv_has ls 3 [(0, .ref a), (1, .int (I slot)), (2, .int (I nn))] := hl
  obtain ⟨a360, ea360, ra360, la360, ua360⟩ := hO.gi h_a (by decide) k13_36
  obtain ⟨a580, ea580, ra580, la580, ua580⟩ := hO.gi h_a (by decide) k13_58
  obtain ⟨a590, ea590, ra590, la590, ua590⟩ := hO.gi h_a (by decide) k13_59
  obtain ⟨a120, ea120, ra120, la120, ua120⟩ := hO.gi h_a (by decide) k13_12
  refine lv_aload_n hx hb dX11_put_0 rfl (lv_at hl 0 rfl) ?_
  refine lv_iload_n hx hb dX11_put_1 rfl (lv_at hl 1 rfl) ?_
  refine lv_iconst (v := I 0) hx hb dX11_put_2 (by decide) ?_
  refine lv_iconst (v := I 0) hx hb dX11_put_3 (by decide) ?_
  refine lv_iload_n hx hb dX11_put_4 rfl (lv_at hl 2 rfl) ?_
  obtain ⟨_, hc_1⟩ := hO.cell h_a (by decide) (ci := 11) rfl
  refine th_calli (va_runV (As := [.int (I slot), .int (I 0), .int (I 0), .int (I nn)]) (rest := []) ⟨hx, hb, hml, hown, hts⟩ (j_withText l G y b0 σ E hO a h_a slot (show rng slot from rslot) 0 (show rng 0 from (show rng 0 from ⟨by decide, by decide⟩)) (by omega) (by omega) 0 (show rng 0 from (show rng 0 from ⟨by decide, by decide⟩)) nn (show rng nn from rnn) f1 ef1 f37 ef37 f61 ef61 f62 ef62 f39 ef39 f40 ef40 f42 ef42 f43 ef43 f44 ef44 f45 ef45 f46 ef46 f2 ef2 f3 ef3 f8 ef8 f35 ef35 (hj)) (cwV 4 hts gX11_put_X11_withText rfl rfl rfl (by decide +kernel) ⟨Nat.le_of_ble_eq_true rfl, Nat.le_of_ble_eq_true rfl⟩) (th_PV hK hH rfl hc_1) rfl rfl hl.1 rfl (lv_room (Nat.le_of_ble_eq_true rfl)) dX11_put_5 ⟨Nat.le_of_ble_eq_true rfl, Nat.le_of_ble_eq_true rfl⟩) hS (fun z_4 σ_s_3 H locs rz_4 hw_2 hH hS => ?_)
  obtain ⟨hO9, hF9, hM9, hw_2⟩ := hw_2
  replace hM := hM.tu hM9 (by decide)
  replace hF := hF.tu hF9 (by decide)
  have e_5 : aF σ_s_3 (ad E a 61) = f61 := (hM9.a (by decide) (by decide)).trans ef61
  have e_6 : aF σ_s_3 (ad E a 62) = f62 := (hM9.a (by decide) (by decide)).trans ef62
  have e_7 : aF σ_s_3 (ad E a 39) = f39 := (hM9.a (by decide) (by decide)).trans ef39
  have e_8 : aF σ_s_3 (ad E a 40) = f40 := (hM9.a (by decide) (by decide)).trans ef40
  have e_9 : aF σ_s_3 (ad E a 42) = f42 := (hM9.a (by decide) (by decide)).trans ef42
  have e_10 : aF σ_s_3 (ad E a 43) = f43 := (hM9.a (by decide) (by decide)).trans ef43
  have e_11 : aF σ_s_3 (ad E a 44) = f44 := (hM9.a (by decide) (by decide)).trans ef44
  have e_12 : aF σ_s_3 (ad E a 45) = f45 := (hM9.a (by decide) (by decide)).trans ef45
  have e_13 : aF σ_s_3 (ad E a 46) = f46 := (hM9.a (by decide) (by decide)).trans ef46
  have e_14 : aF σ_s_3 (ad E a 8) = f8 := (hM9.a (by decide) (by decide)).trans ef8
  have e_15 : gI σ_s_3 a 58 = a580 := (hM9.i (by decide)).trans ea580
  have e_16 : gI σ_s_3 a 59 = a590 := (hM9.i (by decide)).trans ea590
  replace hO := hO9
  generalize ef_18 : aF σ_s_3 (ad E a 1) = g_17 at hw_2
  generalize ef_20 : aF σ_s_3 (ad E a 37) = g_19 at hw_2
  generalize ef_22 : aF σ_s_3 (ad E a 39) = g_21 at hw_2
  generalize ef_24 : aF σ_s_3 (ad E a 40) = g_23 at hw_2
  generalize ef_26 : aF σ_s_3 (ad E a 42) = g_25 at hw_2
  generalize ef_28 : aF σ_s_3 (ad E a 43) = g_27 at hw_2
  generalize ef_30 : aF σ_s_3 (ad E a 44) = g_29 at hw_2
  generalize ef_32 : aF σ_s_3 (ad E a 45) = g_31 at hw_2
  generalize ef_34 : aF σ_s_3 (ad E a 46) = g_33 at hw_2
  generalize ef_36 : aF σ_s_3 (ad E a 61) = g_35 at hw_2
  generalize ef_38 : aF σ_s_3 (ad E a 62) = g_37 at hw_2
  have hw_2 : jw g_17 g_19 g_35 g_37 g_21 g_23 g_25 g_27 g_29 g_31 g_33 (gI σ_s_3 a 36) (gI σ_s_3 a 58) (gI σ_s_3 a 59) ∧ (((0 ≤ nn ∧ nn ≤ gI σ a 12) ∧ gI σ_s_3 a 12 = 0) ∨ (¬ (0 ≤ nn ∧ nn ≤ gI σ a 12) ∧ gI σ_s_3 a 12 = gI σ a 12)) := hw_2
  exact th_iret hx hb hr hlocks hH hS (z := z_4) rz_4 ⟨hO, hF, hM, by have h9 := hw_2; rw [show aF σ_s_3 (ad E a 1) = g_17 from ef_18, show aF σ_s_3 (ad E a 37) = g_19 from ef_20, show aF σ_s_3 (ad E a 61) = g_35 from ef_36, show aF σ_s_3 (ad E a 62) = g_37 from ef_38, show aF σ_s_3 (ad E a 39) = g_21 from ef_22, show aF σ_s_3 (ad E a 40) = g_23 from ef_24, show aF σ_s_3 (ad E a 42) = g_25 from ef_26, show aF σ_s_3 (ad E a 43) = g_27 from ef_28, show aF σ_s_3 (ad E a 44) = g_29 from ef_30, show aF σ_s_3 (ad E a 45) = g_31 from ef_32, show aF σ_s_3 (ad E a 46) = g_33 from ef_34]; exact ⟨h9.1, h9.2⟩⟩ dX11_put_8

set_option maxHeartbeats 4000000 in
set_option maxRecDepth 100000 in
theorem j_append (l : Launch) (G : va_G) (y : Nat → ClassId) (b0 : Nat) (σ : th_M) (E : th_E) (hO : ok y E σ) (a : Nat) (h_a : kd E a = 13) (slot : Int) (rslot : rng slot) (nn : Int) (rnn : rng nn) (f1 : Nat → Int32) (ef1 : aF σ (ad E a 1) = f1) (f37 : Nat → Int32) (ef37 : aF σ (ad E a 37) = f37) (f61 : Nat → Int32) (ef61 : aF σ (ad E a 61) = f61) (f62 : Nat → Int32) (ef62 : aF σ (ad E a 62) = f62) (f39 : Nat → Int32) (ef39 : aF σ (ad E a 39) = f39) (f40 : Nat → Int32) (ef40 : aF σ (ad E a 40) = f40) (f42 : Nat → Int32) (ef42 : aF σ (ad E a 42) = f42) (f43 : Nat → Int32) (ef43 : aF σ (ad E a 43) = f43) (f44 : Nat → Int32) (ef44 : aF σ (ad E a 44) = f44) (f45 : Nat → Int32) (ef45 : aF σ (ad E a 45) = f45) (f46 : Nat → Int32) (ef46 : aF σ (ad E a 46) = f46) (f2 : Nat → Int32) (ef2 : aF σ (ad E a 2) = f2) (f3 : Nat → Int32) (ef3 : aF σ (ad E a 3) = f3) (f8 : Nat → Int32) (ef8 : aF σ (ad E a 8) = f8) (f35 : Nat → Int32) (ef35 : aF σ (ad E a 35) = f35) (hy0 : jw f1 f37 f61 f62 f39 f40 f42 f43 f44 f45 f46 (gI σ a 36) (gI σ a 58) (gI σ a 59)) : Met l yX11_append wsX11_append ({ frames := 53, cells := 0, slots := 0, locals := 2062 }) (th_P G y b0 σ [.ref a, .int (I slot), .int (I nn)]) (th_Qi G b0 (fun r σ1 => ok y E σ1 ∧ fr [13] E σ σ1 ∧ fm [0, 1, 2, 3, 4, 5, 9, 10, 11, 12, 13, 14, 15, 16, 17, 18, 19, 20, 21, 22, 23, 24, 25, 26, 27, 28, 29, 30, 32, 33, 34, 35, 36, 37] E σ σ1 a ∧ (jw (aF σ1 (ad E a 1)) (aF σ1 (ad E a 37)) (aF σ1 (ad E a 61)) (aF σ1 (ad E a 62)) (aF σ1 (ad E a 39)) (aF σ1 (ad E a 40)) (aF σ1 (ad E a 42)) (aF σ1 (ad E a 43)) (aF σ1 (ad E a 44)) (aF σ1 (ad E a 45)) (aF σ1 (ad E a 46)) (gI σ1 a 36) (gI σ1 a 58) (gI σ1 a 59) ∧ (((0 ≤ nn ∧ nn ≤ gI σ a 12) ∧ gI σ1 a 12 = 0) ∨ (¬ (0 ≤ nn ∧ nn ≤ gI σ a 12) ∧ gI σ1 a 12 = gI σ a 12))))) 0 0 (th_A b0) := by
  refine Met.ofW (cc := cX11_append) (maxL := 3) (ret := (some .int)) (by decide) rfl ?_
  intro p e s m args below meth c s₁ B hml hv
  obtain ⟨rfl, hH, hK⟩ := hv
  have hx := B.exec
  have hb := B.bytes
  have hr := B.returns
  have hts := atoms_spec (ws := wsX11_append) B.pre
  have hown : s.vm.findClass RX11 = some m.cls := findClass_of_methodNamed B.named
  have hlocks := B.notSynchronized
  have h00 : b0 ≤ s.heap.size := hH.1
  have hS : va_S (th_A b0) s.heap s.heap [] := va_S.rf
  have hF : fr [13] E σ σ := fr.rf
  have hM : fm [0, 1, 2, 3, 4, 5, 9, 10, 11, 12, 13, 14, 15, 16, 17, 18, 19, 20, 21, 22, 23, 24, 25, 26, 27, 28, 29, 30, 32, 33, 34, 35, 36, 37] E σ σ a := fm.rf
  have hj := hy0
  have hw1 := hj.1.1.1
  have hm1 := hj.1.2.1
  have hm2 := hj.1.2.2.1
  have hm3 := hj.2.2.2.2.1
  have hm4 := hj.2.2.2.2.2.1
  have hl := lv_entry ([.ref a, .int (I slot), .int (I nn)]) (n := 3) (Nat.le_of_ble_eq_true rfl)
  rw [lg_entry_eq]
  generalize (lg_sl ([.ref a, .int (I slot), .int (I nn)]) ++ List.replicate (3 - (lg_sl ([.ref a, .int (I slot), .int (I nn)])).length) Slot.unset).toArray = ls at hl ⊢
  have hl : lv_has ls 3 [(0, .ref a), (1, .int (I slot)), (2, .int (I nn))] := hl
  obtain ⟨a360, ea360, ra360, la360, ua360⟩ := hO.gi h_a (by decide) k13_36
  obtain ⟨a580, ea580, ra580, la580, ua580⟩ := hO.gi h_a (by decide) k13_58
  obtain ⟨a590, ea590, ra590, la590, ua590⟩ := hO.gi h_a (by decide) k13_59
  obtain ⟨a120, ea120, ra120, la120, ua120⟩ := hO.gi h_a (by decide) k13_12
  refine lv_aload_n hx hb dX11_append_0 rfl (lv_at hl 0 rfl) ?_
  refine lv_iload_n hx hb dX11_append_1 rfl (lv_at hl 1 rfl) ?_
  refine lv_iconst (v := I 1) hx hb dX11_append_2 (by decide) ?_
  refine lv_iconst (v := I 0) hx hb dX11_append_3 (by decide) ?_
  refine lv_iload_n hx hb dX11_append_4 rfl (lv_at hl 2 rfl) ?_
  obtain ⟨_, hc_1⟩ := hO.cell h_a (by decide) (ci := 11) rfl
  refine th_calli (va_runV (As := [.int (I slot), .int (I 1), .int (I 0), .int (I nn)]) (rest := []) ⟨hx, hb, hml, hown, hts⟩ (j_withText l G y b0 σ E hO a h_a slot (show rng slot from rslot) 1 (show rng 1 from (show rng 1 from ⟨by decide, by decide⟩)) (by omega) (by omega) 0 (show rng 0 from (show rng 0 from ⟨by decide, by decide⟩)) nn (show rng nn from rnn) f1 ef1 f37 ef37 f61 ef61 f62 ef62 f39 ef39 f40 ef40 f42 ef42 f43 ef43 f44 ef44 f45 ef45 f46 ef46 f2 ef2 f3 ef3 f8 ef8 f35 ef35 (hj)) (cwV 4 hts gX11_append_X11_withText rfl rfl rfl (by decide +kernel) ⟨Nat.le_of_ble_eq_true rfl, Nat.le_of_ble_eq_true rfl⟩) (th_PV hK hH rfl hc_1) rfl rfl hl.1 rfl (lv_room (Nat.le_of_ble_eq_true rfl)) dX11_append_5 ⟨Nat.le_of_ble_eq_true rfl, Nat.le_of_ble_eq_true rfl⟩) hS (fun z_4 σ_s_3 H locs rz_4 hw_2 hH hS => ?_)
  obtain ⟨hO9, hF9, hM9, hw_2⟩ := hw_2
  replace hM := hM.tu hM9 (by decide)
  replace hF := hF.tu hF9 (by decide)
  have e_5 : aF σ_s_3 (ad E a 61) = f61 := (hM9.a (by decide) (by decide)).trans ef61
  have e_6 : aF σ_s_3 (ad E a 62) = f62 := (hM9.a (by decide) (by decide)).trans ef62
  have e_7 : aF σ_s_3 (ad E a 39) = f39 := (hM9.a (by decide) (by decide)).trans ef39
  have e_8 : aF σ_s_3 (ad E a 40) = f40 := (hM9.a (by decide) (by decide)).trans ef40
  have e_9 : aF σ_s_3 (ad E a 42) = f42 := (hM9.a (by decide) (by decide)).trans ef42
  have e_10 : aF σ_s_3 (ad E a 43) = f43 := (hM9.a (by decide) (by decide)).trans ef43
  have e_11 : aF σ_s_3 (ad E a 44) = f44 := (hM9.a (by decide) (by decide)).trans ef44
  have e_12 : aF σ_s_3 (ad E a 45) = f45 := (hM9.a (by decide) (by decide)).trans ef45
  have e_13 : aF σ_s_3 (ad E a 46) = f46 := (hM9.a (by decide) (by decide)).trans ef46
  have e_14 : aF σ_s_3 (ad E a 8) = f8 := (hM9.a (by decide) (by decide)).trans ef8
  have e_15 : gI σ_s_3 a 58 = a580 := (hM9.i (by decide)).trans ea580
  have e_16 : gI σ_s_3 a 59 = a590 := (hM9.i (by decide)).trans ea590
  replace hO := hO9
  generalize ef_18 : aF σ_s_3 (ad E a 1) = g_17 at hw_2
  generalize ef_20 : aF σ_s_3 (ad E a 37) = g_19 at hw_2
  generalize ef_22 : aF σ_s_3 (ad E a 39) = g_21 at hw_2
  generalize ef_24 : aF σ_s_3 (ad E a 40) = g_23 at hw_2
  generalize ef_26 : aF σ_s_3 (ad E a 42) = g_25 at hw_2
  generalize ef_28 : aF σ_s_3 (ad E a 43) = g_27 at hw_2
  generalize ef_30 : aF σ_s_3 (ad E a 44) = g_29 at hw_2
  generalize ef_32 : aF σ_s_3 (ad E a 45) = g_31 at hw_2
  generalize ef_34 : aF σ_s_3 (ad E a 46) = g_33 at hw_2
  generalize ef_36 : aF σ_s_3 (ad E a 61) = g_35 at hw_2
  generalize ef_38 : aF σ_s_3 (ad E a 62) = g_37 at hw_2
  have hw_2 : jw g_17 g_19 g_35 g_37 g_21 g_23 g_25 g_27 g_29 g_31 g_33 (gI σ_s_3 a 36) (gI σ_s_3 a 58) (gI σ_s_3 a 59) ∧ (((0 ≤ nn ∧ nn ≤ gI σ a 12) ∧ gI σ_s_3 a 12 = 0) ∨ (¬ (0 ≤ nn ∧ nn ≤ gI σ a 12) ∧ gI σ_s_3 a 12 = gI σ a 12)) := hw_2
  exact th_iret hx hb hr hlocks hH hS (z := z_4) rz_4 ⟨hO, hF, hM, by have h9 := hw_2; rw [show aF σ_s_3 (ad E a 1) = g_17 from ef_18, show aF σ_s_3 (ad E a 37) = g_19 from ef_20, show aF σ_s_3 (ad E a 61) = g_35 from ef_36, show aF σ_s_3 (ad E a 62) = g_37 from ef_38, show aF σ_s_3 (ad E a 39) = g_21 from ef_22, show aF σ_s_3 (ad E a 40) = g_23 from ef_24, show aF σ_s_3 (ad E a 42) = g_25 from ef_26, show aF σ_s_3 (ad E a 43) = g_27 from ef_28, show aF σ_s_3 (ad E a 44) = g_29 from ef_30, show aF σ_s_3 (ad E a 45) = g_31 from ef_32, show aF σ_s_3 (ad E a 46) = g_33 from ef_34]; exact ⟨h9.1, h9.2⟩⟩ dX11_append_8

set_option maxHeartbeats 4000000 in
set_option maxRecDepth 100000 in
theorem j_key (l : Launch) (G : va_G) (y : Nat → ClassId) (b0 : Nat) (σ : th_M) (E : th_E) (hO : ok y E σ) (a : Nat) (h_a : kd E a = 13) (slot : Int) (rslot : rng slot) (ky : Int) (rky : rng ky) (nn : Int) (rnn : rng nn) (f1 : Nat → Int32) (ef1 : aF σ (ad E a 1) = f1) (f37 : Nat → Int32) (ef37 : aF σ (ad E a 37) = f37) (f61 : Nat → Int32) (ef61 : aF σ (ad E a 61) = f61) (f62 : Nat → Int32) (ef62 : aF σ (ad E a 62) = f62) (f39 : Nat → Int32) (ef39 : aF σ (ad E a 39) = f39) (f40 : Nat → Int32) (ef40 : aF σ (ad E a 40) = f40) (f42 : Nat → Int32) (ef42 : aF σ (ad E a 42) = f42) (f43 : Nat → Int32) (ef43 : aF σ (ad E a 43) = f43) (f44 : Nat → Int32) (ef44 : aF σ (ad E a 44) = f44) (f45 : Nat → Int32) (ef45 : aF σ (ad E a 45) = f45) (f46 : Nat → Int32) (ef46 : aF σ (ad E a 46) = f46) (f2 : Nat → Int32) (ef2 : aF σ (ad E a 2) = f2) (f3 : Nat → Int32) (ef3 : aF σ (ad E a 3) = f3) (f8 : Nat → Int32) (ef8 : aF σ (ad E a 8) = f8) (f35 : Nat → Int32) (ef35 : aF σ (ad E a 35) = f35) (hy0 : jw f1 f37 f61 f62 f39 f40 f42 f43 f44 f45 f46 (gI σ a 36) (gI σ a 58) (gI σ a 59)) : Met l yX11_key wsX11_key ({ frames := 53, cells := 0, slots := 0, locals := 2062 }) (th_P G y b0 σ [.ref a, .int (I slot), .int (I ky), .int (I nn)]) (th_Qi G b0 (fun r σ1 => ok y E σ1 ∧ fr [13] E σ σ1 ∧ fm [0, 1, 2, 3, 4, 5, 9, 10, 11, 12, 13, 14, 15, 16, 17, 18, 19, 20, 21, 22, 23, 24, 25, 26, 27, 28, 29, 30, 32, 33, 34, 35, 36, 37] E σ σ1 a ∧ (jw (aF σ1 (ad E a 1)) (aF σ1 (ad E a 37)) (aF σ1 (ad E a 61)) (aF σ1 (ad E a 62)) (aF σ1 (ad E a 39)) (aF σ1 (ad E a 40)) (aF σ1 (ad E a 42)) (aF σ1 (ad E a 43)) (aF σ1 (ad E a 44)) (aF σ1 (ad E a 45)) (aF σ1 (ad E a 46)) (gI σ1 a 36) (gI σ1 a 58) (gI σ1 a 59) ∧ (((0 ≤ nn ∧ nn ≤ gI σ a 12) ∧ gI σ1 a 12 = 0) ∨ (¬ (0 ≤ nn ∧ nn ≤ gI σ a 12) ∧ gI σ1 a 12 = gI σ a 12))))) 0 0 (th_A b0) := by
  refine Met.ofW (cc := cX11_key) (maxL := 4) (ret := (some .int)) (by decide) rfl ?_
  intro p e s m args below meth c s₁ B hml hv
  obtain ⟨rfl, hH, hK⟩ := hv
  have hx := B.exec
  have hb := B.bytes
  have hr := B.returns
  have hts := atoms_spec (ws := wsX11_key) B.pre
  have hown : s.vm.findClass RX11 = some m.cls := findClass_of_methodNamed B.named
  have hlocks := B.notSynchronized
  have h00 : b0 ≤ s.heap.size := hH.1
  have hS : va_S (th_A b0) s.heap s.heap [] := va_S.rf
  have hF : fr [13] E σ σ := fr.rf
  have hM : fm [0, 1, 2, 3, 4, 5, 9, 10, 11, 12, 13, 14, 15, 16, 17, 18, 19, 20, 21, 22, 23, 24, 25, 26, 27, 28, 29, 30, 32, 33, 34, 35, 36, 37] E σ σ a := fm.rf
  have hj := hy0
  have hw1 := hj.1.1.1
  have hm1 := hj.1.2.1
  have hm2 := hj.1.2.2.1
  have hm3 := hj.2.2.2.2.1
  have hm4 := hj.2.2.2.2.2.1
  have hl := lv_entry ([.ref a, .int (I slot), .int (I ky), .int (I nn)]) (n := 4) (Nat.le_of_ble_eq_true rfl)
  rw [lg_entry_eq]
  generalize (lg_sl ([.ref a, .int (I slot), .int (I ky), .int (I nn)]) ++ List.replicate (4 - (lg_sl ([.ref a, .int (I slot), .int (I ky), .int (I nn)])).length) Slot.unset).toArray = ls at hl ⊢
  have hl : lv_has ls 4 [(0, .ref a), (1, .int (I slot)), (2, .int (I ky)), (3, .int (I nn))] := hl
  obtain ⟨a360, ea360, ra360, la360, ua360⟩ := hO.gi h_a (by decide) k13_36
  obtain ⟨a580, ea580, ra580, la580, ua580⟩ := hO.gi h_a (by decide) k13_58
  obtain ⟨a590, ea590, ra590, la590, ua590⟩ := hO.gi h_a (by decide) k13_59
  obtain ⟨a120, ea120, ra120, la120, ua120⟩ := hO.gi h_a (by decide) k13_12
  refine lv_aload_n hx hb dX11_key_0 rfl (lv_at hl 0 rfl) ?_
  refine lv_iload_n hx hb dX11_key_1 rfl (lv_at hl 1 rfl) ?_
  refine lv_iconst (v := I 2) hx hb dX11_key_2 (by decide) ?_
  refine lv_iload_n hx hb dX11_key_3 rfl (lv_at hl 2 rfl) ?_
  refine lv_iload_n hx hb dX11_key_4 rfl (lv_at hl 3 rfl) ?_
  obtain ⟨_, hc_1⟩ := hO.cell h_a (by decide) (ci := 11) rfl
  refine th_calli (va_runV (As := [.int (I slot), .int (I 2), .int (I ky), .int (I nn)]) (rest := []) ⟨hx, hb, hml, hown, hts⟩ (j_withText l G y b0 σ E hO a h_a slot (show rng slot from rslot) 2 (show rng 2 from (show rng 2 from ⟨by decide, by decide⟩)) (by omega) (by omega) ky (show rng ky from rky) nn (show rng nn from rnn) f1 ef1 f37 ef37 f61 ef61 f62 ef62 f39 ef39 f40 ef40 f42 ef42 f43 ef43 f44 ef44 f45 ef45 f46 ef46 f2 ef2 f3 ef3 f8 ef8 f35 ef35 (hj)) (cwV 4 hts gX11_key_X11_withText rfl rfl rfl (by decide +kernel) ⟨Nat.le_of_ble_eq_true rfl, Nat.le_of_ble_eq_true rfl⟩) (th_PV hK hH rfl hc_1) rfl rfl hl.1 rfl (lv_room (Nat.le_of_ble_eq_true rfl)) dX11_key_5 ⟨Nat.le_of_ble_eq_true rfl, Nat.le_of_ble_eq_true rfl⟩) hS (fun z_4 σ_s_3 H locs rz_4 hw_2 hH hS => ?_)
  obtain ⟨hO9, hF9, hM9, hw_2⟩ := hw_2
  replace hM := hM.tu hM9 (by decide)
  replace hF := hF.tu hF9 (by decide)
  have e_5 : aF σ_s_3 (ad E a 61) = f61 := (hM9.a (by decide) (by decide)).trans ef61
  have e_6 : aF σ_s_3 (ad E a 62) = f62 := (hM9.a (by decide) (by decide)).trans ef62
  have e_7 : aF σ_s_3 (ad E a 39) = f39 := (hM9.a (by decide) (by decide)).trans ef39
  have e_8 : aF σ_s_3 (ad E a 40) = f40 := (hM9.a (by decide) (by decide)).trans ef40
  have e_9 : aF σ_s_3 (ad E a 42) = f42 := (hM9.a (by decide) (by decide)).trans ef42
  have e_10 : aF σ_s_3 (ad E a 43) = f43 := (hM9.a (by decide) (by decide)).trans ef43
  have e_11 : aF σ_s_3 (ad E a 44) = f44 := (hM9.a (by decide) (by decide)).trans ef44
  have e_12 : aF σ_s_3 (ad E a 45) = f45 := (hM9.a (by decide) (by decide)).trans ef45
  have e_13 : aF σ_s_3 (ad E a 46) = f46 := (hM9.a (by decide) (by decide)).trans ef46
  have e_14 : aF σ_s_3 (ad E a 8) = f8 := (hM9.a (by decide) (by decide)).trans ef8
  have e_15 : gI σ_s_3 a 58 = a580 := (hM9.i (by decide)).trans ea580
  have e_16 : gI σ_s_3 a 59 = a590 := (hM9.i (by decide)).trans ea590
  replace hO := hO9
  generalize ef_18 : aF σ_s_3 (ad E a 1) = g_17 at hw_2
  generalize ef_20 : aF σ_s_3 (ad E a 37) = g_19 at hw_2
  generalize ef_22 : aF σ_s_3 (ad E a 39) = g_21 at hw_2
  generalize ef_24 : aF σ_s_3 (ad E a 40) = g_23 at hw_2
  generalize ef_26 : aF σ_s_3 (ad E a 42) = g_25 at hw_2
  generalize ef_28 : aF σ_s_3 (ad E a 43) = g_27 at hw_2
  generalize ef_30 : aF σ_s_3 (ad E a 44) = g_29 at hw_2
  generalize ef_32 : aF σ_s_3 (ad E a 45) = g_31 at hw_2
  generalize ef_34 : aF σ_s_3 (ad E a 46) = g_33 at hw_2
  generalize ef_36 : aF σ_s_3 (ad E a 61) = g_35 at hw_2
  generalize ef_38 : aF σ_s_3 (ad E a 62) = g_37 at hw_2
  have hw_2 : jw g_17 g_19 g_35 g_37 g_21 g_23 g_25 g_27 g_29 g_31 g_33 (gI σ_s_3 a 36) (gI σ_s_3 a 58) (gI σ_s_3 a 59) ∧ (((0 ≤ nn ∧ nn ≤ gI σ a 12) ∧ gI σ_s_3 a 12 = 0) ∨ (¬ (0 ≤ nn ∧ nn ≤ gI σ a 12) ∧ gI σ_s_3 a 12 = gI σ a 12)) := hw_2
  exact th_iret hx hb hr hlocks hH hS (z := z_4) rz_4 ⟨hO, hF, hM, by have h9 := hw_2; rw [show aF σ_s_3 (ad E a 1) = g_17 from ef_18, show aF σ_s_3 (ad E a 37) = g_19 from ef_20, show aF σ_s_3 (ad E a 61) = g_35 from ef_36, show aF σ_s_3 (ad E a 62) = g_37 from ef_38, show aF σ_s_3 (ad E a 39) = g_21 from ef_22, show aF σ_s_3 (ad E a 40) = g_23 from ef_24, show aF σ_s_3 (ad E a 42) = g_25 from ef_26, show aF σ_s_3 (ad E a 43) = g_27 from ef_28, show aF σ_s_3 (ad E a 44) = g_29 from ef_30, show aF σ_s_3 (ad E a 45) = g_31 from ef_32, show aF σ_s_3 (ad E a 46) = g_33 from ef_34]; exact ⟨h9.1, h9.2⟩⟩ dX11_key_8
