set_option maxHeartbeats 4000000 in
set_option maxRecDepth 100000 in
theorem j_row (l : Launch) (G : va_G) (y : Nat → ClassId) (b0 : Nat) (σ : th_M) (E : th_E) (hO : ok y E σ) (a : Nat) (h_a : kd E a = 13) (i : Int) (ri : rng i) (wh : Int) (rwh : rng wh) (f1 : Nat → Int32) (ef1 : aF σ (ad E a 1) = f1) (f37 : Nat → Int32) (ef37 : aF σ (ad E a 37) = f37) (f61 : Nat → Int32) (ef61 : aF σ (ad E a 61) = f61) (f62 : Nat → Int32) (ef62 : aF σ (ad E a 62) = f62) (f39 : Nat → Int32) (ef39 : aF σ (ad E a 39) = f39) (f40 : Nat → Int32) (ef40 : aF σ (ad E a 40) = f40) (f42 : Nat → Int32) (ef42 : aF σ (ad E a 42) = f42) (f43 : Nat → Int32) (ef43 : aF σ (ad E a 43) = f43) (f44 : Nat → Int32) (ef44 : aF σ (ad E a 44) = f44) (f45 : Nat → Int32) (ef45 : aF σ (ad E a 45) = f45) (f46 : Nat → Int32) (ef46 : aF σ (ad E a 46) = f46) (hy0 : jw f1 f37 f61 f62 f39 f40 f42 f43 f44 f45 f46 (gI σ a 36) (gI σ a 58) (gI σ a 59)) : Met l yX11_row wsX11_row ({ frames := 2, cells := 0, slots := 0, locals := 51 }) (th_P G y b0 σ [.ref a, .int (I i), .int (I wh)]) (th_Qi G b0 (fun r σ1 => ok y E σ1 ∧ fr [13] E σ σ1 ∧ fm [0] E σ σ1 a ∧ (jw (aF σ1 (ad E a 1)) (aF σ1 (ad E a 37)) (aF σ1 (ad E a 61)) (aF σ1 (ad E a 62)) (aF σ1 (ad E a 39)) (aF σ1 (ad E a 40)) (aF σ1 (ad E a 42)) (aF σ1 (ad E a 43)) (aF σ1 (ad E a 44)) (aF σ1 (ad E a 45)) (aF σ1 (ad E a 46)) (gI σ1 a 36) (gI σ1 a 58) (gI σ1 a 59) ∧ gI σ1 a 12 = gI σ a 12))) 0 0 (th_A b0) := by
  refine Met.ofW (cc := cX11_row) (maxL := 5) (ret := (some .int)) (by decide) rfl ?_
  intro p e s m args below meth c s₁ B hml hv
  obtain ⟨rfl, hH, hK⟩ := hv
  have hx := B.exec
  have hb := B.bytes
  have hr := B.returns
  have hts := atoms_spec (ws := wsX11_row) B.pre
  have hown : s.vm.findClass RX11 = some m.cls := findClass_of_methodNamed B.named
  have hlocks := B.notSynchronized
  have h00 : b0 ≤ s.heap.size := hH.1
  have hS : va_S (th_A b0) s.heap s.heap [] := va_S.rf
  have hF : fr [13] E σ σ := fr.rf
  have hM : fm [0] E σ σ a := fm.rf
  have hj := hy0
  have hw1 := hj.1.1.1
  have hm1 := hj.1.2.1
  have hm2 := hj.1.2.2.1
  have hm3 := hj.2.2.2.2.1
  have hm4 := hj.2.2.2.2.2.1
  have inX11 : ∀ w ∈ wsX110, w ∈ wsX11_row := by decide +kernel
  have fl0 := hts (.fieldLink RX11 111 "NestQueryModel" "code" "I") (by decide +kernel)
  have fl1 := hts (.fieldLink RX11 63 "NestQueryModel" "rowIs" "[I") (by decide +kernel)
  have fl2 := hts (.fieldLink RX11 66 "NestQueryModel" "pool" "[I") (by decide +kernel)
  have fl3 := hts (.fieldLink RX11 54 "NestQueryModel" "rowSteps" "[I") (by decide +kernel)
  have fl4 := hts (.fieldLink RX11 51 "NestQueryModel" "rowKind" "[I") (by decide +kernel)
  have fl5 := hts (.fieldLink RX11 60 "NestQueryModel" "rowWas" "[I") (by decide +kernel)
  have hl := lv_entry ([.ref a, .int (I i), .int (I wh)]) (n := 5) (Nat.le_of_ble_eq_true rfl)
  rw [lg_entry_eq]
  generalize (lg_sl ([.ref a, .int (I i), .int (I wh)]) ++ List.replicate (5 - (lg_sl ([.ref a, .int (I i), .int (I wh)])).length) Slot.unset).toArray = ls at hl ⊢
  have hl : lv_has ls 5 [(0, .ref a), (1, .int (I i)), (2, .int (I wh))] := hl
  obtain ⟨a360, ea360, ra360, la360, ua360⟩ := hO.gi h_a (by decide) k13_36
  obtain ⟨a580, ea580, ra580, la580, ua580⟩ := hO.gi h_a (by decide) k13_58
  obtain ⟨a590, ea590, ra590, la590, ua590⟩ := hO.gi h_a (by decide) k13_59
  obtain ⟨a120, ea120, ra120, la120, ua120⟩ := hO.gi h_a (by decide) k13_12
  refine lv_aload_n hx hb dX11_row_0 rfl (lv_at hl 0 rfl) ?_
  refine lv_iconst (v := I 0) hx hb dX11_row_1 (by decide) ?_
  refine ok.putJ hO h_a k13_0 (show rng 0 from ⟨by decide, by decide⟩) (by omega) (by omega) (fun _ he hl9 kk => th_put (ci := 11) (v := .int (I 0)) (ty := .int) (C := RX11) (T := TX11) (N := 66) hx hb hts inX11 tyX11 tyX11_ok nmX11 hown hK hH hS h00 he rfl 0 (by decide) fl0 rfl (by decide +kernel) rfl rfl hl9 dX11_row_2 kk) (fun σ_s_1 H locs hO hF9 hM9 hg9 ha9 hH hS => ?_)
  replace hM := hM.tu hM9 (by decide)
  replace hF := hF.tu hF9 (by decide)
  have e_2 : aF σ_s_1 (ad E a 1) = f1 := (hM9.a (by decide) (by decide)).trans ef1
  have e_3 : aF σ_s_1 (ad E a 37) = f37 := (hM9.a (by decide) (by decide)).trans ef37
  have e_4 : aF σ_s_1 (ad E a 61) = f61 := (hM9.a (by decide) (by decide)).trans ef61
  have e_5 : aF σ_s_1 (ad E a 62) = f62 := (hM9.a (by decide) (by decide)).trans ef62
  have e_6 : aF σ_s_1 (ad E a 39) = f39 := (hM9.a (by decide) (by decide)).trans ef39
  have e_7 : aF σ_s_1 (ad E a 40) = f40 := (hM9.a (by decide) (by decide)).trans ef40
  have e_8 : aF σ_s_1 (ad E a 42) = f42 := (hM9.a (by decide) (by decide)).trans ef42
  have e_9 : aF σ_s_1 (ad E a 43) = f43 := (hM9.a (by decide) (by decide)).trans ef43
  have e_10 : aF σ_s_1 (ad E a 44) = f44 := (hM9.a (by decide) (by decide)).trans ef44
  have e_11 : aF σ_s_1 (ad E a 45) = f45 := (hM9.a (by decide) (by decide)).trans ef45
  have e_12 : aF σ_s_1 (ad E a 46) = f46 := (hM9.a (by decide) (by decide)).trans ef46
  have e_13 : gI σ_s_1 a 36 = a360 := (hM9.i (by decide)).trans ea360
  have e_14 : gI σ_s_1 a 58 = a580 := (hM9.i (by decide)).trans ea580
  have e_15 : gI σ_s_1 a 59 = a590 := (hM9.i (by decide)).trans ea590
  have e_16 : gI σ_s_1 a 12 = a120 := (hM9.i (by decide)).trans ea120
  have e_17 := hg9
  refine lv_aload_n hx hb dX11_row_5 rfl (lv_at hl 0 rfl) ?_
  refine lv_iload_n hx hb dX11_row_6 rfl (lv_at hl 1 rfl) ?_
  obtain ⟨_, hc_18⟩ := hO.cell h_a (by decide) (ci := 11) rfl
  refine th_calli (va_runV (As := [.int (I i)]) (rest := []) ⟨hx, hb, hml, hown, hts⟩ (m_isRow l G y b0 σ_s_1 E hO a h_a i (show rng i from ri) f45 e_11 (by omega)) (cwV 1 hts gX11_row_X11_isRow rfl rfl rfl (by decide +kernel) ⟨Nat.le_of_ble_eq_true rfl, Nat.le_of_ble_eq_true rfl⟩) (th_PV hK hH rfl hc_18) rfl rfl hl.1 rfl (lv_room (Nat.le_of_ble_eq_true rfl)) dX11_row_7 ⟨Nat.le_of_ble_eq_true rfl, Nat.le_of_ble_eq_true rfl⟩) hS (fun z_21 σ_s_20 H locs rz_21 hw_19 hH hS => ?_)
  obtain ⟨e9, bhw_19, hw_19⟩ := hw_19
  replace e9 := e9.symm
  subst e9
  have hw_19 : (z_21 = 1 ∧ 0 ≤ i ∧ i < (f45 (1 : Int).toNat).toInt) ∨ z_21 = 0 := hw_19
  refine lv_if_eq (tgt := 22) hx hb dX11_row_10 (by decide) (fun c_22 => ?_) (fun c_22 => ?_)
  · replace c_22 := (I_eq (a := z_21) (b := 0) rz_21 (show rng 0 from ⟨by decide, by decide⟩)).mp c_22
    refine lv_aload_n hx hb dX11_row_22 rfl (lv_at hl 0 rfl) ?_
    refine lv_iconst (v := I 1) hx hb dX11_row_23 (by decide) ?_
    obtain ⟨_, hc_23⟩ := hO.cell h_a (by decide) (ci := 11) rfl
    refine th_calli (va_runV (As := [.int (I 1)]) (rest := []) ⟨hx, hb, hml, hown, hts⟩ (m_fail l G y b0 σ_s_1 E hO a h_a 1 (show rng 1 from (show rng 1 from ⟨by decide, by decide⟩))) (cwV 1 hts gX11_row_X11_fail rfl rfl rfl (by decide +kernel) ⟨Nat.le_of_ble_eq_true rfl, Nat.le_of_ble_eq_true rfl⟩) (th_PV hK hH rfl hc_23) rfl rfl hl.1 rfl (lv_room (Nat.le_of_ble_eq_true rfl)) dX11_row_24 ⟨Nat.le_of_ble_eq_true rfl, Nat.le_of_ble_eq_true rfl⟩) hS (fun z_26 σ_s_25 H locs rz_26 hw_24 hH hS => ?_)
    obtain ⟨hO9, hF9, hM9, hw_24⟩ := hw_24
    replace hM := hM.tu hM9 (by decide)
    replace hF := hF.tu hF9 (by decide)
    have e_27 : aF σ_s_25 (ad E a 1) = f1 := (hM9.a (by decide) (by decide)).trans e_2
    have e_28 : aF σ_s_25 (ad E a 37) = f37 := (hM9.a (by decide) (by decide)).trans e_3
    have e_29 : aF σ_s_25 (ad E a 61) = f61 := (hM9.a (by decide) (by decide)).trans e_4
    have e_30 : aF σ_s_25 (ad E a 62) = f62 := (hM9.a (by decide) (by decide)).trans e_5
    have e_31 : aF σ_s_25 (ad E a 39) = f39 := (hM9.a (by decide) (by decide)).trans e_6
    have e_32 : aF σ_s_25 (ad E a 40) = f40 := (hM9.a (by decide) (by decide)).trans e_7
    have e_33 : aF σ_s_25 (ad E a 42) = f42 := (hM9.a (by decide) (by decide)).trans e_8
    have e_34 : aF σ_s_25 (ad E a 43) = f43 := (hM9.a (by decide) (by decide)).trans e_9
    have e_35 : aF σ_s_25 (ad E a 44) = f44 := (hM9.a (by decide) (by decide)).trans e_10
    have e_36 : aF σ_s_25 (ad E a 45) = f45 := (hM9.a (by decide) (by decide)).trans e_11
    have e_37 : aF σ_s_25 (ad E a 46) = f46 := (hM9.a (by decide) (by decide)).trans e_12
    have e_38 : gI σ_s_25 a 36 = a360 := (hM9.i (by decide)).trans e_13
    have e_39 : gI σ_s_25 a 58 = a580 := (hM9.i (by decide)).trans e_14
    have e_40 : gI σ_s_25 a 59 = a590 := (hM9.i (by decide)).trans e_15
    have e_41 : gI σ_s_25 a 12 = a120 := (hM9.i (by decide)).trans e_16
    replace hO := hO9
    exact th_iret hx hb hr hlocks hH hS (z := z_26) rz_26 ⟨hO, hF, hM, by rw [show aF σ_s_25 (ad E a 1) = f1 from e_27, show aF σ_s_25 (ad E a 37) = f37 from e_28, show aF σ_s_25 (ad E a 61) = f61 from e_29, show aF σ_s_25 (ad E a 62) = f62 from e_30, show aF σ_s_25 (ad E a 39) = f39 from e_31, show aF σ_s_25 (ad E a 40) = f40 from e_32, show aF σ_s_25 (ad E a 42) = f42 from e_33, show aF σ_s_25 (ad E a 43) = f43 from e_34, show aF σ_s_25 (ad E a 44) = f44 from e_35, show aF σ_s_25 (ad E a 45) = f45 from e_36, show aF σ_s_25 (ad E a 46) = f46 from e_37]; exact ⟨hj.n (by omega) (by omega) (by omega), by omega⟩⟩ dX11_row_27
  · replace c_22 := mt (I_eq (a := z_21) (b := 0) rz_21 (show rng 0 from ⟨by decide, by decide⟩)).mpr c_22
    refine lv_iload_n hx hb dX11_row_13 rfl (lv_at hl 2 rfl) ?_
    refine lv_iconst (v := I 0) hx hb dX11_row_14 (by decide) ?_
    refine lv_iconst (v := I 3) hx hb dX11_row_15 (by decide) ?_
    refine th_calli (va_runS (As := [.int (I wh), .int (I 0), .int (I 3)]) (rest := []) ⟨hx, hb, hml, hown, hts⟩ (w_isIn l G y b0 σ_s_1 E hO wh (show rng wh from rwh) 0 (show rng 0 from (show rng 0 from ⟨by decide, by decide⟩)) 3 (show rng 3 from (show rng 3 from ⟨by decide, by decide⟩))) (va_cwS 3 hts gX11_row_X11_isIn rfl rfl rfl (by decide +kernel) ⟨Nat.le_of_ble_eq_true rfl, Nat.le_of_ble_eq_true rfl⟩) (th_PS hK hH) rfl rfl hl.1 rfl (lv_room (Nat.le_of_ble_eq_true rfl)) dX11_row_16 ⟨Nat.le_of_ble_eq_true rfl, Nat.le_of_ble_eq_true rfl⟩) hS (fun z_44 σ_s_43 H locs rz_44 hw_42 hH hS => ?_)
    obtain ⟨e9, bhw_42, hw_42⟩ := hw_42
    replace e9 := e9.symm
    subst e9
    have hw_42 : (z_44 = 1 ∧ 0 ≤ wh ∧ wh ≤ 3) ∨ (z_44 = 0 ∧ ¬ (0 ≤ wh ∧ wh ≤ 3)) := hw_42
    refine lv_if_ne (tgt := 28) hx hb dX11_row_19 (by decide) (fun c_45 => ?_) (fun c_45 => ?_)
    · replace c_45 := mt (I_eq (a := z_44) (b := 0) rz_44 (show rng 0 from ⟨by decide, by decide⟩)).mpr c_45
      have hkr := hj.2.2.2.row (j := i) (by omega) (by omega)
      obtain ⟨hr1, hr2, hr3, hr4, hr5, hr6, hr7⟩ := hkr
      refine lv_sipush (v := I 130) hx hb dX11_row_28 (by decide) ?_
      refine lv_iload_n hx hb dX11_row_31 rfl (lv_at hl 1 rfl) ?_
      refine lv_iadd hx hb dX11_row_32 ?_
      refine th_addo (fun z_46 rz_46 hz_46 => ?_)
      refine lv_istore_n (lv' := [(3, .int (I z_46)), (0, .ref a), (1, .int (I i)), (2, .int (I wh))]) hx hb dX11_row_33 rfl hl (by decide) rfl (fun ls hl => ?_)
      refine lv_iload_n hx hb dX11_row_34 rfl (lv_at hl 3 rfl) ?_
      refine lv_iconst (v := I 2) hx hb dX11_row_35 (by decide) ?_
      refine lv_icmp_ne (tgt := 48) hx hb dX11_row_36 (by decide) (fun c_47 => ?_) (fun c_47 => ?_)
      · replace c_47 := mt (I_eq (a := wh) (b := 2) rwh (show rng 2 from ⟨by decide, by decide⟩)).mpr c_47
        refine lv_aload_n hx hb dX11_row_48 rfl (lv_at hl 1 rfl) ?_
        refine ok.getR hO h_a (by decide) k13_43 (by decide) (fun _ _ he hv kk => th_get (ci := 11) (C := RX11) (T := TX11) (N := 66) hx hb hts inX11 hown hK hH he rfl 43 (by decide) fl1 hv dX11_row_49 kk) ?_
        refine lv_iload_n hx hb dX11_row_52 rfl (lv_at hl 0 rfl) ?_
        refine m_iald hx hb hK hH hO h_a k13_43 isA1 e_9 rz_46 (by omega) (by omega) dX11_row_53 (fun z_48 ez_48 rz_48 elx9 => ?_)
        refine lv_istore (lv' := [(4, .int (I z_48)), (3, .int (I z_46)), (0, .ref a), (1, .int (I i)), (2, .int (I wh))]) hx hb dX11_row_54 hl (by decide) rfl (fun ls hl => ?_)
        refine lv_iload_n hx hb dX11_row_56 rfl (lv_at hl 4 rfl) ?_
        refine lv_if_ne (tgt := 69) hx hb dX11_row_57 (by decide) (fun c_49 => ?_) (fun c_49 => ?_)
        · replace c_49 := mt (I_eq (a := wh) (b := 0) rwh (show rng 0 from ⟨by decide, by decide⟩)).mpr c_49
          refine lv_iload_n hx hb dX11_row_69 rfl (lv_at hl 4 rfl) ?_
          refine lv_iconst (v := I 1) hx hb dX11_row_70 (by decide) ?_
          refine lv_icmp_ne (tgt := 83) hx hb dX11_row_71 (by decide) (fun c_50 => ?_) (fun c_50 => ?_)
          · replace c_50 := mt (I_eq (a := wh) (b := 1) rwh (show rng 1 from ⟨by decide, by decide⟩)).mpr c_50
            refine lv_iload hx hb dX11_row_83 (lv_at hl 0 rfl) ?_
            refine lv_iconst (v := I (-1)) hx hb dX11_row_85 (by decide) ?_
            refine lv_icmp_ne (tgt := 93) hx hb dX11_row_86 (by decide) (fun c_51 => ?_) (fun c_51 => ?_)
            · replace c_51 := mt (I_eq (a := z_48) (b := (-1)) rz_48 (show rng (-1) from ⟨by decide, by decide⟩)).mpr c_51
              have hp_52 : plw 1 150 f44 z_48 := (by first | (have e9 : z_48 = (f42 (130 + i).toNat).toInt := (by rw [show (130 : Int) + i = z_46 by omega]; omega); rw [e9]; exact hr4.resolve_left (by omega)) | (have e9 : z_48 = (f43 (130 + i).toNat).toInt := (by rw [show (130 : Int) + i = z_46 by omega]; omega); rw [e9]; exact hr5.resolve_left (by omega)))
              have hp1 := hp_52.1
              have hp2 := hp_52.2.1
              have hp3 := hp_52.2.2.1
              refine lv_aload_n hx hb dX11_row_93 rfl (lv_at hl 2 rfl) ?_
              refine ok.getR hO h_a (by decide) k13_44 (by decide) (fun _ _ he hv kk => th_get (ci := 11) (C := RX11) (T := TX11) (N := 66) hx hb hts inX11 hown hK hH he rfl 44 (by decide) fl2 hv dX11_row_94 kk) ?_
              refine lv_iload hx hb dX11_row_97 (lv_at hl 0 rfl) ?_
              refine th_calli (va_runS (As := [.ref (ad E a 44), .int (I z_48)]) (rest := []) ⟨hx, hb, hml, hown, hts⟩ (w_size l G y b0 σ_s_1 E hO (ad E a 44) 1200 f44 (hO.roww h_a k13_44 isA1 e_10 rfl) z_48 (show rng z_48 from rz_48) (by omega) (by omega) (by omega)) (va_cwS 2 hts gX11_row_X11_size rfl rfl rfl (by decide +kernel) ⟨Nat.le_of_ble_eq_true rfl, Nat.le_of_ble_eq_true rfl⟩) (th_PS hK hH) rfl rfl hl.1 rfl (lv_room (Nat.le_of_ble_eq_true rfl)) dX11_row_99 ⟨Nat.le_of_ble_eq_true rfl, Nat.le_of_ble_eq_true rfl⟩) hS (fun z_55 σ_s_54 H locs rz_55 hw_53 hH hS => ?_)
              obtain ⟨e9, hw_53⟩ := hw_53
              replace e9 := e9.symm
              subst e9
              have hw_53 : z_55 = mS f44 z_48 := hw_53
              exact th_iret hx hb hr hlocks hH hS (z := z_55) rz_55 ⟨hO, hF, hM, by rw [show aF σ_s_1 (ad E a 1) = f1 from e_2, show aF σ_s_1 (ad E a 37) = f37 from e_3, show aF σ_s_1 (ad E a 61) = f61 from e_4, show aF σ_s_1 (ad E a 62) = f62 from e_5, show aF σ_s_1 (ad E a 39) = f39 from e_6, show aF σ_s_1 (ad E a 40) = f40 from e_7, show aF σ_s_1 (ad E a 42) = f42 from e_8, show aF σ_s_1 (ad E a 43) = f43 from e_9, show aF σ_s_1 (ad E a 44) = f44 from e_10, show aF σ_s_1 (ad E a 45) = f45 from e_11, show aF σ_s_1 (ad E a 46) = f46 from e_12]; exact ⟨hj.n (by omega) (by omega) (by omega), by omega⟩⟩ dX11_row_102
            · replace c_51 := (I_eq (a := z_48) (b := (-1)) rz_48 (show rng (-1) from ⟨by decide, by decide⟩)).mp c_51
              refine lv_iconst (v := I 0) hx hb dX11_row_89 (by decide) ?_
              refine lv_goto (tgt := 102) hx hb dX11_row_90 (by decide) ?_
              exact th_iret hx hb hr hlocks hH hS (z := 0) (show rng 0 from ⟨by decide, by decide⟩) ⟨hO, hF, hM, by rw [show aF σ_s_1 (ad E a 1) = f1 from e_2, show aF σ_s_1 (ad E a 37) = f37 from e_3, show aF σ_s_1 (ad E a 61) = f61 from e_4, show aF σ_s_1 (ad E a 62) = f62 from e_5, show aF σ_s_1 (ad E a 39) = f39 from e_6, show aF σ_s_1 (ad E a 40) = f40 from e_7, show aF σ_s_1 (ad E a 42) = f42 from e_8, show aF σ_s_1 (ad E a 43) = f43 from e_9, show aF σ_s_1 (ad E a 44) = f44 from e_10, show aF σ_s_1 (ad E a 45) = f45 from e_11, show aF σ_s_1 (ad E a 46) = f46 from e_12]; exact ⟨hj.n (by omega) (by omega) (by omega), by omega⟩⟩ dX11_row_102
          · replace c_50 := (I_eq (a := wh) (b := 1) rwh (show rng 1 from ⟨by decide, by decide⟩)).mp c_50
            refine lv_aload_n hx hb dX11_row_74 rfl (lv_at hl 2 rfl) ?_
            refine ok.getR hO h_a (by decide) k13_40 (by decide) (fun _ _ he hv kk => th_get (ci := 11) (C := RX11) (T := TX11) (N := 66) hx hb hts inX11 hown hK hH he rfl 40 (by decide) fl3 hv dX11_row_75 kk) ?_
            refine lv_iload_n hx hb dX11_row_78 rfl (lv_at hl 1 rfl) ?_
            refine m_iald hx hb hK hH hO h_a k13_40 isA1 e_7 rz_46 (by omega) (by omega) dX11_row_79 (fun z_56 ez_56 rz_56 elx9 => ?_)
            refine lv_goto (tgt := 102) hx hb dX11_row_80 (by decide) ?_
            exact th_iret hx hb hr hlocks hH hS (z := z_56) rz_56 ⟨hO, hF, hM, by rw [show aF σ_s_1 (ad E a 1) = f1 from e_2, show aF σ_s_1 (ad E a 37) = f37 from e_3, show aF σ_s_1 (ad E a 61) = f61 from e_4, show aF σ_s_1 (ad E a 62) = f62 from e_5, show aF σ_s_1 (ad E a 39) = f39 from e_6, show aF σ_s_1 (ad E a 40) = f40 from e_7, show aF σ_s_1 (ad E a 42) = f42 from e_8, show aF σ_s_1 (ad E a 43) = f43 from e_9, show aF σ_s_1 (ad E a 44) = f44 from e_10, show aF σ_s_1 (ad E a 45) = f45 from e_11, show aF σ_s_1 (ad E a 46) = f46 from e_12]; exact ⟨hj.n (by omega) (by omega) (by omega), by omega⟩⟩ dX11_row_102
        · replace c_49 := (I_eq (a := wh) (b := 0) rwh (show rng 0 from ⟨by decide, by decide⟩)).mp c_49
          refine lv_aload_n hx hb dX11_row_60 rfl (lv_at hl 2 rfl) ?_
          refine ok.getR hO h_a (by decide) k13_39 (by decide) (fun _ _ he hv kk => th_get (ci := 11) (C := RX11) (T := TX11) (N := 66) hx hb hts inX11 hown hK hH he rfl 39 (by decide) fl4 hv dX11_row_61 kk) ?_
          refine lv_iload_n hx hb dX11_row_64 rfl (lv_at hl 1 rfl) ?_
          refine m_iald hx hb hK hH hO h_a k13_39 isA1 e_6 rz_46 (by omega) (by omega) dX11_row_65 (fun z_57 ez_57 rz_57 elx9 => ?_)
          refine lv_goto (tgt := 102) hx hb dX11_row_66 (by decide) ?_
          exact th_iret hx hb hr hlocks hH hS (z := z_57) rz_57 ⟨hO, hF, hM, by rw [show aF σ_s_1 (ad E a 1) = f1 from e_2, show aF σ_s_1 (ad E a 37) = f37 from e_3, show aF σ_s_1 (ad E a 61) = f61 from e_4, show aF σ_s_1 (ad E a 62) = f62 from e_5, show aF σ_s_1 (ad E a 39) = f39 from e_6, show aF σ_s_1 (ad E a 40) = f40 from e_7, show aF σ_s_1 (ad E a 42) = f42 from e_8, show aF σ_s_1 (ad E a 43) = f43 from e_9, show aF σ_s_1 (ad E a 44) = f44 from e_10, show aF σ_s_1 (ad E a 45) = f45 from e_11, show aF σ_s_1 (ad E a 46) = f46 from e_12]; exact ⟨hj.n (by omega) (by omega) (by omega), by omega⟩⟩ dX11_row_102
      · replace c_47 := (I_eq (a := wh) (b := 2) rwh (show rng 2 from ⟨by decide, by decide⟩)).mp c_47
        refine lv_aload_n hx hb dX11_row_39 rfl (lv_at hl 1 rfl) ?_
        refine ok.getR hO h_a (by decide) k13_42 (by decide) (fun _ _ he hv kk => th_get (ci := 11) (C := RX11) (T := TX11) (N := 66) hx hb hts inX11 hown hK hH he rfl 42 (by decide) fl5 hv dX11_row_40 kk) ?_
        refine lv_iload_n hx hb dX11_row_43 rfl (lv_at hl 0 rfl) ?_
        refine m_iald hx hb hK hH hO h_a k13_42 isA1 e_8 rz_46 (by omega) (by omega) dX11_row_44 (fun z_58 ez_58 rz_58 elx9 => ?_)
        refine lv_goto (tgt := 54) hx hb dX11_row_45 (by decide) ?_
        refine lv_istore (lv' := [(4, .int (I z_58)), (3, .int (I z_46)), (0, .ref a), (1, .int (I i)), (2, .int (I wh))]) hx hb dX11_row_54 hl (by decide) rfl (fun ls hl => ?_)
        refine lv_iload_n hx hb dX11_row_56 rfl (lv_at hl 4 rfl) ?_
        refine lv_if_ne (tgt := 69) hx hb dX11_row_57 (by decide) (fun c_59 => ?_) (fun c_59 => ?_)
        · replace c_59 := mt (I_eq (a := wh) (b := 0) rwh (show rng 0 from ⟨by decide, by decide⟩)).mpr c_59
          refine lv_iload_n hx hb dX11_row_69 rfl (lv_at hl 4 rfl) ?_
          refine lv_iconst (v := I 1) hx hb dX11_row_70 (by decide) ?_
          refine lv_icmp_ne (tgt := 83) hx hb dX11_row_71 (by decide) (fun c_60 => ?_) (fun c_60 => ?_)
          · replace c_60 := mt (I_eq (a := wh) (b := 1) rwh (show rng 1 from ⟨by decide, by decide⟩)).mpr c_60
            refine lv_iload hx hb dX11_row_83 (lv_at hl 0 rfl) ?_
            refine lv_iconst (v := I (-1)) hx hb dX11_row_85 (by decide) ?_
            refine lv_icmp_ne (tgt := 93) hx hb dX11_row_86 (by decide) (fun c_61 => ?_) (fun c_61 => ?_)
            · replace c_61 := mt (I_eq (a := z_58) (b := (-1)) rz_58 (show rng (-1) from ⟨by decide, by decide⟩)).mpr c_61
              have hp_62 : plw 1 150 f44 z_58 := (by first | (have e9 : z_58 = (f42 (130 + i).toNat).toInt := (by rw [show (130 : Int) + i = z_46 by omega]; omega); rw [e9]; exact hr4.resolve_left (by omega)) | (have e9 : z_58 = (f43 (130 + i).toNat).toInt := (by rw [show (130 : Int) + i = z_46 by omega]; omega); rw [e9]; exact hr5.resolve_left (by omega)))
              have hp1 := hp_62.1
              have hp2 := hp_62.2.1
              have hp3 := hp_62.2.2.1
              refine lv_aload_n hx hb dX11_row_93 rfl (lv_at hl 2 rfl) ?_
              refine ok.getR hO h_a (by decide) k13_44 (by decide) (fun _ _ he hv kk => th_get (ci := 11) (C := RX11) (T := TX11) (N := 66) hx hb hts inX11 hown hK hH he rfl 44 (by decide) fl2 hv dX11_row_94 kk) ?_
              refine lv_iload hx hb dX11_row_97 (lv_at hl 0 rfl) ?_
              refine th_calli (va_runS (As := [.ref (ad E a 44), .int (I z_58)]) (rest := []) ⟨hx, hb, hml, hown, hts⟩ (w_size l G y b0 σ_s_1 E hO (ad E a 44) 1200 f44 (hO.roww h_a k13_44 isA1 e_10 rfl) z_58 (show rng z_58 from rz_58) (by omega) (by omega) (by omega)) (va_cwS 2 hts gX11_row_X11_size rfl rfl rfl (by decide +kernel) ⟨Nat.le_of_ble_eq_true rfl, Nat.le_of_ble_eq_true rfl⟩) (th_PS hK hH) rfl rfl hl.1 rfl (lv_room (Nat.le_of_ble_eq_true rfl)) dX11_row_99 ⟨Nat.le_of_ble_eq_true rfl, Nat.le_of_ble_eq_true rfl⟩) hS (fun z_65 σ_s_64 H locs rz_65 hw_63 hH hS => ?_)
              obtain ⟨e9, hw_63⟩ := hw_63
              replace e9 := e9.symm
              subst e9
              have hw_63 : z_65 = mS f44 z_58 := hw_63
              exact th_iret hx hb hr hlocks hH hS (z := z_65) rz_65 ⟨hO, hF, hM, by rw [show aF σ_s_1 (ad E a 1) = f1 from e_2, show aF σ_s_1 (ad E a 37) = f37 from e_3, show aF σ_s_1 (ad E a 61) = f61 from e_4, show aF σ_s_1 (ad E a 62) = f62 from e_5, show aF σ_s_1 (ad E a 39) = f39 from e_6, show aF σ_s_1 (ad E a 40) = f40 from e_7, show aF σ_s_1 (ad E a 42) = f42 from e_8, show aF σ_s_1 (ad E a 43) = f43 from e_9, show aF σ_s_1 (ad E a 44) = f44 from e_10, show aF σ_s_1 (ad E a 45) = f45 from e_11, show aF σ_s_1 (ad E a 46) = f46 from e_12]; exact ⟨hj.n (by omega) (by omega) (by omega), by omega⟩⟩ dX11_row_102
            · replace c_61 := (I_eq (a := z_58) (b := (-1)) rz_58 (show rng (-1) from ⟨by decide, by decide⟩)).mp c_61
              refine lv_iconst (v := I 0) hx hb dX11_row_89 (by decide) ?_
              refine lv_goto (tgt := 102) hx hb dX11_row_90 (by decide) ?_
              exact th_iret hx hb hr hlocks hH hS (z := 0) (show rng 0 from ⟨by decide, by decide⟩) ⟨hO, hF, hM, by rw [show aF σ_s_1 (ad E a 1) = f1 from e_2, show aF σ_s_1 (ad E a 37) = f37 from e_3, show aF σ_s_1 (ad E a 61) = f61 from e_4, show aF σ_s_1 (ad E a 62) = f62 from e_5, show aF σ_s_1 (ad E a 39) = f39 from e_6, show aF σ_s_1 (ad E a 40) = f40 from e_7, show aF σ_s_1 (ad E a 42) = f42 from e_8, show aF σ_s_1 (ad E a 43) = f43 from e_9, show aF σ_s_1 (ad E a 44) = f44 from e_10, show aF σ_s_1 (ad E a 45) = f45 from e_11, show aF σ_s_1 (ad E a 46) = f46 from e_12]; exact ⟨hj.n (by omega) (by omega) (by omega), by omega⟩⟩ dX11_row_102
          · replace c_60 := (I_eq (a := wh) (b := 1) rwh (show rng 1 from ⟨by decide, by decide⟩)).mp c_60
            refine lv_aload_n hx hb dX11_row_74 rfl (lv_at hl 2 rfl) ?_
            refine ok.getR hO h_a (by decide) k13_40 (by decide) (fun _ _ he hv kk => th_get (ci := 11) (C := RX11) (T := TX11) (N := 66) hx hb hts inX11 hown hK hH he rfl 40 (by decide) fl3 hv dX11_row_75 kk) ?_
            refine lv_iload_n hx hb dX11_row_78 rfl (lv_at hl 1 rfl) ?_
            refine m_iald hx hb hK hH hO h_a k13_40 isA1 e_7 rz_46 (by omega) (by omega) dX11_row_79 (fun z_66 ez_66 rz_66 elx9 => ?_)
            refine lv_goto (tgt := 102) hx hb dX11_row_80 (by decide) ?_
            exact th_iret hx hb hr hlocks hH hS (z := z_66) rz_66 ⟨hO, hF, hM, by rw [show aF σ_s_1 (ad E a 1) = f1 from e_2, show aF σ_s_1 (ad E a 37) = f37 from e_3, show aF σ_s_1 (ad E a 61) = f61 from e_4, show aF σ_s_1 (ad E a 62) = f62 from e_5, show aF σ_s_1 (ad E a 39) = f39 from e_6, show aF σ_s_1 (ad E a 40) = f40 from e_7, show aF σ_s_1 (ad E a 42) = f42 from e_8, show aF σ_s_1 (ad E a 43) = f43 from e_9, show aF σ_s_1 (ad E a 44) = f44 from e_10, show aF σ_s_1 (ad E a 45) = f45 from e_11, show aF σ_s_1 (ad E a 46) = f46 from e_12]; exact ⟨hj.n (by omega) (by omega) (by omega), by omega⟩⟩ dX11_row_102
        · replace c_59 := (I_eq (a := wh) (b := 0) rwh (show rng 0 from ⟨by decide, by decide⟩)).mp c_59
          refine lv_aload_n hx hb dX11_row_60 rfl (lv_at hl 2 rfl) ?_
          refine ok.getR hO h_a (by decide) k13_39 (by decide) (fun _ _ he hv kk => th_get (ci := 11) (C := RX11) (T := TX11) (N := 66) hx hb hts inX11 hown hK hH he rfl 39 (by decide) fl4 hv dX11_row_61 kk) ?_
          refine lv_iload_n hx hb dX11_row_64 rfl (lv_at hl 1 rfl) ?_
          refine m_iald hx hb hK hH hO h_a k13_39 isA1 e_6 rz_46 (by omega) (by omega) dX11_row_65 (fun z_67 ez_67 rz_67 elx9 => ?_)
          refine lv_goto (tgt := 102) hx hb dX11_row_66 (by decide) ?_
          exact th_iret hx hb hr hlocks hH hS (z := z_67) rz_67 ⟨hO, hF, hM, by rw [show aF σ_s_1 (ad E a 1) = f1 from e_2, show aF σ_s_1 (ad E a 37) = f37 from e_3, show aF σ_s_1 (ad E a 61) = f61 from e_4, show aF σ_s_1 (ad E a 62) = f62 from e_5, show aF σ_s_1 (ad E a 39) = f39 from e_6, show aF σ_s_1 (ad E a 40) = f40 from e_7, show aF σ_s_1 (ad E a 42) = f42 from e_8, show aF σ_s_1 (ad E a 43) = f43 from e_9, show aF σ_s_1 (ad E a 44) = f44 from e_10, show aF σ_s_1 (ad E a 45) = f45 from e_11, show aF σ_s_1 (ad E a 46) = f46 from e_12]; exact ⟨hj.n (by omega) (by omega) (by omega), by omega⟩⟩ dX11_row_102
    · replace c_45 := (I_eq (a := z_44) (b := 0) rz_44 (show rng 0 from ⟨by decide, by decide⟩)).mp c_45
      refine lv_aload_n hx hb dX11_row_22 rfl (lv_at hl 0 rfl) ?_
      refine lv_iconst (v := I 1) hx hb dX11_row_23 (by decide) ?_
      obtain ⟨_, hc_68⟩ := hO.cell h_a (by decide) (ci := 11) rfl
      refine th_calli (va_runV (As := [.int (I 1)]) (rest := []) ⟨hx, hb, hml, hown, hts⟩ (m_fail l G y b0 σ_s_1 E hO a h_a 1 (show rng 1 from (show rng 1 from ⟨by decide, by decide⟩))) (cwV 1 hts gX11_row_X11_fail rfl rfl rfl (by decide +kernel) ⟨Nat.le_of_ble_eq_true rfl, Nat.le_of_ble_eq_true rfl⟩) (th_PV hK hH rfl hc_68) rfl rfl hl.1 rfl (lv_room (Nat.le_of_ble_eq_true rfl)) dX11_row_24 ⟨Nat.le_of_ble_eq_true rfl, Nat.le_of_ble_eq_true rfl⟩) hS (fun z_71 σ_s_70 H locs rz_71 hw_69 hH hS => ?_)
      obtain ⟨hO9, hF9, hM9, hw_69⟩ := hw_69
      replace hM := hM.tu hM9 (by decide)
      replace hF := hF.tu hF9 (by decide)
      have e_72 : aF σ_s_70 (ad E a 1) = f1 := (hM9.a (by decide) (by decide)).trans e_2
      have e_73 : aF σ_s_70 (ad E a 37) = f37 := (hM9.a (by decide) (by decide)).trans e_3
      have e_74 : aF σ_s_70 (ad E a 61) = f61 := (hM9.a (by decide) (by decide)).trans e_4
      have e_75 : aF σ_s_70 (ad E a 62) = f62 := (hM9.a (by decide) (by decide)).trans e_5
      have e_76 : aF σ_s_70 (ad E a 39) = f39 := (hM9.a (by decide) (by decide)).trans e_6
      have e_77 : aF σ_s_70 (ad E a 40) = f40 := (hM9.a (by decide) (by decide)).trans e_7
      have e_78 : aF σ_s_70 (ad E a 42) = f42 := (hM9.a (by decide) (by decide)).trans e_8
      have e_79 : aF σ_s_70 (ad E a 43) = f43 := (hM9.a (by decide) (by decide)).trans e_9
      have e_80 : aF σ_s_70 (ad E a 44) = f44 := (hM9.a (by decide) (by decide)).trans e_10
      have e_81 : aF σ_s_70 (ad E a 45) = f45 := (hM9.a (by decide) (by decide)).trans e_11
      have e_82 : aF σ_s_70 (ad E a 46) = f46 := (hM9.a (by decide) (by decide)).trans e_12
      have e_83 : gI σ_s_70 a 36 = a360 := (hM9.i (by decide)).trans e_13
      have e_84 : gI σ_s_70 a 58 = a580 := (hM9.i (by decide)).trans e_14
      have e_85 : gI σ_s_70 a 59 = a590 := (hM9.i (by decide)).trans e_15
      have e_86 : gI σ_s_70 a 12 = a120 := (hM9.i (by decide)).trans e_16
      replace hO := hO9
      exact th_iret hx hb hr hlocks hH hS (z := z_71) rz_71 ⟨hO, hF, hM, by rw [show aF σ_s_70 (ad E a 1) = f1 from e_72, show aF σ_s_70 (ad E a 37) = f37 from e_73, show aF σ_s_70 (ad E a 61) = f61 from e_74, show aF σ_s_70 (ad E a 62) = f62 from e_75, show aF σ_s_70 (ad E a 39) = f39 from e_76, show aF σ_s_70 (ad E a 40) = f40 from e_77, show aF σ_s_70 (ad E a 42) = f42 from e_78, show aF σ_s_70 (ad E a 43) = f43 from e_79, show aF σ_s_70 (ad E a 44) = f44 from e_80, show aF σ_s_70 (ad E a 45) = f45 from e_81, show aF σ_s_70 (ad E a 46) = f46 from e_82]; exact ⟨hj.n (by omega) (by omega) (by omega), by omega⟩⟩ dX11_row_27

set_option maxHeartbeats 4000000 in
set_option maxRecDepth 100000 in
theorem j_rowText (l : Launch) (G : va_G) (y : Nat → ClassId) (b0 : Nat) (σ : th_M) (E : th_E) (hO : ok y E σ) (a : Nat) (h_a : kd E a = 13) (i : Int) (ri : rng i) (j : Int) (rj : rng j) (f1 : Nat → Int32) (ef1 : aF σ (ad E a 1) = f1) (f37 : Nat → Int32) (ef37 : aF σ (ad E a 37) = f37) (f61 : Nat → Int32) (ef61 : aF σ (ad E a 61) = f61) (f62 : Nat → Int32) (ef62 : aF σ (ad E a 62) = f62) (f39 : Nat → Int32) (ef39 : aF σ (ad E a 39) = f39) (f40 : Nat → Int32) (ef40 : aF σ (ad E a 40) = f40) (f42 : Nat → Int32) (ef42 : aF σ (ad E a 42) = f42) (f43 : Nat → Int32) (ef43 : aF σ (ad E a 43) = f43) (f44 : Nat → Int32) (ef44 : aF σ (ad E a 44) = f44) (f45 : Nat → Int32) (ef45 : aF σ (ad E a 45) = f45) (f46 : Nat → Int32) (ef46 : aF σ (ad E a 46) = f46) (hy0 : jw f1 f37 f61 f62 f39 f40 f42 f43 f44 f45 f46 (gI σ a 36) (gI σ a 58) (gI σ a 59)) : Met l yX11_rowText wsX11_rowText ({ frames := 133, cells := 0, slots := 0, locals := 3988 }) (th_P G y b0 σ [.ref a, .int (I i), .int (I j)]) (th_Qi G b0 (fun r σ1 => ok y E σ1 ∧ fr [13] E σ σ1 ∧ fm [0, 49, 50] E σ σ1 a ∧ (jw (aF σ1 (ad E a 1)) (aF σ1 (ad E a 37)) (aF σ1 (ad E a 61)) (aF σ1 (ad E a 62)) (aF σ1 (ad E a 39)) (aF σ1 (ad E a 40)) (aF σ1 (ad E a 42)) (aF σ1 (ad E a 43)) (aF σ1 (ad E a 44)) (aF σ1 (ad E a 45)) (aF σ1 (ad E a 46)) (gI σ1 a 36) (gI σ1 a 58) (gI σ1 a 59) ∧ gI σ1 a 12 = gI σ a 12))) 0 0 (th_A b0) := by
  refine Met.ofW (cc := cX11_rowText) (maxL := 5) (ret := (some .int)) (by decide) rfl ?_
  intro p e s m args below meth c s₁ B hml hv
  obtain ⟨rfl, hH, hK⟩ := hv
  have hx := B.exec
  have hb := B.bytes
  have hr := B.returns
  have hts := atoms_spec (ws := wsX11_rowText) B.pre
  have hown : s.vm.findClass RX11 = some m.cls := findClass_of_methodNamed B.named
  have hlocks := B.notSynchronized
  have h00 : b0 ≤ s.heap.size := hH.1
  have hS : va_S (th_A b0) s.heap s.heap [] := va_S.rf
  have hF : fr [13] E σ σ := fr.rf
  have hM : fm [0, 49, 50] E σ σ a := fm.rf
  have hj := hy0
  have hw1 := hj.1.1.1
  have hm1 := hj.1.2.1
  have hm2 := hj.1.2.2.1
  have hm3 := hj.2.2.2.2.1
  have hm4 := hj.2.2.2.2.2.1
  have inX11 : ∀ w ∈ wsX110, w ∈ wsX11_rowText := by decide +kernel
  have fl0 := hts (.fieldLink RX11 111 "NestQueryModel" "code" "I") (by decide +kernel)
  have fl1 := hts (.fieldLink RX11 471 "NestQueryModel" "outMany" "I") (by decide +kernel)
  have fl2 := hts (.fieldLink RX11 51 "NestQueryModel" "rowKind" "[I") (by decide +kernel)
  have fl3 := hts (.fieldLink RX11 54 "NestQueryModel" "rowSteps" "[I") (by decide +kernel)
  have fl4 := hts (.fieldLink RX11 66 "NestQueryModel" "pool" "[I") (by decide +kernel)
  have fl5 := hts (.fieldLink RX11 63 "NestQueryModel" "rowIs" "[I") (by decide +kernel)
  have fl6 := hts (.fieldLink RX11 57 "NestQueryModel" "rowPath" "[I") (by decide +kernel)
  have hl := lv_entry ([.ref a, .int (I i), .int (I j)]) (n := 5) (Nat.le_of_ble_eq_true rfl)
  rw [lg_entry_eq]
  generalize (lg_sl ([.ref a, .int (I i), .int (I j)]) ++ List.replicate (5 - (lg_sl ([.ref a, .int (I i), .int (I j)])).length) Slot.unset).toArray = ls at hl ⊢
  have hl : lv_has ls 5 [(0, .ref a), (1, .int (I i)), (2, .int (I j))] := hl
  obtain ⟨a360, ea360, ra360, la360, ua360⟩ := hO.gi h_a (by decide) k13_36
  obtain ⟨a580, ea580, ra580, la580, ua580⟩ := hO.gi h_a (by decide) k13_58
  obtain ⟨a590, ea590, ra590, la590, ua590⟩ := hO.gi h_a (by decide) k13_59
  obtain ⟨a120, ea120, ra120, la120, ua120⟩ := hO.gi h_a (by decide) k13_12
  refine lv_aload_n hx hb dX11_rowText_0 rfl (lv_at hl 0 rfl) ?_
  refine lv_iconst (v := I 0) hx hb dX11_rowText_1 (by decide) ?_
  obtain ⟨z_1, e_2, rz_1, lz_1, uz_1⟩ := hO.gi h_a (by decide) k13_50
  refine ok.putJ hO h_a k13_0 (show rng 0 from ⟨by decide, by decide⟩) (by omega) (by omega) (fun _ he hl9 kk => th_put (ci := 11) (v := .int (I 0)) (ty := .int) (C := RX11) (T := TX11) (N := 66) hx hb hts inX11 tyX11 tyX11_ok nmX11 hown hK hH hS h00 he rfl 0 (by decide) fl0 rfl (by decide +kernel) rfl rfl hl9 dX11_rowText_2 kk) (fun σ_s_3 H locs hO hF9 hM9 hg9 ha9 hH hS => ?_)
  replace hM := hM.tu hM9 (by decide)
  replace hF := hF.tu hF9 (by decide)
  have e_4 : aF σ_s_3 (ad E a 1) = f1 := (hM9.a (by decide) (by decide)).trans ef1
  have e_5 : aF σ_s_3 (ad E a 37) = f37 := (hM9.a (by decide) (by decide)).trans ef37
  have e_6 : aF σ_s_3 (ad E a 61) = f61 := (hM9.a (by decide) (by decide)).trans ef61
  have e_7 : aF σ_s_3 (ad E a 62) = f62 := (hM9.a (by decide) (by decide)).trans ef62
  have e_8 : aF σ_s_3 (ad E a 39) = f39 := (hM9.a (by decide) (by decide)).trans ef39
  have e_9 : aF σ_s_3 (ad E a 40) = f40 := (hM9.a (by decide) (by decide)).trans ef40
  have e_10 : aF σ_s_3 (ad E a 42) = f42 := (hM9.a (by decide) (by decide)).trans ef42
  have e_11 : aF σ_s_3 (ad E a 43) = f43 := (hM9.a (by decide) (by decide)).trans ef43
  have e_12 : aF σ_s_3 (ad E a 44) = f44 := (hM9.a (by decide) (by decide)).trans ef44
  have e_13 : aF σ_s_3 (ad E a 45) = f45 := (hM9.a (by decide) (by decide)).trans ef45
  have e_14 : aF σ_s_3 (ad E a 46) = f46 := (hM9.a (by decide) (by decide)).trans ef46
  have e_15 : gI σ_s_3 a 36 = a360 := (hM9.i (by decide)).trans ea360
  have e_16 : gI σ_s_3 a 58 = a580 := (hM9.i (by decide)).trans ea580
  have e_17 : gI σ_s_3 a 59 = a590 := (hM9.i (by decide)).trans ea590
  have e_18 : gI σ_s_3 a 12 = a120 := (hM9.i (by decide)).trans ea120
  have e_19 : gI σ_s_3 a 50 = z_1 := (hM9.i (by decide)).trans e_2
  have e_20 := hg9
  refine lv_aload_n hx hb dX11_rowText_5 rfl (lv_at hl 0 rfl) ?_
  refine lv_iload_n hx hb dX11_rowText_6 rfl (lv_at hl 1 rfl) ?_
  obtain ⟨_, hc_21⟩ := hO.cell h_a (by decide) (ci := 11) rfl
  refine th_calli (va_runV (As := [.int (I i)]) (rest := []) ⟨hx, hb, hml, hown, hts⟩ (m_isRow l G y b0 σ_s_3 E hO a h_a i (show rng i from ri) f45 e_13 (by omega)) (cwV 1 hts gX11_rowText_X11_isRow rfl rfl rfl (by decide +kernel) ⟨Nat.le_of_ble_eq_true rfl, Nat.le_of_ble_eq_true rfl⟩) (th_PV hK hH rfl hc_21) rfl rfl hl.1 rfl (lv_room (Nat.le_of_ble_eq_true rfl)) dX11_rowText_7 ⟨Nat.le_of_ble_eq_true rfl, Nat.le_of_ble_eq_true rfl⟩) hS (fun z_24 σ_s_23 H locs rz_24 hw_22 hH hS => ?_)
  obtain ⟨e9, bhw_22, hw_22⟩ := hw_22
  replace e9 := e9.symm
  subst e9
  have hw_22 : (z_24 = 1 ∧ 0 ≤ i ∧ i < (f45 (1 : Int).toNat).toInt) ∨ z_24 = 0 := hw_22
  refine lv_if_ne (tgt := 19) hx hb dX11_rowText_10 (by decide) (fun c_25 => ?_) (fun c_25 => ?_)
  · replace c_25 := mt (I_eq (a := z_24) (b := 0) rz_24 (show rng 0 from ⟨by decide, by decide⟩)).mpr c_25
    refine lv_sipush (v := I 130) hx hb dX11_rowText_19 (by decide) ?_
    refine lv_iload_n hx hb dX11_rowText_22 rfl (lv_at hl 1 rfl) ?_
    refine lv_iadd hx hb dX11_rowText_23 ?_
    refine nq_top (I_add _ _) ?_
    refine lv_istore_n (lv' := [(3, .int (I (130 + i))), (0, .ref a), (1, .int (I i)), (2, .int (I j))]) hx hb dX11_rowText_24 rfl hl (by decide) rfl (fun ls hl => ?_)
    have hkr := hj.2.2.2.row (j := i) (by omega) (by omega)
    obtain ⟨hr1, hr2, hr3, hr4, hr5, hr6, hr7⟩ := hkr
    refine lv_aload_n hx hb dX11_rowText_25 rfl (lv_at hl 1 rfl) ?_
    refine lv_iconst (v := I 0) hx hb dX11_rowText_26 (by decide) ?_
    refine ok.putJ hO h_a k13_50 (show rng 0 from ⟨by decide, by decide⟩) (by omega) (by omega) (fun _ he hl9 kk => th_put (ci := 11) (v := .int (I 0)) (ty := .int) (C := RX11) (T := TX11) (N := 66) hx hb hts inX11 tyX11 tyX11_ok nmX11 hown hK hH hS h00 he rfl 50 (by decide) fl1 rfl (by decide +kernel) rfl rfl hl9 dX11_rowText_27 kk) (fun σ_s_26 H locs hO hF9 hM9 hg9 ha9 hH hS => ?_)
    replace hM := hM.tu hM9 (by decide)
    replace hF := hF.tu hF9 (by decide)
    have e_27 : aF σ_s_26 (ad E a 1) = f1 := (hM9.a (by decide) (by decide)).trans e_4
    have e_28 : aF σ_s_26 (ad E a 37) = f37 := (hM9.a (by decide) (by decide)).trans e_5
    have e_29 : aF σ_s_26 (ad E a 61) = f61 := (hM9.a (by decide) (by decide)).trans e_6
    have e_30 : aF σ_s_26 (ad E a 62) = f62 := (hM9.a (by decide) (by decide)).trans e_7
    have e_31 : aF σ_s_26 (ad E a 39) = f39 := (hM9.a (by decide) (by decide)).trans e_8
    have e_32 : aF σ_s_26 (ad E a 40) = f40 := (hM9.a (by decide) (by decide)).trans e_9
    have e_33 : aF σ_s_26 (ad E a 42) = f42 := (hM9.a (by decide) (by decide)).trans e_10
    have e_34 : aF σ_s_26 (ad E a 43) = f43 := (hM9.a (by decide) (by decide)).trans e_11
    have e_35 : aF σ_s_26 (ad E a 44) = f44 := (hM9.a (by decide) (by decide)).trans e_12
    have e_36 : aF σ_s_26 (ad E a 45) = f45 := (hM9.a (by decide) (by decide)).trans e_13
    have e_37 : aF σ_s_26 (ad E a 46) = f46 := (hM9.a (by decide) (by decide)).trans e_14
    have e_38 : gI σ_s_26 a 36 = a360 := (hM9.i (by decide)).trans e_15
    have e_39 : gI σ_s_26 a 58 = a580 := (hM9.i (by decide)).trans e_16
    have e_40 : gI σ_s_26 a 59 = a590 := (hM9.i (by decide)).trans e_17
    have e_41 : gI σ_s_26 a 12 = a120 := (hM9.i (by decide)).trans e_18
    have e_42 : gI σ_s_26 a 0 = 0 := (hM9.i (by decide)).trans e_20
    have e_43 := hg9
    refine lv_aload_n hx hb dX11_rowText_30 rfl (lv_at hl 1 rfl) ?_
    refine lv_aload_n hx hb dX11_rowText_31 rfl (lv_at hl 1 rfl) ?_
    refine ok.getR hO h_a (by decide) k13_39 (by decide) (fun _ _ he hv kk => th_get (ci := 11) (C := RX11) (T := TX11) (N := 66) hx hb hts inX11 hown hK hH he rfl 39 (by decide) fl2 hv dX11_rowText_32 kk) ?_
    refine lv_iload_n hx hb dX11_rowText_35 rfl (lv_at hl 0 rfl) ?_
    refine m_iald hx hb hK hH hO h_a k13_39 isA1 e_31 ⟨by omega, by omega⟩ (by omega) (by omega) dX11_rowText_36 (fun z_44 ez_44 rz_44 elx9 => ?_)
    refine lv_iconst (v := I 1) hx hb dX11_rowText_37 (by decide) ?_
    refine th_join (α := Int) (J := 63) (stk := fun x9 => [.int (I x9), .ref a]) (fun x9 σ9 H9 l9 ls9 => σ9 = σ_s_26 ∧ th_H G b0 σ9 H9 ∧ va_S (th_A b0) s.heap H9 l9 ∧ lv_has ls9 5 [(0, .ref a), (2, .int (I j)), (3, .int (I (130 + i)))] ∧ rng x9 ∧ (x9 = 43 ∨ x9 = 45 ∨ x9 = 61)) ?_ (fun jK_49 => ?_)
    · intro x9 σ_K_49 H locs ls hI9
      obtain ⟨w0q48, ex9⟩ : ∃ z, z = x9 := ⟨_, rfl⟩
      subst ex9
      obtain ⟨eK_49, hH, hS, hl, rw0q48, K_49_0⟩ := hI9
      replace eK_49 := eK_49.symm
      subst eK_49
      have hl : lv_has ls 5 [(0, .ref a), (2, .int (I j)), (3, .int (I (130 + i)))] := hl
      have rw0q48 : rng w0q48 := rw0q48
      have K_49_0 : w0q48 = 43 ∨ w0q48 = 45 ∨ w0q48 = 61 := K_49_0
      obtain ⟨_, hc_50⟩ := hO.cell h_a (by decide) (ci := 11) rfl
      refine th_callv (va_runV (As := [.int (I w0q48)]) (rest := []) ⟨hx, hb, hml, hown, hts⟩ (m_tell l G y b0 σ_s_26 E hO a h_a w0q48 (show rng w0q48 from rw0q48) (by omega)) (cwV 1 hts gX11_rowText_X11_tell rfl rfl rfl (by decide +kernel) ⟨Nat.le_of_ble_eq_true rfl, Nat.le_of_ble_eq_true rfl⟩) (th_PV hK hH rfl hc_50) rfl rfl hl.1 rfl (lv_room (Nat.le_of_ble_eq_true rfl)) dX11_rowText_63 ⟨Nat.le_of_ble_eq_true rfl, Nat.le_of_ble_eq_true rfl⟩) hS (fun σ_s_52 H locs hw_51 hH hS => ?_)
      obtain ⟨hO9, hF9, hM9, hw_51⟩ := hw_51
      replace hM := hM.tu hM9 (by decide)
      replace hF := hF.tu hF9 (by decide)
      have e_53 : aF σ_s_52 (ad E a 1) = f1 := (hM9.a (by decide) (by decide)).trans e_27
      have e_54 : aF σ_s_52 (ad E a 37) = f37 := (hM9.a (by decide) (by decide)).trans e_28
      have e_55 : aF σ_s_52 (ad E a 61) = f61 := (hM9.a (by decide) (by decide)).trans e_29
      have e_56 : aF σ_s_52 (ad E a 62) = f62 := (hM9.a (by decide) (by decide)).trans e_30
      have e_57 : aF σ_s_52 (ad E a 39) = f39 := (hM9.a (by decide) (by decide)).trans e_31
      have e_58 : aF σ_s_52 (ad E a 40) = f40 := (hM9.a (by decide) (by decide)).trans e_32
      have e_59 : aF σ_s_52 (ad E a 42) = f42 := (hM9.a (by decide) (by decide)).trans e_33
      have e_60 : aF σ_s_52 (ad E a 43) = f43 := (hM9.a (by decide) (by decide)).trans e_34
      have e_61 : aF σ_s_52 (ad E a 44) = f44 := (hM9.a (by decide) (by decide)).trans e_35
      have e_62 : aF σ_s_52 (ad E a 45) = f45 := (hM9.a (by decide) (by decide)).trans e_36
      have e_63 : aF σ_s_52 (ad E a 46) = f46 := (hM9.a (by decide) (by decide)).trans e_37
      have e_64 : gI σ_s_52 a 36 = a360 := (hM9.i (by decide)).trans e_38
      have e_65 : gI σ_s_52 a 58 = a580 := (hM9.i (by decide)).trans e_39
      have e_66 : gI σ_s_52 a 59 = a590 := (hM9.i (by decide)).trans e_40
      have e_67 : gI σ_s_52 a 12 = a120 := (hM9.i (by decide)).trans e_41
      have e_68 : gI σ_s_52 a 0 = 0 := (hM9.i (by decide)).trans e_42
      replace hO := hO9
      have hw_51 : gI σ_s_52 a 50 = gI σ_s_26 a 50 + 1 := hw_51
      refine lv_iconst (v := I 0) hx hb dX11_rowText_66 (by decide) ?_
      refine lv_istore (lv' := [(4, .int (I 0)), (0, .ref a), (2, .int (I j)), (3, .int (I (130 + i)))]) hx hb dX11_rowText_67 hl (by decide) rfl (fun ls hl => ?_)
      refine th_loop (α := Int) (pc := 69) (fun x9 => (8 - x9).toNat) (fun x9 σ9 H9 l9 ls9 => ok y E σ9 ∧ fr [13] E σ σ9 ∧ fm [0, 49, 50] E σ σ9 a ∧ th_H G b0 σ9 H9 ∧ va_S (th_A b0) s.heap H9 l9 ∧ lv_has ls9 5 [(0, .ref a), (2, .int (I j)), (3, .int (I (130 + i))), (4, .int (I x9))] ∧ rng x9 ∧ (0 ≤ x9) ∧ (x9 ≤ 8) ∧ (gI σ9 a 50 ≤ 1 + 8 * x9) ∧ (0 ≤ gI σ9 a 50) ∧ (gI σ9 a 36 = a360) ∧ (gI σ9 a 58 = a580) ∧ (gI σ9 a 59 = a590) ∧ (gI σ9 a 12 = a120) ∧ (gI σ9 a 0 = 0) ∧ (aF σ9 (ad E a 1) = f1) ∧ (aF σ9 (ad E a 37) = f37) ∧ (aF σ9 (ad E a 61) = f61) ∧ (aF σ9 (ad E a 62) = f62) ∧ (aF σ9 (ad E a 39) = f39) ∧ (aF σ9 (ad E a 40) = f40) ∧ (aF σ9 (ad E a 42) = f42) ∧ (aF σ9 (ad E a 43) = f43) ∧ (aF σ9 (ad E a 44) = f44) ∧ (aF σ9 (ad E a 45) = f45) ∧ (aF σ9 (ad E a 46) = f46)) ?_ (0) σ_s_52 _ _ _ ⟨hO, hF, hM, hH, hS, lv_sub hl [1, 2, 3, 0] rfl, (show rng 0 from ⟨by decide, by decide⟩), by first | (dsimp only; omega) | omega, by first | (dsimp only; omega) | omega, by first | (dsimp only; omega) | omega, by first | (dsimp only; omega) | omega, e_64, e_65, e_66, e_67, e_68, e_53, e_54, e_55, e_56, e_57, e_58, e_59, e_60, e_61, e_62, e_63⟩
      intro x9 σ_J_97 H locs ls hI9 ihJ_97
      obtain ⟨v4q96, ex9⟩ : ∃ z, z = x9 := ⟨_, rfl⟩
      subst ex9
      obtain ⟨hO, hF, hM, hH, hS, hl, rv4q96, J_97_0, J_97_1, J_97_2, J_97_3, J_97_4, J_97_5, J_97_6, J_97_7, J_97_8, J_97_9, J_97_10, J_97_11, J_97_12, J_97_13, J_97_14, J_97_15, J_97_16, J_97_17, J_97_18, J_97_19⟩ := hI9
      have hl : lv_has ls 5 [(0, .ref a), (2, .int (I j)), (3, .int (I (130 + i))), (4, .int (I v4q96))] := hl
      have rv4q96 : rng v4q96 := rv4q96
      have J_97_0 : 0 ≤ v4q96 := J_97_0
      have J_97_1 : v4q96 ≤ 8 := J_97_1
      have J_97_2 : gI σ_J_97 a 50 ≤ 1 + 8 * v4q96 := J_97_2
      have J_97_3 : 0 ≤ gI σ_J_97 a 50 := J_97_3
      have J_97_4 : gI σ_J_97 a 36 = a360 := J_97_4
      have J_97_5 : gI σ_J_97 a 58 = a580 := J_97_5
      have J_97_6 : gI σ_J_97 a 59 = a590 := J_97_6
      have J_97_7 : gI σ_J_97 a 12 = a120 := J_97_7
      have J_97_8 : gI σ_J_97 a 0 = 0 := J_97_8
      have J_97_9 : aF σ_J_97 (ad E a 1) = f1 := J_97_9
      have J_97_10 : aF σ_J_97 (ad E a 37) = f37 := J_97_10
      have J_97_11 : aF σ_J_97 (ad E a 61) = f61 := J_97_11
      have J_97_12 : aF σ_J_97 (ad E a 62) = f62 := J_97_12
      have J_97_13 : aF σ_J_97 (ad E a 39) = f39 := J_97_13
      have J_97_14 : aF σ_J_97 (ad E a 40) = f40 := J_97_14
      have J_97_15 : aF σ_J_97 (ad E a 42) = f42 := J_97_15
      have J_97_16 : aF σ_J_97 (ad E a 43) = f43 := J_97_16
      have J_97_17 : aF σ_J_97 (ad E a 44) = f44 := J_97_17
      have J_97_18 : aF σ_J_97 (ad E a 45) = f45 := J_97_18
      have J_97_19 : aF σ_J_97 (ad E a 46) = f46 := J_97_19
      refine lv_iload hx hb dX11_rowText_69 (lv_at hl 3 rfl) ?_
      refine lv_aload_n hx hb dX11_rowText_71 rfl (lv_at hl 0 rfl) ?_
      refine ok.getR hO h_a (by decide) k13_40 (by decide) (fun _ _ he hv kk => th_get (ci := 11) (C := RX11) (T := TX11) (N := 66) hx hb hts inX11 hown hK hH he rfl 40 (by decide) fl3 hv dX11_rowText_72 kk) ?_
      refine lv_iload_n hx hb dX11_rowText_75 rfl (lv_at hl 2 rfl) ?_
      refine m_iald hx hb hK hH hO h_a k13_40 isA1 J_97_14 ⟨by omega, by omega⟩ (by omega) (by omega) dX11_rowText_76 (fun z_98 ez_98 rz_98 elx9 => ?_)
      refine lv_icmp_ge (tgt := 102) hx hb dX11_rowText_77 (by decide) (fun c_99 => ?_) (fun c_99 => ?_)
      · replace c_99 := (I_le (a := z_98) (b := v4q96) rz_98 rv4q96).mp c_99
        refine lv_aload_n hx hb dX11_rowText_102 rfl (lv_at hl 0 rfl) ?_
        refine ok.getR hO h_a (by decide) k13_39 (by decide) (fun _ _ he hv kk => th_get (ci := 11) (C := RX11) (T := TX11) (N := 66) hx hb hts inX11 hown hK hH he rfl 39 (by decide) fl2 hv dX11_rowText_103 kk) ?_
        refine lv_iload_n hx hb dX11_rowText_106 rfl (lv_at hl 2 rfl) ?_
        refine m_iald hx hb hK hH hO h_a k13_39 isA1 J_97_13 ⟨by omega, by omega⟩ (by omega) (by omega) dX11_rowText_107 (fun z_100 ez_100 rz_100 elx9 => ?_)
        refine lv_iconst (v := I 2) hx hb dX11_rowText_108 (by decide) ?_
        refine lv_icmp_eq (tgt := 132) hx hb dX11_rowText_109 (by decide) (fun c_101 => ?_) (fun c_101 => ?_)
        · replace c_101 := (I_eq (a := z_100) (b := 2) rz_100 (show rng 2 from ⟨by decide, by decide⟩)).mp c_101
          refine lv_aload_n hx hb dX11_rowText_132 rfl (lv_at hl 0 rfl) ?_
          refine lv_iload_n hx hb dX11_rowText_133 rfl (lv_at hl 1 rfl) ?_
          obtain ⟨z_102, e_103, rz_102, lz_102, uz_102⟩ := hO.gi h_a (by decide) k13_50
          obtain ⟨_, hc_104⟩ := hO.cell h_a (by decide) (ci := 11) rfl
          refine th_calli (va_runV (As := [.int (I j)]) (rest := []) ⟨hx, hb, hml, hown, hts⟩ (m_outAt l G y b0 σ_J_97 E hO a h_a j (show rng j from rj)) (cwV 1 hts gX11_rowText_X11_outAt rfl rfl rfl (by decide +kernel) ⟨Nat.le_of_ble_eq_true rfl, Nat.le_of_ble_eq_true rfl⟩) (th_PV hK hH rfl hc_104) rfl rfl hl.1 rfl (lv_room (Nat.le_of_ble_eq_true rfl)) dX11_rowText_134 ⟨Nat.le_of_ble_eq_true rfl, Nat.le_of_ble_eq_true rfl⟩) hS (fun z_107 σ_s_106 H locs rz_107 hw_105 hH hS => ?_)
          obtain ⟨hO9, hF9, hM9, hw_105⟩ := hw_105
          replace hM := hM.tu hM9 (by decide)
          replace hF := hF.tu hF9 (by decide)
          have e_108 : gI σ_s_106 a 36 = a360 := (hM9.i (by decide)).trans J_97_4
          have e_109 : gI σ_s_106 a 58 = a580 := (hM9.i (by decide)).trans J_97_5
          have e_110 : gI σ_s_106 a 59 = a590 := (hM9.i (by decide)).trans J_97_6
          have e_111 : gI σ_s_106 a 12 = a120 := (hM9.i (by decide)).trans J_97_7
          have e_112 : aF σ_s_106 (ad E a 1) = f1 := (hM9.a (by decide) (by decide)).trans J_97_9
          have e_113 : aF σ_s_106 (ad E a 37) = f37 := (hM9.a (by decide) (by decide)).trans J_97_10
          have e_114 : aF σ_s_106 (ad E a 61) = f61 := (hM9.a (by decide) (by decide)).trans J_97_11
          have e_115 : aF σ_s_106 (ad E a 62) = f62 := (hM9.a (by decide) (by decide)).trans J_97_12
          have e_116 : aF σ_s_106 (ad E a 39) = f39 := (hM9.a (by decide) (by decide)).trans J_97_13
          have e_117 : aF σ_s_106 (ad E a 40) = f40 := (hM9.a (by decide) (by decide)).trans J_97_14
          have e_118 : aF σ_s_106 (ad E a 42) = f42 := (hM9.a (by decide) (by decide)).trans J_97_15
          have e_119 : aF σ_s_106 (ad E a 43) = f43 := (hM9.a (by decide) (by decide)).trans J_97_16
          have e_120 : aF σ_s_106 (ad E a 44) = f44 := (hM9.a (by decide) (by decide)).trans J_97_17
          have e_121 : aF σ_s_106 (ad E a 45) = f45 := (hM9.a (by decide) (by decide)).trans J_97_18
          have e_122 : aF σ_s_106 (ad E a 46) = f46 := (hM9.a (by decide) (by decide)).trans J_97_19
          have e_123 : gI σ_s_106 a 50 = z_102 := (hM9.i (by decide)).trans e_103
          replace hO := hO9
          exact th_iret hx hb hr hlocks hH hS (z := z_107) rz_107 ⟨hO, hF, hM, by rw [show aF σ_s_106 (ad E a 1) = f1 from e_112, show aF σ_s_106 (ad E a 37) = f37 from e_113, show aF σ_s_106 (ad E a 61) = f61 from e_114, show aF σ_s_106 (ad E a 62) = f62 from e_115, show aF σ_s_106 (ad E a 39) = f39 from e_116, show aF σ_s_106 (ad E a 40) = f40 from e_117, show aF σ_s_106 (ad E a 42) = f42 from e_118, show aF σ_s_106 (ad E a 43) = f43 from e_119, show aF σ_s_106 (ad E a 44) = f44 from e_120, show aF σ_s_106 (ad E a 45) = f45 from e_121, show aF σ_s_106 (ad E a 46) = f46 from e_122]; exact ⟨hj.n (by omega) (by omega) (by omega), by omega⟩⟩ dX11_rowText_137
        · replace c_101 := mt (I_eq (a := z_100) (b := 2) rz_100 (show rng 2 from ⟨by decide, by decide⟩)).mpr c_101
          refine lv_aload_n hx hb dX11_rowText_112 rfl (lv_at hl 0 rfl) ?_
          refine lv_bipush (v := I 32) hx hb dX11_rowText_113 (by decide) ?_
          obtain ⟨_, hc_124⟩ := hO.cell h_a (by decide) (ci := 11) rfl
          refine th_callv (va_runV (As := [.int (I 32)]) (rest := []) ⟨hx, hb, hml, hown, hts⟩ (m_tell l G y b0 σ_J_97 E hO a h_a 32 (show rng 32 from (show rng 32 from ⟨by decide, by decide⟩)) (by omega)) (cwV 1 hts gX11_rowText_X11_tell rfl rfl rfl (by decide +kernel) ⟨Nat.le_of_ble_eq_true rfl, Nat.le_of_ble_eq_true rfl⟩) (th_PV hK hH rfl hc_124) rfl rfl hl.1 rfl (lv_room (Nat.le_of_ble_eq_true rfl)) dX11_rowText_115 ⟨Nat.le_of_ble_eq_true rfl, Nat.le_of_ble_eq_true rfl⟩) hS (fun σ_s_126 H locs hw_125 hH hS => ?_)
          obtain ⟨hO9, hF9, hM9, hw_125⟩ := hw_125
          replace hM := hM.tu hM9 (by decide)
          replace hF := hF.tu hF9 (by decide)
          have e_127 : gI σ_s_126 a 36 = a360 := (hM9.i (by decide)).trans J_97_4
          have e_128 : gI σ_s_126 a 58 = a580 := (hM9.i (by decide)).trans J_97_5
          have e_129 : gI σ_s_126 a 59 = a590 := (hM9.i (by decide)).trans J_97_6
          have e_130 : gI σ_s_126 a 12 = a120 := (hM9.i (by decide)).trans J_97_7
          have e_131 : gI σ_s_126 a 0 = 0 := (hM9.i (by decide)).trans J_97_8
          have e_132 : aF σ_s_126 (ad E a 1) = f1 := (hM9.a (by decide) (by decide)).trans J_97_9
          have e_133 : aF σ_s_126 (ad E a 37) = f37 := (hM9.a (by decide) (by decide)).trans J_97_10
          have e_134 : aF σ_s_126 (ad E a 61) = f61 := (hM9.a (by decide) (by decide)).trans J_97_11
          have e_135 : aF σ_s_126 (ad E a 62) = f62 := (hM9.a (by decide) (by decide)).trans J_97_12
          have e_136 : aF σ_s_126 (ad E a 39) = f39 := (hM9.a (by decide) (by decide)).trans J_97_13
          have e_137 : aF σ_s_126 (ad E a 40) = f40 := (hM9.a (by decide) (by decide)).trans J_97_14
          have e_138 : aF σ_s_126 (ad E a 42) = f42 := (hM9.a (by decide) (by decide)).trans J_97_15
          have e_139 : aF σ_s_126 (ad E a 43) = f43 := (hM9.a (by decide) (by decide)).trans J_97_16
          have e_140 : aF σ_s_126 (ad E a 44) = f44 := (hM9.a (by decide) (by decide)).trans J_97_17
          have e_141 : aF σ_s_126 (ad E a 45) = f45 := (hM9.a (by decide) (by decide)).trans J_97_18
          have e_142 : aF σ_s_126 (ad E a 46) = f46 := (hM9.a (by decide) (by decide)).trans J_97_19
          replace hO := hO9
          have hw_125 : gI σ_s_126 a 50 = gI σ_J_97 a 50 + 1 := hw_125
          refine lv_aload_n hx hb dX11_rowText_118 rfl (lv_at hl 0 rfl) ?_
          refine lv_aload_n hx hb dX11_rowText_119 rfl (lv_at hl 0 rfl) ?_
          refine ok.getR hO h_a (by decide) k13_44 (by decide) (fun _ _ he hv kk => th_get (ci := 11) (C := RX11) (T := TX11) (N := 66) hx hb hts inX11 hown hK hH he rfl 44 (by decide) fl4 hv dX11_rowText_120 kk) ?_
          refine lv_aload_n hx hb dX11_rowText_123 rfl (lv_at hl 0 rfl) ?_
          refine ok.getR hO h_a (by decide) k13_43 (by decide) (fun _ _ he hv kk => th_get (ci := 11) (C := RX11) (T := TX11) (N := 66) hx hb hts inX11 hown hK hH he rfl 43 (by decide) fl5 hv dX11_rowText_124 kk) ?_
          refine lv_iload_n hx hb dX11_rowText_127 rfl (lv_at hl 2 rfl) ?_
          refine m_iald hx hb hK hH hO h_a k13_43 isA1 e_139 ⟨by omega, by omega⟩ (by omega) (by omega) dX11_rowText_128 (fun z_143 ez_143 rz_143 elx9 => ?_)
          have hp0 : plw 1 150 f44 z_143 := (by rw [show z_143 = (f43 (130 + i).toNat).toInt by omega]; exact hr5.resolve_left (hr7 (by omega)))
          have hp1 := hp0.1
          have hp2 := hp0.2.1
          have hp3 := hp0.2.2.1
          have hp4 := hp0.2.2.2.1
          obtain ⟨_, hc_144⟩ := hO.cell h_a (by decide) (ci := 11) rfl
          refine th_callv (va_runV (As := [.ref (ad E a 44), .int (I z_143)]) (rest := []) ⟨hx, hb, hml, hown, hts⟩ (m_tellThing44 61 l G y b0 σ_s_126 E hO a h_a z_143 (show rng z_143 from rz_143) (by omega) (by omega) f44 e_140 (hp0.2.2.2.2.1) (by omega) (by omega) (by omega)) (cwV 2 hts gX11_rowText_X11_tellThing rfl rfl rfl (by decide +kernel) ⟨Nat.le_of_ble_eq_true rfl, Nat.le_of_ble_eq_true rfl⟩) (th_PV hK hH rfl hc_144) rfl rfl hl.1 rfl (lv_room (Nat.le_of_ble_eq_true rfl)) dX11_rowText_129 ⟨Nat.le_of_ble_eq_true rfl, Nat.le_of_ble_eq_true rfl⟩) hS (fun σ_s_146 H locs hw_145 hH hS => ?_)
          obtain ⟨hO9, hF9, hM9, hw_145⟩ := hw_145
          replace hM := hM.tu hM9 (by decide)
          replace hF := hF.tu hF9 (by decide)
          have e_147 : gI σ_s_146 a 36 = a360 := (hM9.i (by decide)).trans e_127
          have e_148 : gI σ_s_146 a 58 = a580 := (hM9.i (by decide)).trans e_128
          have e_149 : gI σ_s_146 a 59 = a590 := (hM9.i (by decide)).trans e_129
          have e_150 : gI σ_s_146 a 12 = a120 := (hM9.i (by decide)).trans e_130
          have e_151 : gI σ_s_146 a 0 = 0 := (hM9.i (by decide)).trans e_131
          have e_152 : aF σ_s_146 (ad E a 1) = f1 := (hM9.a (by decide) (by decide)).trans e_132
          have e_153 : aF σ_s_146 (ad E a 37) = f37 := (hM9.a (by decide) (by decide)).trans e_133
          have e_154 : aF σ_s_146 (ad E a 61) = f61 := (hM9.a (by decide) (by decide)).trans e_134
          have e_155 : aF σ_s_146 (ad E a 62) = f62 := (hM9.a (by decide) (by decide)).trans e_135
          have e_156 : aF σ_s_146 (ad E a 39) = f39 := (hM9.a (by decide) (by decide)).trans e_136
          have e_157 : aF σ_s_146 (ad E a 40) = f40 := (hM9.a (by decide) (by decide)).trans e_137
          have e_158 : aF σ_s_146 (ad E a 42) = f42 := (hM9.a (by decide) (by decide)).trans e_138
          have e_159 : aF σ_s_146 (ad E a 43) = f43 := (hM9.a (by decide) (by decide)).trans e_139
          have e_160 : aF σ_s_146 (ad E a 44) = f44 := (hM9.a (by decide) (by decide)).trans e_140
          have e_161 : aF σ_s_146 (ad E a 45) = f45 := (hM9.a (by decide) (by decide)).trans e_141
          have e_162 : aF σ_s_146 (ad E a 46) = f46 := (hM9.a (by decide) (by decide)).trans e_142
          replace hO := hO9
          have hw_145 : gI σ_s_126 a 50 ≤ gI σ_s_146 a 50 ∧ gI σ_s_146 a 50 + 9 ≤ gI σ_s_126 a 50 + 16 * mS f44 z_143 := hw_145
          refine lv_aload_n hx hb dX11_rowText_132 rfl (lv_at hl 0 rfl) ?_
          refine lv_iload_n hx hb dX11_rowText_133 rfl (lv_at hl 1 rfl) ?_
          obtain ⟨z_163, e_164, rz_163, lz_163, uz_163⟩ := hO.gi h_a (by decide) k13_50
          obtain ⟨_, hc_165⟩ := hO.cell h_a (by decide) (ci := 11) rfl
          refine th_calli (va_runV (As := [.int (I j)]) (rest := []) ⟨hx, hb, hml, hown, hts⟩ (m_outAt l G y b0 σ_s_146 E hO a h_a j (show rng j from rj)) (cwV 1 hts gX11_rowText_X11_outAt rfl rfl rfl (by decide +kernel) ⟨Nat.le_of_ble_eq_true rfl, Nat.le_of_ble_eq_true rfl⟩) (th_PV hK hH rfl hc_165) rfl rfl hl.1 rfl (lv_room (Nat.le_of_ble_eq_true rfl)) dX11_rowText_134 ⟨Nat.le_of_ble_eq_true rfl, Nat.le_of_ble_eq_true rfl⟩) hS (fun z_168 σ_s_167 H locs rz_168 hw_166 hH hS => ?_)
          obtain ⟨hO9, hF9, hM9, hw_166⟩ := hw_166
          replace hM := hM.tu hM9 (by decide)
          replace hF := hF.tu hF9 (by decide)
          have e_169 : gI σ_s_167 a 36 = a360 := (hM9.i (by decide)).trans e_147
          have e_170 : gI σ_s_167 a 58 = a580 := (hM9.i (by decide)).trans e_148
          have e_171 : gI σ_s_167 a 59 = a590 := (hM9.i (by decide)).trans e_149
          have e_172 : gI σ_s_167 a 12 = a120 := (hM9.i (by decide)).trans e_150
          have e_173 : aF σ_s_167 (ad E a 1) = f1 := (hM9.a (by decide) (by decide)).trans e_152
          have e_174 : aF σ_s_167 (ad E a 37) = f37 := (hM9.a (by decide) (by decide)).trans e_153
          have e_175 : aF σ_s_167 (ad E a 61) = f61 := (hM9.a (by decide) (by decide)).trans e_154
          have e_176 : aF σ_s_167 (ad E a 62) = f62 := (hM9.a (by decide) (by decide)).trans e_155
          have e_177 : aF σ_s_167 (ad E a 39) = f39 := (hM9.a (by decide) (by decide)).trans e_156
          have e_178 : aF σ_s_167 (ad E a 40) = f40 := (hM9.a (by decide) (by decide)).trans e_157
          have e_179 : aF σ_s_167 (ad E a 42) = f42 := (hM9.a (by decide) (by decide)).trans e_158
          have e_180 : aF σ_s_167 (ad E a 43) = f43 := (hM9.a (by decide) (by decide)).trans e_159
          have e_181 : aF σ_s_167 (ad E a 44) = f44 := (hM9.a (by decide) (by decide)).trans e_160
          have e_182 : aF σ_s_167 (ad E a 45) = f45 := (hM9.a (by decide) (by decide)).trans e_161
          have e_183 : aF σ_s_167 (ad E a 46) = f46 := (hM9.a (by decide) (by decide)).trans e_162
          have e_184 : gI σ_s_167 a 50 = z_163 := (hM9.i (by decide)).trans e_164
          replace hO := hO9
          exact th_iret hx hb hr hlocks hH hS (z := z_168) rz_168 ⟨hO, hF, hM, by rw [show aF σ_s_167 (ad E a 1) = f1 from e_173, show aF σ_s_167 (ad E a 37) = f37 from e_174, show aF σ_s_167 (ad E a 61) = f61 from e_175, show aF σ_s_167 (ad E a 62) = f62 from e_176, show aF σ_s_167 (ad E a 39) = f39 from e_177, show aF σ_s_167 (ad E a 40) = f40 from e_178, show aF σ_s_167 (ad E a 42) = f42 from e_179, show aF σ_s_167 (ad E a 43) = f43 from e_180, show aF σ_s_167 (ad E a 44) = f44 from e_181, show aF σ_s_167 (ad E a 45) = f45 from e_182, show aF σ_s_167 (ad E a 46) = f46 from e_183]; exact ⟨hj.n (by omega) (by omega) (by omega), by omega⟩⟩ dX11_rowText_137
      · replace c_99 := mt (I_le (a := z_98) (b := v4q96) rz_98 rv4q96).mpr c_99
        refine lv_aload_n hx hb dX11_rowText_80 rfl (lv_at hl 0 rfl) ?_
        refine lv_aload_n hx hb dX11_rowText_81 rfl (lv_at hl 0 rfl) ?_
        refine ok.getR hO h_a (by decide) k13_41 (by decide) (fun _ _ he hv kk => th_get (ci := 11) (C := RX11) (T := TX11) (N := 66) hx hb hts inX11 hown hK hH he rfl 41 (by decide) fl6 hv dX11_rowText_82 kk) ?_
        refine lv_bipush (v := I 8) hx hb dX11_rowText_85 (by decide) ?_
        refine lv_iload_n hx hb dX11_rowText_87 rfl (lv_at hl 2 rfl) ?_
        refine lv_imul hx hb dX11_rowText_88 ?_
        refine nq_top (I_mul _ _) ?_
        refine lv_iload hx hb dX11_rowText_89 (lv_at hl 3 rfl) ?_
        refine lv_iadd hx hb dX11_rowText_91 ?_
        refine th_addo (fun z_185 rz_185 hz_185 => ?_)
        obtain ⟨f_187, ef_188⟩ : ∃ f9, aF σ_J_97 (ad E a 41) = f9 := ⟨_, rfl⟩
        refine m_iald hx hb hK hH hO h_a k13_41 isA1 ef_188 rz_185 (by omega) (by omega) dX11_rowText_92 (fun z_186 ez_186 rz_186 elx9 => ?_)
        obtain ⟨_, hc_189⟩ := hO.cell h_a (by decide) (ci := 11) rfl
        refine th_callv (va_runV (As := [.int (I z_186)]) (rest := []) ⟨hx, hb, hml, hown, hts⟩ (m_tellStep l G y b0 σ_J_97 E hO a h_a z_186 (show rng z_186 from rz_186) (by omega)) (cwV 1 hts gX11_rowText_X11_tellStep rfl rfl rfl (by decide +kernel) ⟨Nat.le_of_ble_eq_true rfl, Nat.le_of_ble_eq_true rfl⟩) (th_PV hK hH rfl hc_189) rfl rfl hl.1 rfl (lv_room (Nat.le_of_ble_eq_true rfl)) dX11_rowText_93 ⟨Nat.le_of_ble_eq_true rfl, Nat.le_of_ble_eq_true rfl⟩) hS (fun σ_s_191 H locs hw_190 hH hS => ?_)
        obtain ⟨hO9, hF9, hM9, hw_190⟩ := hw_190
        replace hM := hM.tu hM9 (by decide)
        replace hF := hF.tu hF9 (by decide)
        have e_192 : gI σ_s_191 a 36 = a360 := (hM9.i (by decide)).trans J_97_4
        have e_193 : gI σ_s_191 a 58 = a580 := (hM9.i (by decide)).trans J_97_5
        have e_194 : gI σ_s_191 a 59 = a590 := (hM9.i (by decide)).trans J_97_6
        have e_195 : gI σ_s_191 a 12 = a120 := (hM9.i (by decide)).trans J_97_7
        have e_196 : gI σ_s_191 a 0 = 0 := (hM9.i (by decide)).trans J_97_8
        have e_197 : aF σ_s_191 (ad E a 1) = f1 := (hM9.a (by decide) (by decide)).trans J_97_9
        have e_198 : aF σ_s_191 (ad E a 37) = f37 := (hM9.a (by decide) (by decide)).trans J_97_10
        have e_199 : aF σ_s_191 (ad E a 61) = f61 := (hM9.a (by decide) (by decide)).trans J_97_11
        have e_200 : aF σ_s_191 (ad E a 62) = f62 := (hM9.a (by decide) (by decide)).trans J_97_12
        have e_201 : aF σ_s_191 (ad E a 39) = f39 := (hM9.a (by decide) (by decide)).trans J_97_13
        have e_202 : aF σ_s_191 (ad E a 40) = f40 := (hM9.a (by decide) (by decide)).trans J_97_14
        have e_203 : aF σ_s_191 (ad E a 42) = f42 := (hM9.a (by decide) (by decide)).trans J_97_15
        have e_204 : aF σ_s_191 (ad E a 43) = f43 := (hM9.a (by decide) (by decide)).trans J_97_16
        have e_205 : aF σ_s_191 (ad E a 44) = f44 := (hM9.a (by decide) (by decide)).trans J_97_17
        have e_206 : aF σ_s_191 (ad E a 45) = f45 := (hM9.a (by decide) (by decide)).trans J_97_18
        have e_207 : aF σ_s_191 (ad E a 46) = f46 := (hM9.a (by decide) (by decide)).trans J_97_19
        have e_208 : aF σ_s_191 (ad E a 41) = f_187 := (hM9.a (by decide) (by decide)).trans ef_188
        replace hO := hO9
        have hw_190 : gI σ_J_97 a 50 ≤ gI σ_s_191 a 50 ∧ gI σ_s_191 a 50 ≤ gI σ_J_97 a 50 + 8 := hw_190
        refine lv_iinc (v := I (v4q96 + 1)) (lv' := [(4, .int (I (v4q96 + 1))), (0, .ref a), (2, .int (I j)), (3, .int (I (130 + i)))]) hx hb dX11_rowText_96 hl (k := 3) rfl (I_add _ _) (by decide) rfl (fun ls hl => ?_)
        refine lv_goto (tgt := 69) hx hb dX11_rowText_99 (by decide) ?_
        exact ihJ_97 (v4q96 + 1) σ_s_191 _ _ _ (by first | (dsimp only; omega) | omega) ⟨hO, hF, hM, hH, hS, lv_sub hl [1, 2, 3, 0] rfl, ⟨by first | (dsimp only; omega) | omega, by first | (dsimp only; omega) | omega⟩, by first | (dsimp only; omega) | omega, by first | (dsimp only; omega) | omega, by first | (dsimp only; omega) | omega, by first | (dsimp only; omega) | omega, e_192, e_193, e_194, e_195, e_196, e_197, e_198, e_199, e_200, e_201, e_202, e_203, e_204, e_205, e_206, e_207⟩
    · refine lv_icmp_ne (tgt := 46) hx hb dX11_rowText_38 (by decide) (fun c_209 => ?_) (fun c_209 => ?_)
      · replace c_209 := mt (I_eq (a := z_44) (b := 1) rz_44 (show rng 1 from ⟨by decide, by decide⟩)).mpr c_209
        refine lv_aload_n hx hb dX11_rowText_46 rfl (lv_at hl 1 rfl) ?_
        refine ok.getR hO h_a (by decide) k13_39 (by decide) (fun _ _ he hv kk => th_get (ci := 11) (C := RX11) (T := TX11) (N := 66) hx hb hts inX11 hown hK hH he rfl 39 (by decide) fl2 hv dX11_rowText_47 kk) ?_
        refine lv_iload_n hx hb dX11_rowText_50 rfl (lv_at hl 0 rfl) ?_
        refine m_iald hx hb hK hH hO h_a k13_39 isA1 e_31 ⟨by omega, by omega⟩ (by omega) (by omega) dX11_rowText_51 (fun z_210 ez_210 rz_210 elx9 => ?_)
        refine lv_iconst (v := I 2) hx hb dX11_rowText_52 (by decide) ?_
        refine lv_icmp_ne (tgt := 61) hx hb dX11_rowText_53 (by decide) (fun c_211 => ?_) (fun c_211 => ?_)
        · replace c_211 := mt (I_eq (a := z_210) (b := 2) rz_210 (show rng 2 from ⟨by decide, by decide⟩)).mpr c_211
          refine lv_bipush (v := I 61) hx hb dX11_rowText_61 (by decide) ?_
          replace hl : lv_has ls 5 [(3, .int (I (130 + i))), (0, .ref a), (2, .int (I j))] := lv_sub hl [0, 1, 3] rfl
          exact jK_49 (61) σ_s_26 _ _ _ ⟨rfl, hH, hS, lv_sub hl [1, 2, 0] rfl, (show rng 61 from ⟨by decide, by decide⟩), by first | (dsimp only; omega) | omega⟩
        · replace c_211 := (I_eq (a := z_210) (b := 2) rz_210 (show rng 2 from ⟨by decide, by decide⟩)).mp c_211
          refine lv_bipush (v := I 45) hx hb dX11_rowText_56 (by decide) ?_
          refine lv_goto (tgt := 63) hx hb dX11_rowText_58 (by decide) ?_
          replace hl : lv_has ls 5 [(3, .int (I (130 + i))), (0, .ref a), (2, .int (I j))] := lv_sub hl [0, 1, 3] rfl
          exact jK_49 (45) σ_s_26 _ _ _ ⟨rfl, hH, hS, lv_sub hl [1, 2, 0] rfl, (show rng 45 from ⟨by decide, by decide⟩), by first | (dsimp only; omega) | omega⟩
      · replace c_209 := (I_eq (a := z_44) (b := 1) rz_44 (show rng 1 from ⟨by decide, by decide⟩)).mp c_209
        refine lv_bipush (v := I 43) hx hb dX11_rowText_41 (by decide) ?_
        refine lv_goto (tgt := 63) hx hb dX11_rowText_43 (by decide) ?_
        replace hl : lv_has ls 5 [(3, .int (I (130 + i))), (0, .ref a), (2, .int (I j))] := lv_sub hl [0, 1, 3] rfl
        exact jK_49 (43) σ_s_26 _ _ _ ⟨rfl, hH, hS, lv_sub hl [1, 2, 0] rfl, (show rng 43 from ⟨by decide, by decide⟩), by first | (dsimp only; omega) | omega⟩
  · replace c_25 := (I_eq (a := z_24) (b := 0) rz_24 (show rng 0 from ⟨by decide, by decide⟩)).mp c_25
    refine lv_aload_n hx hb dX11_rowText_13 rfl (lv_at hl 0 rfl) ?_
    refine lv_iconst (v := I 1) hx hb dX11_rowText_14 (by decide) ?_
    obtain ⟨_, hc_212⟩ := hO.cell h_a (by decide) (ci := 11) rfl
    refine th_calli (va_runV (As := [.int (I 1)]) (rest := []) ⟨hx, hb, hml, hown, hts⟩ (m_fail l G y b0 σ_s_3 E hO a h_a 1 (show rng 1 from (show rng 1 from ⟨by decide, by decide⟩))) (cwV 1 hts gX11_rowText_X11_fail rfl rfl rfl (by decide +kernel) ⟨Nat.le_of_ble_eq_true rfl, Nat.le_of_ble_eq_true rfl⟩) (th_PV hK hH rfl hc_212) rfl rfl hl.1 rfl (lv_room (Nat.le_of_ble_eq_true rfl)) dX11_rowText_15 ⟨Nat.le_of_ble_eq_true rfl, Nat.le_of_ble_eq_true rfl⟩) hS (fun z_215 σ_s_214 H locs rz_215 hw_213 hH hS => ?_)
    obtain ⟨hO9, hF9, hM9, hw_213⟩ := hw_213
    replace hM := hM.tu hM9 (by decide)
    replace hF := hF.tu hF9 (by decide)
    have e_216 : aF σ_s_214 (ad E a 1) = f1 := (hM9.a (by decide) (by decide)).trans e_4
    have e_217 : aF σ_s_214 (ad E a 37) = f37 := (hM9.a (by decide) (by decide)).trans e_5
    have e_218 : aF σ_s_214 (ad E a 61) = f61 := (hM9.a (by decide) (by decide)).trans e_6
    have e_219 : aF σ_s_214 (ad E a 62) = f62 := (hM9.a (by decide) (by decide)).trans e_7
    have e_220 : aF σ_s_214 (ad E a 39) = f39 := (hM9.a (by decide) (by decide)).trans e_8
    have e_221 : aF σ_s_214 (ad E a 40) = f40 := (hM9.a (by decide) (by decide)).trans e_9
    have e_222 : aF σ_s_214 (ad E a 42) = f42 := (hM9.a (by decide) (by decide)).trans e_10
    have e_223 : aF σ_s_214 (ad E a 43) = f43 := (hM9.a (by decide) (by decide)).trans e_11
    have e_224 : aF σ_s_214 (ad E a 44) = f44 := (hM9.a (by decide) (by decide)).trans e_12
    have e_225 : aF σ_s_214 (ad E a 45) = f45 := (hM9.a (by decide) (by decide)).trans e_13
    have e_226 : aF σ_s_214 (ad E a 46) = f46 := (hM9.a (by decide) (by decide)).trans e_14
    have e_227 : gI σ_s_214 a 36 = a360 := (hM9.i (by decide)).trans e_15
    have e_228 : gI σ_s_214 a 58 = a580 := (hM9.i (by decide)).trans e_16
    have e_229 : gI σ_s_214 a 59 = a590 := (hM9.i (by decide)).trans e_17
    have e_230 : gI σ_s_214 a 12 = a120 := (hM9.i (by decide)).trans e_18
    have e_231 : gI σ_s_214 a 50 = z_1 := (hM9.i (by decide)).trans e_19
    replace hO := hO9
    exact th_iret hx hb hr hlocks hH hS (z := z_215) rz_215 ⟨hO, hF, hM, by rw [show aF σ_s_214 (ad E a 1) = f1 from e_216, show aF σ_s_214 (ad E a 37) = f37 from e_217, show aF σ_s_214 (ad E a 61) = f61 from e_218, show aF σ_s_214 (ad E a 62) = f62 from e_219, show aF σ_s_214 (ad E a 39) = f39 from e_220, show aF σ_s_214 (ad E a 40) = f40 from e_221, show aF σ_s_214 (ad E a 42) = f42 from e_222, show aF σ_s_214 (ad E a 43) = f43 from e_223, show aF σ_s_214 (ad E a 44) = f44 from e_224, show aF σ_s_214 (ad E a 45) = f45 from e_225, show aF σ_s_214 (ad E a 46) = f46 from e_226]; exact ⟨hj.n (by omega) (by omega) (by omega), by omega⟩⟩ dX11_rowText_18

set_option maxHeartbeats 4000000 in
set_option maxRecDepth 100000 in
theorem j_add (l : Launch) (G : va_G) (y : Nat → ClassId) (b0 : Nat) (σ : th_M) (E : th_E) (hO : ok y E σ) (a : Nat) (h_a : kd E a = 13) (slot : Int) (rslot : rng slot) (v : Int) (rv : rng v) (f1 : Nat → Int32) (ef1 : aF σ (ad E a 1) = f1) (f37 : Nat → Int32) (ef37 : aF σ (ad E a 37) = f37) (f61 : Nat → Int32) (ef61 : aF σ (ad E a 61) = f61) (f62 : Nat → Int32) (ef62 : aF σ (ad E a 62) = f62) (f39 : Nat → Int32) (ef39 : aF σ (ad E a 39) = f39) (f40 : Nat → Int32) (ef40 : aF σ (ad E a 40) = f40) (f42 : Nat → Int32) (ef42 : aF σ (ad E a 42) = f42) (f43 : Nat → Int32) (ef43 : aF σ (ad E a 43) = f43) (f44 : Nat → Int32) (ef44 : aF σ (ad E a 44) = f44) (f45 : Nat → Int32) (ef45 : aF σ (ad E a 45) = f45) (f46 : Nat → Int32) (ef46 : aF σ (ad E a 46) = f46) (f2 : Nat → Int32) (ef2 : aF σ (ad E a 2) = f2) (f3 : Nat → Int32) (ef3 : aF σ (ad E a 3) = f3) (f8 : Nat → Int32) (ef8 : aF σ (ad E a 8) = f8) (f35 : Nat → Int32) (ef35 : aF σ (ad E a 35) = f35) (hy0 : jw f1 f37 f61 f62 f39 f40 f42 f43 f44 f45 f46 (gI σ a 36) (gI σ a 58) (gI σ a 59)) : Met l yX11_add wsX11_add ({ frames := 52, cells := 0, slots := 0, locals := 1742 }) (th_P G y b0 σ [.ref a, .int (I slot), .int (I v)]) (th_Qi G b0 (fun r σ1 => ok y E σ1 ∧ fr [13] E σ σ1 ∧ fm [0, 1, 3, 4, 5, 9, 10, 11, 13, 14, 15, 16, 17, 18, 19, 20, 23, 24, 25, 26, 27, 28, 29, 30, 32, 34, 35, 36, 37] E σ σ1 a ∧ (jw (aF σ1 (ad E a 1)) (aF σ1 (ad E a 37)) (aF σ1 (ad E a 61)) (aF σ1 (ad E a 62)) (aF σ1 (ad E a 39)) (aF σ1 (ad E a 40)) (aF σ1 (ad E a 42)) (aF σ1 (ad E a 43)) (aF σ1 (ad E a 44)) (aF σ1 (ad E a 45)) (aF σ1 (ad E a 46)) (gI σ1 a 36) (gI σ1 a 58) (gI σ1 a 59) ∧ gI σ1 a 12 = gI σ a 12))) 0 0 (th_A b0) := by
  refine Met.ofW (cc := cX11_add) (maxL := 4) (ret := (some .int)) (by decide) rfl ?_
  intro p e s m args below meth c s₁ B hml hv
  obtain ⟨rfl, hH, hK⟩ := hv
  have hx := B.exec
  have hb := B.bytes
  have hr := B.returns
  have hts := atoms_spec (ws := wsX11_add) B.pre
  have hown : s.vm.findClass RX11 = some m.cls := findClass_of_methodNamed B.named
  have hlocks := B.notSynchronized
  have h00 : b0 ≤ s.heap.size := hH.1
  have hS : va_S (th_A b0) s.heap s.heap [] := va_S.rf
  have hF : fr [13] E σ σ := fr.rf
  have hM : fm [0, 1, 3, 4, 5, 9, 10, 11, 13, 14, 15, 16, 17, 18, 19, 20, 23, 24, 25, 26, 27, 28, 29, 30, 32, 34, 35, 36, 37] E σ σ a := fm.rf
  have hj := hy0
  have hw1 := hj.1.1.1
  have hm1 := hj.1.2.1
  have hm2 := hj.1.2.2.1
  have hm3 := hj.2.2.2.2.1
  have hm4 := hj.2.2.2.2.2.1
  have inX11 : ∀ w ∈ wsX110, w ∈ wsX11_add := by decide +kernel
  have fl0 := hts (.fieldLink RX11 111 "NestQueryModel" "code" "I") (by decide +kernel)
  have hl := lv_entry ([.ref a, .int (I slot), .int (I v)]) (n := 4) (Nat.le_of_ble_eq_true rfl)
  rw [lg_entry_eq]
  generalize (lg_sl ([.ref a, .int (I slot), .int (I v)]) ++ List.replicate (4 - (lg_sl ([.ref a, .int (I slot), .int (I v)])).length) Slot.unset).toArray = ls at hl ⊢
  have hl : lv_has ls 4 [(0, .ref a), (1, .int (I slot)), (2, .int (I v))] := hl
  obtain ⟨a360, ea360, ra360, la360, ua360⟩ := hO.gi h_a (by decide) k13_36
  obtain ⟨a580, ea580, ra580, la580, ua580⟩ := hO.gi h_a (by decide) k13_58
  obtain ⟨a590, ea590, ra590, la590, ua590⟩ := hO.gi h_a (by decide) k13_59
  obtain ⟨a120, ea120, ra120, la120, ua120⟩ := hO.gi h_a (by decide) k13_12
  refine lv_aload_n hx hb dX11_add_0 rfl (lv_at hl 0 rfl) ?_
  refine lv_iconst (v := I 0) hx hb dX11_add_1 (by decide) ?_
  refine ok.putJ hO h_a k13_0 (show rng 0 from ⟨by decide, by decide⟩) (by omega) (by omega) (fun _ he hl9 kk => th_put (ci := 11) (v := .int (I 0)) (ty := .int) (C := RX11) (T := TX11) (N := 66) hx hb hts inX11 tyX11 tyX11_ok nmX11 hown hK hH hS h00 he rfl 0 (by decide) fl0 rfl (by decide +kernel) rfl rfl hl9 dX11_add_2 kk) (fun σ_s_1 H locs hO hF9 hM9 hg9 ha9 hH hS => ?_)
  replace hM := hM.tu hM9 (by decide)
  replace hF := hF.tu hF9 (by decide)
  have e_2 : aF σ_s_1 (ad E a 1) = f1 := (hM9.a (by decide) (by decide)).trans ef1
  have e_3 : aF σ_s_1 (ad E a 37) = f37 := (hM9.a (by decide) (by decide)).trans ef37
  have e_4 : aF σ_s_1 (ad E a 61) = f61 := (hM9.a (by decide) (by decide)).trans ef61
  have e_5 : aF σ_s_1 (ad E a 62) = f62 := (hM9.a (by decide) (by decide)).trans ef62
  have e_6 : aF σ_s_1 (ad E a 39) = f39 := (hM9.a (by decide) (by decide)).trans ef39
  have e_7 : aF σ_s_1 (ad E a 40) = f40 := (hM9.a (by decide) (by decide)).trans ef40
  have e_8 : aF σ_s_1 (ad E a 42) = f42 := (hM9.a (by decide) (by decide)).trans ef42
  have e_9 : aF σ_s_1 (ad E a 43) = f43 := (hM9.a (by decide) (by decide)).trans ef43
  have e_10 : aF σ_s_1 (ad E a 44) = f44 := (hM9.a (by decide) (by decide)).trans ef44
  have e_11 : aF σ_s_1 (ad E a 45) = f45 := (hM9.a (by decide) (by decide)).trans ef45
  have e_12 : aF σ_s_1 (ad E a 46) = f46 := (hM9.a (by decide) (by decide)).trans ef46
  have e_13 : aF σ_s_1 (ad E a 2) = f2 := (hM9.a (by decide) (by decide)).trans ef2
  have e_14 : aF σ_s_1 (ad E a 3) = f3 := (hM9.a (by decide) (by decide)).trans ef3
  have e_15 : aF σ_s_1 (ad E a 8) = f8 := (hM9.a (by decide) (by decide)).trans ef8
  have e_16 : aF σ_s_1 (ad E a 35) = f35 := (hM9.a (by decide) (by decide)).trans ef35
  have e_17 : gI σ_s_1 a 36 = a360 := (hM9.i (by decide)).trans ea360
  have e_18 : gI σ_s_1 a 58 = a580 := (hM9.i (by decide)).trans ea580
  have e_19 : gI σ_s_1 a 59 = a590 := (hM9.i (by decide)).trans ea590
  have e_20 : gI σ_s_1 a 12 = a120 := (hM9.i (by decide)).trans ea120
  have e_21 := hg9
  refine lv_aload_n hx hb dX11_add_5 rfl (lv_at hl 0 rfl) ?_
  refine lv_iload_n hx hb dX11_add_6 rfl (lv_at hl 1 rfl) ?_
  obtain ⟨_, hc_22⟩ := hO.cell h_a (by decide) (ci := 11) rfl
  refine th_calli (va_runV (As := [.int (I slot)]) (rest := []) ⟨hx, hb, hml, hown, hts⟩ (m_isPath l G y b0 σ_s_1 E hO a h_a slot (show rng slot from rslot) f8 e_15) (cwV 1 hts gX11_add_X11_isPath rfl rfl rfl (by decide +kernel) ⟨Nat.le_of_ble_eq_true rfl, Nat.le_of_ble_eq_true rfl⟩) (th_PV hK hH rfl hc_22) rfl rfl hl.1 rfl (lv_room (Nat.le_of_ble_eq_true rfl)) dX11_add_7 ⟨Nat.le_of_ble_eq_true rfl, Nat.le_of_ble_eq_true rfl⟩) hS (fun z_25 σ_s_24 H locs rz_25 hw_23 hH hS => ?_)
  obtain ⟨e9, bhw_23, hw_23⟩ := hw_23
  replace e9 := e9.symm
  subst e9
  have hw_23 : (z_25 = 1 ∧ 0 ≤ slot ∧ slot ≤ 3 ∧ 1 ≤ (f8 slot.toNat).toInt) ∨ z_25 = 0 := hw_23
  refine lv_if_eq (tgt := 26) hx hb dX11_add_10 (by decide) (fun c_26 => ?_) (fun c_26 => ?_)
  · replace c_26 := (I_eq (a := z_25) (b := 0) rz_25 (show rng 0 from ⟨by decide, by decide⟩)).mp c_26
    refine lv_aload_n hx hb dX11_add_26 rfl (lv_at hl 0 rfl) ?_
    refine lv_iconst (v := I 1) hx hb dX11_add_27 (by decide) ?_
    obtain ⟨_, hc_27⟩ := hO.cell h_a (by decide) (ci := 11) rfl
    refine th_calli (va_runV (As := [.int (I 1)]) (rest := []) ⟨hx, hb, hml, hown, hts⟩ (m_refuse l G y b0 σ_s_1 E hO a h_a 1 (show rng 1 from (show rng 1 from ⟨by decide, by decide⟩)) (by omega) (by omega)) (cwV 1 hts gX11_add_X11_refuse rfl rfl rfl (by decide +kernel) ⟨Nat.le_of_ble_eq_true rfl, Nat.le_of_ble_eq_true rfl⟩) (th_PV hK hH rfl hc_27) rfl rfl hl.1 rfl (lv_room (Nat.le_of_ble_eq_true rfl)) dX11_add_28 ⟨Nat.le_of_ble_eq_true rfl, Nat.le_of_ble_eq_true rfl⟩) hS (fun z_30 σ_s_29 H locs rz_30 hw_28 hH hS => ?_)
    obtain ⟨hO9, hF9, hM9, hw_28⟩ := hw_28
    replace hM := hM.tu hM9 (by decide)
    replace hF := hF.tu hF9 (by decide)
    have e_31 : aF σ_s_29 (ad E a 1) = f1 := (hM9.a (by decide) (by decide)).trans e_2
    have e_32 : aF σ_s_29 (ad E a 37) = f37 := (hM9.a (by decide) (by decide)).trans e_3
    have e_33 : aF σ_s_29 (ad E a 61) = f61 := (hM9.a (by decide) (by decide)).trans e_4
    have e_34 : aF σ_s_29 (ad E a 62) = f62 := (hM9.a (by decide) (by decide)).trans e_5
    have e_35 : aF σ_s_29 (ad E a 39) = f39 := (hM9.a (by decide) (by decide)).trans e_6
    have e_36 : aF σ_s_29 (ad E a 40) = f40 := (hM9.a (by decide) (by decide)).trans e_7
    have e_37 : aF σ_s_29 (ad E a 42) = f42 := (hM9.a (by decide) (by decide)).trans e_8
    have e_38 : aF σ_s_29 (ad E a 43) = f43 := (hM9.a (by decide) (by decide)).trans e_9
    have e_39 : aF σ_s_29 (ad E a 44) = f44 := (hM9.a (by decide) (by decide)).trans e_10
    have e_40 : aF σ_s_29 (ad E a 45) = f45 := (hM9.a (by decide) (by decide)).trans e_11
    have e_41 : aF σ_s_29 (ad E a 46) = f46 := (hM9.a (by decide) (by decide)).trans e_12
    have e_42 : aF σ_s_29 (ad E a 2) = f2 := (hM9.a (by decide) (by decide)).trans e_13
    have e_43 : aF σ_s_29 (ad E a 3) = f3 := (hM9.a (by decide) (by decide)).trans e_14
    have e_44 : aF σ_s_29 (ad E a 8) = f8 := (hM9.a (by decide) (by decide)).trans e_15
    have e_45 : aF σ_s_29 (ad E a 35) = f35 := (hM9.a (by decide) (by decide)).trans e_16
    have e_46 : gI σ_s_29 a 36 = a360 := (hM9.i (by decide)).trans e_17
    have e_47 : gI σ_s_29 a 58 = a580 := (hM9.i (by decide)).trans e_18
    have e_48 : gI σ_s_29 a 59 = a590 := (hM9.i (by decide)).trans e_19
    have e_49 : gI σ_s_29 a 12 = a120 := (hM9.i (by decide)).trans e_20
    have e_50 : gI σ_s_29 a 0 = 0 := (hM9.i (by decide)).trans e_21
    replace hO := hO9
    have hw_28 : z_30 = -1 := hw_28
    exact th_iret hx hb hr hlocks hH hS (z := z_30) rz_30 ⟨hO, hF, hM, by rw [show aF σ_s_29 (ad E a 1) = f1 from e_31, show aF σ_s_29 (ad E a 37) = f37 from e_32, show aF σ_s_29 (ad E a 61) = f61 from e_33, show aF σ_s_29 (ad E a 62) = f62 from e_34, show aF σ_s_29 (ad E a 39) = f39 from e_35, show aF σ_s_29 (ad E a 40) = f40 from e_36, show aF σ_s_29 (ad E a 42) = f42 from e_37, show aF σ_s_29 (ad E a 43) = f43 from e_38, show aF σ_s_29 (ad E a 44) = f44 from e_39, show aF σ_s_29 (ad E a 45) = f45 from e_40, show aF σ_s_29 (ad E a 46) = f46 from e_41]; exact ⟨hj.n (by omega) (by omega) (by omega), by omega⟩⟩ dX11_add_31
  · replace c_26 := mt (I_eq (a := z_25) (b := 0) rz_25 (show rng 0 from ⟨by decide, by decide⟩)).mpr c_26
    refine lv_iload_n hx hb dX11_add_13 rfl (lv_at hl 2 rfl) ?_
    refine lv_sipush (v := I (-999)) hx hb dX11_add_14 (by decide) ?_
    refine lv_sipush (v := I 999) hx hb dX11_add_17 (by decide) ?_
    refine th_calli (va_runS (As := [.int (I v), .int (I (-999)), .int (I 999)]) (rest := []) ⟨hx, hb, hml, hown, hts⟩ (w_isIn l G y b0 σ_s_1 E hO v (show rng v from rv) (-999) (show rng (-999) from (show rng (-999) from ⟨by decide, by decide⟩)) 999 (show rng 999 from (show rng 999 from ⟨by decide, by decide⟩))) (va_cwS 3 hts gX11_add_X11_isIn rfl rfl rfl (by decide +kernel) ⟨Nat.le_of_ble_eq_true rfl, Nat.le_of_ble_eq_true rfl⟩) (th_PS hK hH) rfl rfl hl.1 rfl (lv_room (Nat.le_of_ble_eq_true rfl)) dX11_add_20 ⟨Nat.le_of_ble_eq_true rfl, Nat.le_of_ble_eq_true rfl⟩) hS (fun z_53 σ_s_52 H locs rz_53 hw_51 hH hS => ?_)
    obtain ⟨e9, bhw_51, hw_51⟩ := hw_51
    replace e9 := e9.symm
    subst e9
    have hw_51 : (z_53 = 1 ∧ (-999) ≤ v ∧ v ≤ 999) ∨ (z_53 = 0 ∧ ¬ ((-999) ≤ v ∧ v ≤ 999)) := hw_51
    refine lv_if_ne (tgt := 32) hx hb dX11_add_23 (by decide) (fun c_54 => ?_) (fun c_54 => ?_)
    · replace c_54 := mt (I_eq (a := z_53) (b := 0) rz_53 (show rng 0 from ⟨by decide, by decide⟩)).mpr c_54
      refine lv_aload_n hx hb dX11_add_32 rfl (lv_at hl 0 rfl) ?_
      refine lv_iload_n hx hb dX11_add_33 rfl (lv_at hl 1 rfl) ?_
      refine lv_iconst (v := I 3) hx hb dX11_add_34 (by decide) ?_
      refine lv_iload_n hx hb dX11_add_35 rfl (lv_at hl 2 rfl) ?_
      obtain ⟨_, hc_55⟩ := hO.cell h_a (by decide) (ci := 11) rfl
      refine th_calli (va_runV (As := [.int (I slot), .int (I 3), .int (I v)]) (rest := []) ⟨hx, hb, hml, hown, hts⟩ (m_changes l G y b0 σ_s_1 E hO a h_a slot (show rng slot from rslot) (by omega) (by omega) 3 (show rng 3 from (show rng 3 from ⟨by decide, by decide⟩)) (by omega) (by omega) v (show rng v from rv) f1 e_2 f2 e_13 f3 e_14 f8 e_15 f35 e_16 f37 e_3 (hw1) (by omega) (hj.1) ((hj.2.1.le (by omega))) ((by omega)) ((fun h9 => by omega))) (cwV 3 hts gX11_add_X11_changes rfl rfl rfl (by decide +kernel) ⟨Nat.le_of_ble_eq_true rfl, Nat.le_of_ble_eq_true rfl⟩) (th_PV hK hH rfl hc_55) rfl rfl hl.1 rfl (lv_room (Nat.le_of_ble_eq_true rfl)) dX11_add_36 ⟨Nat.le_of_ble_eq_true rfl, Nat.le_of_ble_eq_true rfl⟩) hS (fun z_58 σ_s_57 H locs rz_58 hw_56 hH hS => ?_)
      obtain ⟨hO9, hF9, hM9, hw_56⟩ := hw_56
      replace hM := hM.tu hM9 (by decide)
      replace hF := hF.tu hF9 (by decide)
      have e_59 : aF σ_s_57 (ad E a 61) = f61 := (hM9.a (by decide) (by decide)).trans e_4
      have e_60 : aF σ_s_57 (ad E a 62) = f62 := (hM9.a (by decide) (by decide)).trans e_5
      have e_61 : aF σ_s_57 (ad E a 39) = f39 := (hM9.a (by decide) (by decide)).trans e_6
      have e_62 : aF σ_s_57 (ad E a 40) = f40 := (hM9.a (by decide) (by decide)).trans e_7
      have e_63 : aF σ_s_57 (ad E a 42) = f42 := (hM9.a (by decide) (by decide)).trans e_8
      have e_64 : aF σ_s_57 (ad E a 43) = f43 := (hM9.a (by decide) (by decide)).trans e_9
      have e_65 : aF σ_s_57 (ad E a 44) = f44 := (hM9.a (by decide) (by decide)).trans e_10
      have e_66 : aF σ_s_57 (ad E a 45) = f45 := (hM9.a (by decide) (by decide)).trans e_11
      have e_67 : aF σ_s_57 (ad E a 46) = f46 := (hM9.a (by decide) (by decide)).trans e_12
      have e_68 : aF σ_s_57 (ad E a 2) = f2 := (hM9.a (by decide) (by decide)).trans e_13
      have e_69 : aF σ_s_57 (ad E a 8) = f8 := (hM9.a (by decide) (by decide)).trans e_15
      have e_70 : gI σ_s_57 a 58 = a580 := (hM9.i (by decide)).trans e_18
      have e_71 : gI σ_s_57 a 59 = a590 := (hM9.i (by decide)).trans e_19
      have e_72 : gI σ_s_57 a 12 = a120 := (hM9.i (by decide)).trans e_20
      have e_73 : gI σ_s_57 a 0 = 0 := (hM9.i (by decide)).trans e_21
      replace hO := hO9
      generalize ef_75 : aF σ_s_57 (ad E a 1) = g_74 at hw_56
      generalize ef_77 : aF σ_s_57 (ad E a 37) = g_76 at hw_56
      have hw_56 : tr g_74 ∧ trs g_76 (gI σ_s_57 a 36) := hw_56
      refine lv_istore_n (lv' := [(3, .int (I z_58)), (0, .ref a), (1, .int (I slot)), (2, .int (I v))]) hx hb dX11_add_39 rfl hl (by decide) rfl (fun ls hl => ?_)
      refine lv_iload_n hx hb dX11_add_40 rfl (lv_at hl 0 rfl) ?_
      refine lv_iconst (v := I (-1)) hx hb dX11_add_41 (by decide) ?_
      refine lv_icmp_ne (tgt := 53) hx hb dX11_add_42 (by decide) (fun c_78 => ?_) (fun c_78 => ?_)
      · replace c_78 := mt (I_eq (a := z_58) (b := (-1)) rz_58 (show rng (-1) from ⟨by decide, by decide⟩)).mpr c_78
        refine lv_iload_n hx hb dX11_add_53 rfl (lv_at hl 0 rfl) ?_
        exact th_iret hx hb hr hlocks hH hS (z := z_58) rz_58 ⟨hO, hF, hM, by rw [show aF σ_s_57 (ad E a 1) = g_74 from ef_75, show aF σ_s_57 (ad E a 37) = g_76 from ef_77, show aF σ_s_57 (ad E a 61) = f61 from e_59, show aF σ_s_57 (ad E a 62) = f62 from e_60, show aF σ_s_57 (ad E a 39) = f39 from e_61, show aF σ_s_57 (ad E a 40) = f40 from e_62, show aF σ_s_57 (ad E a 42) = f42 from e_63, show aF σ_s_57 (ad E a 43) = f43 from e_64, show aF σ_s_57 (ad E a 44) = f44 from e_65, show aF σ_s_57 (ad E a 45) = f45 from e_66, show aF σ_s_57 (ad E a 46) = f46 from e_67]; exact ⟨hj.tree hw_56.1 (hw_56.2.le (by omega)) (by omega) (by omega), by omega⟩⟩ dX11_add_54
      · replace c_78 := (I_eq (a := z_58) (b := (-1)) rz_58 (show rng (-1) from ⟨by decide, by decide⟩)).mp c_78
        refine lv_aload_n hx hb dX11_add_45 rfl (lv_at hl 1 rfl) ?_
        refine lv_iconst (v := I 1) hx hb dX11_add_46 (by decide) ?_
        obtain ⟨z_79, e_80, rz_79, lz_79, uz_79⟩ := hO.gi h_a (by decide) k13_36
        obtain ⟨_, hc_81⟩ := hO.cell h_a (by decide) (ci := 11) rfl
        refine th_calli (va_runV (As := [.int (I 1)]) (rest := []) ⟨hx, hb, hml, hown, hts⟩ (m_refuse l G y b0 σ_s_57 E hO a h_a 1 (show rng 1 from (show rng 1 from ⟨by decide, by decide⟩)) (by omega) (by omega)) (cwV 1 hts gX11_add_X11_refuse rfl rfl rfl (by decide +kernel) ⟨Nat.le_of_ble_eq_true rfl, Nat.le_of_ble_eq_true rfl⟩) (th_PV hK hH rfl hc_81) rfl rfl hl.1 rfl (lv_room (Nat.le_of_ble_eq_true rfl)) dX11_add_47 ⟨Nat.le_of_ble_eq_true rfl, Nat.le_of_ble_eq_true rfl⟩) hS (fun z_84 σ_s_83 H locs rz_84 hw_82 hH hS => ?_)
        obtain ⟨hO9, hF9, hM9, hw_82⟩ := hw_82
        replace hM := hM.tu hM9 (by decide)
        replace hF := hF.tu hF9 (by decide)
        have e_85 : aF σ_s_83 (ad E a 61) = f61 := (hM9.a (by decide) (by decide)).trans e_59
        have e_86 : aF σ_s_83 (ad E a 62) = f62 := (hM9.a (by decide) (by decide)).trans e_60
        have e_87 : aF σ_s_83 (ad E a 39) = f39 := (hM9.a (by decide) (by decide)).trans e_61
        have e_88 : aF σ_s_83 (ad E a 40) = f40 := (hM9.a (by decide) (by decide)).trans e_62
        have e_89 : aF σ_s_83 (ad E a 42) = f42 := (hM9.a (by decide) (by decide)).trans e_63
        have e_90 : aF σ_s_83 (ad E a 43) = f43 := (hM9.a (by decide) (by decide)).trans e_64
        have e_91 : aF σ_s_83 (ad E a 44) = f44 := (hM9.a (by decide) (by decide)).trans e_65
        have e_92 : aF σ_s_83 (ad E a 45) = f45 := (hM9.a (by decide) (by decide)).trans e_66
        have e_93 : aF σ_s_83 (ad E a 46) = f46 := (hM9.a (by decide) (by decide)).trans e_67
        have e_94 : aF σ_s_83 (ad E a 2) = f2 := (hM9.a (by decide) (by decide)).trans e_68
        have e_95 : aF σ_s_83 (ad E a 8) = f8 := (hM9.a (by decide) (by decide)).trans e_69
        have e_96 : gI σ_s_83 a 58 = a580 := (hM9.i (by decide)).trans e_70
        have e_97 : gI σ_s_83 a 59 = a590 := (hM9.i (by decide)).trans e_71
        have e_98 : gI σ_s_83 a 12 = a120 := (hM9.i (by decide)).trans e_72
        have e_99 : gI σ_s_83 a 0 = 0 := (hM9.i (by decide)).trans e_73
        have e_100 : aF σ_s_83 (ad E a 1) = g_74 := (hM9.a (by decide) (by decide)).trans ef_75
        have e_101 : aF σ_s_83 (ad E a 37) = g_76 := (hM9.a (by decide) (by decide)).trans ef_77
        have e_102 : gI σ_s_83 a 36 = z_79 := (hM9.i (by decide)).trans e_80
        replace hO := hO9
        have hw_82 : z_84 = -1 := hw_82
        refine lv_goto (tgt := 54) hx hb dX11_add_50 (by decide) ?_
        exact th_iret hx hb hr hlocks hH hS (z := z_84) rz_84 ⟨hO, hF, hM, by rw [show aF σ_s_83 (ad E a 1) = g_74 from e_100, show aF σ_s_83 (ad E a 37) = g_76 from e_101, show aF σ_s_83 (ad E a 61) = f61 from e_85, show aF σ_s_83 (ad E a 62) = f62 from e_86, show aF σ_s_83 (ad E a 39) = f39 from e_87, show aF σ_s_83 (ad E a 40) = f40 from e_88, show aF σ_s_83 (ad E a 42) = f42 from e_89, show aF σ_s_83 (ad E a 43) = f43 from e_90, show aF σ_s_83 (ad E a 44) = f44 from e_91, show aF σ_s_83 (ad E a 45) = f45 from e_92, show aF σ_s_83 (ad E a 46) = f46 from e_93]; exact ⟨hj.tree hw_56.1 (hw_56.2.le (by omega)) (by omega) (by omega), by omega⟩⟩ dX11_add_54
    · replace c_54 := (I_eq (a := z_53) (b := 0) rz_53 (show rng 0 from ⟨by decide, by decide⟩)).mp c_54
      refine lv_aload_n hx hb dX11_add_26 rfl (lv_at hl 0 rfl) ?_
      refine lv_iconst (v := I 1) hx hb dX11_add_27 (by decide) ?_
      obtain ⟨_, hc_103⟩ := hO.cell h_a (by decide) (ci := 11) rfl
      refine th_calli (va_runV (As := [.int (I 1)]) (rest := []) ⟨hx, hb, hml, hown, hts⟩ (m_refuse l G y b0 σ_s_1 E hO a h_a 1 (show rng 1 from (show rng 1 from ⟨by decide, by decide⟩)) (by omega) (by omega)) (cwV 1 hts gX11_add_X11_refuse rfl rfl rfl (by decide +kernel) ⟨Nat.le_of_ble_eq_true rfl, Nat.le_of_ble_eq_true rfl⟩) (th_PV hK hH rfl hc_103) rfl rfl hl.1 rfl (lv_room (Nat.le_of_ble_eq_true rfl)) dX11_add_28 ⟨Nat.le_of_ble_eq_true rfl, Nat.le_of_ble_eq_true rfl⟩) hS (fun z_106 σ_s_105 H locs rz_106 hw_104 hH hS => ?_)
      obtain ⟨hO9, hF9, hM9, hw_104⟩ := hw_104
      replace hM := hM.tu hM9 (by decide)
      replace hF := hF.tu hF9 (by decide)
      have e_107 : aF σ_s_105 (ad E a 1) = f1 := (hM9.a (by decide) (by decide)).trans e_2
      have e_108 : aF σ_s_105 (ad E a 37) = f37 := (hM9.a (by decide) (by decide)).trans e_3
      have e_109 : aF σ_s_105 (ad E a 61) = f61 := (hM9.a (by decide) (by decide)).trans e_4
      have e_110 : aF σ_s_105 (ad E a 62) = f62 := (hM9.a (by decide) (by decide)).trans e_5
      have e_111 : aF σ_s_105 (ad E a 39) = f39 := (hM9.a (by decide) (by decide)).trans e_6
      have e_112 : aF σ_s_105 (ad E a 40) = f40 := (hM9.a (by decide) (by decide)).trans e_7
      have e_113 : aF σ_s_105 (ad E a 42) = f42 := (hM9.a (by decide) (by decide)).trans e_8
      have e_114 : aF σ_s_105 (ad E a 43) = f43 := (hM9.a (by decide) (by decide)).trans e_9
      have e_115 : aF σ_s_105 (ad E a 44) = f44 := (hM9.a (by decide) (by decide)).trans e_10
      have e_116 : aF σ_s_105 (ad E a 45) = f45 := (hM9.a (by decide) (by decide)).trans e_11
      have e_117 : aF σ_s_105 (ad E a 46) = f46 := (hM9.a (by decide) (by decide)).trans e_12
      have e_118 : aF σ_s_105 (ad E a 2) = f2 := (hM9.a (by decide) (by decide)).trans e_13
      have e_119 : aF σ_s_105 (ad E a 3) = f3 := (hM9.a (by decide) (by decide)).trans e_14
      have e_120 : aF σ_s_105 (ad E a 8) = f8 := (hM9.a (by decide) (by decide)).trans e_15
      have e_121 : aF σ_s_105 (ad E a 35) = f35 := (hM9.a (by decide) (by decide)).trans e_16
      have e_122 : gI σ_s_105 a 36 = a360 := (hM9.i (by decide)).trans e_17
      have e_123 : gI σ_s_105 a 58 = a580 := (hM9.i (by decide)).trans e_18
      have e_124 : gI σ_s_105 a 59 = a590 := (hM9.i (by decide)).trans e_19
      have e_125 : gI σ_s_105 a 12 = a120 := (hM9.i (by decide)).trans e_20
      have e_126 : gI σ_s_105 a 0 = 0 := (hM9.i (by decide)).trans e_21
      replace hO := hO9
      have hw_104 : z_106 = -1 := hw_104
      exact th_iret hx hb hr hlocks hH hS (z := z_106) rz_106 ⟨hO, hF, hM, by rw [show aF σ_s_105 (ad E a 1) = f1 from e_107, show aF σ_s_105 (ad E a 37) = f37 from e_108, show aF σ_s_105 (ad E a 61) = f61 from e_109, show aF σ_s_105 (ad E a 62) = f62 from e_110, show aF σ_s_105 (ad E a 39) = f39 from e_111, show aF σ_s_105 (ad E a 40) = f40 from e_112, show aF σ_s_105 (ad E a 42) = f42 from e_113, show aF σ_s_105 (ad E a 43) = f43 from e_114, show aF σ_s_105 (ad E a 44) = f44 from e_115, show aF σ_s_105 (ad E a 45) = f45 from e_116, show aF σ_s_105 (ad E a 46) = f46 from e_117]; exact ⟨hj.n (by omega) (by omega) (by omega), by omega⟩⟩ dX11_add_31

set_option maxHeartbeats 4000000 in
set_option maxRecDepth 100000 in
theorem j_change (l : Launch) (G : va_G) (y : Nat → ClassId) (b0 : Nat) (σ : th_M) (E : th_E) (hO : ok y E σ) (a : Nat) (h_a : kd E a = 13) (slot : Int) (rslot : rng slot) (wh : Int) (rwh : rng wh) (f1 : Nat → Int32) (ef1 : aF σ (ad E a 1) = f1) (f37 : Nat → Int32) (ef37 : aF σ (ad E a 37) = f37) (f61 : Nat → Int32) (ef61 : aF σ (ad E a 61) = f61) (f62 : Nat → Int32) (ef62 : aF σ (ad E a 62) = f62) (f39 : Nat → Int32) (ef39 : aF σ (ad E a 39) = f39) (f40 : Nat → Int32) (ef40 : aF σ (ad E a 40) = f40) (f42 : Nat → Int32) (ef42 : aF σ (ad E a 42) = f42) (f43 : Nat → Int32) (ef43 : aF σ (ad E a 43) = f43) (f44 : Nat → Int32) (ef44 : aF σ (ad E a 44) = f44) (f45 : Nat → Int32) (ef45 : aF σ (ad E a 45) = f45) (f46 : Nat → Int32) (ef46 : aF σ (ad E a 46) = f46) (f2 : Nat → Int32) (ef2 : aF σ (ad E a 2) = f2) (f3 : Nat → Int32) (ef3 : aF σ (ad E a 3) = f3) (f8 : Nat → Int32) (ef8 : aF σ (ad E a 8) = f8) (f35 : Nat → Int32) (ef35 : aF σ (ad E a 35) = f35) (hy0 : jw f1 f37 f61 f62 f39 f40 f42 f43 f44 f45 f46 (gI σ a 36) (gI σ a 58) (gI σ a 59)) : Met l yX11_change wsX11_change ({ frames := 52, cells := 0, slots := 0, locals := 1742 }) (th_P G y b0 σ [.ref a, .int (I slot), .int (I wh)]) (th_Qi G b0 (fun r σ1 => ok y E σ1 ∧ fr [13] E σ σ1 ∧ fm [0, 1, 3, 4, 5, 9, 10, 11, 13, 14, 15, 16, 17, 18, 19, 20, 23, 24, 25, 26, 27, 28, 29, 30, 32, 34, 35, 36, 37] E σ σ1 a ∧ (jw (aF σ1 (ad E a 1)) (aF σ1 (ad E a 37)) (aF σ1 (ad E a 61)) (aF σ1 (ad E a 62)) (aF σ1 (ad E a 39)) (aF σ1 (ad E a 40)) (aF σ1 (ad E a 42)) (aF σ1 (ad E a 43)) (aF σ1 (ad E a 44)) (aF σ1 (ad E a 45)) (aF σ1 (ad E a 46)) (gI σ1 a 36) (gI σ1 a 58) (gI σ1 a 59) ∧ gI σ1 a 12 = gI σ a 12))) 0 0 (th_A b0) := by
  refine Met.ofW (cc := cX11_change) (maxL := 4) (ret := (some .int)) (by decide) rfl ?_
  intro p e s m args below meth c s₁ B hml hv
  obtain ⟨rfl, hH, hK⟩ := hv
  have hx := B.exec
  have hb := B.bytes
  have hr := B.returns
  have hts := atoms_spec (ws := wsX11_change) B.pre
  have hown : s.vm.findClass RX11 = some m.cls := findClass_of_methodNamed B.named
  have hlocks := B.notSynchronized
  have h00 : b0 ≤ s.heap.size := hH.1
  have hS : va_S (th_A b0) s.heap s.heap [] := va_S.rf
  have hF : fr [13] E σ σ := fr.rf
  have hM : fm [0, 1, 3, 4, 5, 9, 10, 11, 13, 14, 15, 16, 17, 18, 19, 20, 23, 24, 25, 26, 27, 28, 29, 30, 32, 34, 35, 36, 37] E σ σ a := fm.rf
  have hj := hy0
  have hw1 := hj.1.1.1
  have hm1 := hj.1.2.1
  have hm2 := hj.1.2.2.1
  have hm3 := hj.2.2.2.2.1
  have hm4 := hj.2.2.2.2.2.1
  have inX11 : ∀ w ∈ wsX110, w ∈ wsX11_change := by decide +kernel
  have fl0 := hts (.fieldLink RX11 111 "NestQueryModel" "code" "I") (by decide +kernel)
  have hl := lv_entry ([.ref a, .int (I slot), .int (I wh)]) (n := 4) (Nat.le_of_ble_eq_true rfl)
  rw [lg_entry_eq]
  generalize (lg_sl ([.ref a, .int (I slot), .int (I wh)]) ++ List.replicate (4 - (lg_sl ([.ref a, .int (I slot), .int (I wh)])).length) Slot.unset).toArray = ls at hl ⊢
  have hl : lv_has ls 4 [(0, .ref a), (1, .int (I slot)), (2, .int (I wh))] := hl
  obtain ⟨a360, ea360, ra360, la360, ua360⟩ := hO.gi h_a (by decide) k13_36
  obtain ⟨a580, ea580, ra580, la580, ua580⟩ := hO.gi h_a (by decide) k13_58
  obtain ⟨a590, ea590, ra590, la590, ua590⟩ := hO.gi h_a (by decide) k13_59
  obtain ⟨a120, ea120, ra120, la120, ua120⟩ := hO.gi h_a (by decide) k13_12
  refine lv_aload_n hx hb dX11_change_0 rfl (lv_at hl 0 rfl) ?_
  refine lv_iconst (v := I 0) hx hb dX11_change_1 (by decide) ?_
  refine ok.putJ hO h_a k13_0 (show rng 0 from ⟨by decide, by decide⟩) (by omega) (by omega) (fun _ he hl9 kk => th_put (ci := 11) (v := .int (I 0)) (ty := .int) (C := RX11) (T := TX11) (N := 66) hx hb hts inX11 tyX11 tyX11_ok nmX11 hown hK hH hS h00 he rfl 0 (by decide) fl0 rfl (by decide +kernel) rfl rfl hl9 dX11_change_2 kk) (fun σ_s_1 H locs hO hF9 hM9 hg9 ha9 hH hS => ?_)
  replace hM := hM.tu hM9 (by decide)
  replace hF := hF.tu hF9 (by decide)
  have e_2 : aF σ_s_1 (ad E a 1) = f1 := (hM9.a (by decide) (by decide)).trans ef1
  have e_3 : aF σ_s_1 (ad E a 37) = f37 := (hM9.a (by decide) (by decide)).trans ef37
  have e_4 : aF σ_s_1 (ad E a 61) = f61 := (hM9.a (by decide) (by decide)).trans ef61
  have e_5 : aF σ_s_1 (ad E a 62) = f62 := (hM9.a (by decide) (by decide)).trans ef62
  have e_6 : aF σ_s_1 (ad E a 39) = f39 := (hM9.a (by decide) (by decide)).trans ef39
  have e_7 : aF σ_s_1 (ad E a 40) = f40 := (hM9.a (by decide) (by decide)).trans ef40
  have e_8 : aF σ_s_1 (ad E a 42) = f42 := (hM9.a (by decide) (by decide)).trans ef42
  have e_9 : aF σ_s_1 (ad E a 43) = f43 := (hM9.a (by decide) (by decide)).trans ef43
  have e_10 : aF σ_s_1 (ad E a 44) = f44 := (hM9.a (by decide) (by decide)).trans ef44
  have e_11 : aF σ_s_1 (ad E a 45) = f45 := (hM9.a (by decide) (by decide)).trans ef45
  have e_12 : aF σ_s_1 (ad E a 46) = f46 := (hM9.a (by decide) (by decide)).trans ef46
  have e_13 : aF σ_s_1 (ad E a 2) = f2 := (hM9.a (by decide) (by decide)).trans ef2
  have e_14 : aF σ_s_1 (ad E a 3) = f3 := (hM9.a (by decide) (by decide)).trans ef3
  have e_15 : aF σ_s_1 (ad E a 8) = f8 := (hM9.a (by decide) (by decide)).trans ef8
  have e_16 : aF σ_s_1 (ad E a 35) = f35 := (hM9.a (by decide) (by decide)).trans ef35
  have e_17 : gI σ_s_1 a 36 = a360 := (hM9.i (by decide)).trans ea360
  have e_18 : gI σ_s_1 a 58 = a580 := (hM9.i (by decide)).trans ea580
  have e_19 : gI σ_s_1 a 59 = a590 := (hM9.i (by decide)).trans ea590
  have e_20 : gI σ_s_1 a 12 = a120 := (hM9.i (by decide)).trans ea120
  have e_21 := hg9
  refine lv_aload_n hx hb dX11_change_5 rfl (lv_at hl 0 rfl) ?_
  refine lv_iload_n hx hb dX11_change_6 rfl (lv_at hl 1 rfl) ?_
  obtain ⟨_, hc_22⟩ := hO.cell h_a (by decide) (ci := 11) rfl
  refine th_calli (va_runV (As := [.int (I slot)]) (rest := []) ⟨hx, hb, hml, hown, hts⟩ (m_isPath l G y b0 σ_s_1 E hO a h_a slot (show rng slot from rslot) f8 e_15) (cwV 1 hts gX11_change_X11_isPath rfl rfl rfl (by decide +kernel) ⟨Nat.le_of_ble_eq_true rfl, Nat.le_of_ble_eq_true rfl⟩) (th_PV hK hH rfl hc_22) rfl rfl hl.1 rfl (lv_room (Nat.le_of_ble_eq_true rfl)) dX11_change_7 ⟨Nat.le_of_ble_eq_true rfl, Nat.le_of_ble_eq_true rfl⟩) hS (fun z_25 σ_s_24 H locs rz_25 hw_23 hH hS => ?_)
  obtain ⟨e9, bhw_23, hw_23⟩ := hw_23
  replace e9 := e9.symm
  subst e9
  have hw_23 : (z_25 = 1 ∧ 0 ≤ slot ∧ slot ≤ 3 ∧ 1 ≤ (f8 slot.toNat).toInt) ∨ z_25 = 0 := hw_23
  refine lv_if_eq (tgt := 22) hx hb dX11_change_10 (by decide) (fun c_26 => ?_) (fun c_26 => ?_)
  · replace c_26 := (I_eq (a := z_25) (b := 0) rz_25 (show rng 0 from ⟨by decide, by decide⟩)).mp c_26
    refine lv_aload_n hx hb dX11_change_22 rfl (lv_at hl 0 rfl) ?_
    refine lv_iconst (v := I 1) hx hb dX11_change_23 (by decide) ?_
    obtain ⟨_, hc_27⟩ := hO.cell h_a (by decide) (ci := 11) rfl
    refine th_calli (va_runV (As := [.int (I 1)]) (rest := []) ⟨hx, hb, hml, hown, hts⟩ (m_refuse l G y b0 σ_s_1 E hO a h_a 1 (show rng 1 from (show rng 1 from ⟨by decide, by decide⟩)) (by omega) (by omega)) (cwV 1 hts gX11_change_X11_refuse rfl rfl rfl (by decide +kernel) ⟨Nat.le_of_ble_eq_true rfl, Nat.le_of_ble_eq_true rfl⟩) (th_PV hK hH rfl hc_27) rfl rfl hl.1 rfl (lv_room (Nat.le_of_ble_eq_true rfl)) dX11_change_24 ⟨Nat.le_of_ble_eq_true rfl, Nat.le_of_ble_eq_true rfl⟩) hS (fun z_30 σ_s_29 H locs rz_30 hw_28 hH hS => ?_)
    obtain ⟨hO9, hF9, hM9, hw_28⟩ := hw_28
    replace hM := hM.tu hM9 (by decide)
    replace hF := hF.tu hF9 (by decide)
    have e_31 : aF σ_s_29 (ad E a 1) = f1 := (hM9.a (by decide) (by decide)).trans e_2
    have e_32 : aF σ_s_29 (ad E a 37) = f37 := (hM9.a (by decide) (by decide)).trans e_3
    have e_33 : aF σ_s_29 (ad E a 61) = f61 := (hM9.a (by decide) (by decide)).trans e_4
    have e_34 : aF σ_s_29 (ad E a 62) = f62 := (hM9.a (by decide) (by decide)).trans e_5
    have e_35 : aF σ_s_29 (ad E a 39) = f39 := (hM9.a (by decide) (by decide)).trans e_6
    have e_36 : aF σ_s_29 (ad E a 40) = f40 := (hM9.a (by decide) (by decide)).trans e_7
    have e_37 : aF σ_s_29 (ad E a 42) = f42 := (hM9.a (by decide) (by decide)).trans e_8
    have e_38 : aF σ_s_29 (ad E a 43) = f43 := (hM9.a (by decide) (by decide)).trans e_9
    have e_39 : aF σ_s_29 (ad E a 44) = f44 := (hM9.a (by decide) (by decide)).trans e_10
    have e_40 : aF σ_s_29 (ad E a 45) = f45 := (hM9.a (by decide) (by decide)).trans e_11
    have e_41 : aF σ_s_29 (ad E a 46) = f46 := (hM9.a (by decide) (by decide)).trans e_12
    have e_42 : aF σ_s_29 (ad E a 2) = f2 := (hM9.a (by decide) (by decide)).trans e_13
    have e_43 : aF σ_s_29 (ad E a 3) = f3 := (hM9.a (by decide) (by decide)).trans e_14
    have e_44 : aF σ_s_29 (ad E a 8) = f8 := (hM9.a (by decide) (by decide)).trans e_15
    have e_45 : aF σ_s_29 (ad E a 35) = f35 := (hM9.a (by decide) (by decide)).trans e_16
    have e_46 : gI σ_s_29 a 36 = a360 := (hM9.i (by decide)).trans e_17
    have e_47 : gI σ_s_29 a 58 = a580 := (hM9.i (by decide)).trans e_18
    have e_48 : gI σ_s_29 a 59 = a590 := (hM9.i (by decide)).trans e_19
    have e_49 : gI σ_s_29 a 12 = a120 := (hM9.i (by decide)).trans e_20
    have e_50 : gI σ_s_29 a 0 = 0 := (hM9.i (by decide)).trans e_21
    replace hO := hO9
    have hw_28 : z_30 = -1 := hw_28
    exact th_iret hx hb hr hlocks hH hS (z := z_30) rz_30 ⟨hO, hF, hM, by rw [show aF σ_s_29 (ad E a 1) = f1 from e_31, show aF σ_s_29 (ad E a 37) = f37 from e_32, show aF σ_s_29 (ad E a 61) = f61 from e_33, show aF σ_s_29 (ad E a 62) = f62 from e_34, show aF σ_s_29 (ad E a 39) = f39 from e_35, show aF σ_s_29 (ad E a 40) = f40 from e_36, show aF σ_s_29 (ad E a 42) = f42 from e_37, show aF σ_s_29 (ad E a 43) = f43 from e_38, show aF σ_s_29 (ad E a 44) = f44 from e_39, show aF σ_s_29 (ad E a 45) = f45 from e_40, show aF σ_s_29 (ad E a 46) = f46 from e_41]; exact ⟨hj.n (by omega) (by omega) (by omega), by omega⟩⟩ dX11_change_27
  · replace c_26 := mt (I_eq (a := z_25) (b := 0) rz_25 (show rng 0 from ⟨by decide, by decide⟩)).mpr c_26
    refine lv_iload_n hx hb dX11_change_13 rfl (lv_at hl 2 rfl) ?_
    refine lv_iconst (v := I 0) hx hb dX11_change_14 (by decide) ?_
    refine lv_iconst (v := I 2) hx hb dX11_change_15 (by decide) ?_
    refine th_calli (va_runS (As := [.int (I wh), .int (I 0), .int (I 2)]) (rest := []) ⟨hx, hb, hml, hown, hts⟩ (w_isIn l G y b0 σ_s_1 E hO wh (show rng wh from rwh) 0 (show rng 0 from (show rng 0 from ⟨by decide, by decide⟩)) 2 (show rng 2 from (show rng 2 from ⟨by decide, by decide⟩))) (va_cwS 3 hts gX11_change_X11_isIn rfl rfl rfl (by decide +kernel) ⟨Nat.le_of_ble_eq_true rfl, Nat.le_of_ble_eq_true rfl⟩) (th_PS hK hH) rfl rfl hl.1 rfl (lv_room (Nat.le_of_ble_eq_true rfl)) dX11_change_16 ⟨Nat.le_of_ble_eq_true rfl, Nat.le_of_ble_eq_true rfl⟩) hS (fun z_53 σ_s_52 H locs rz_53 hw_51 hH hS => ?_)
    obtain ⟨e9, bhw_51, hw_51⟩ := hw_51
    replace e9 := e9.symm
    subst e9
    have hw_51 : (z_53 = 1 ∧ 0 ≤ wh ∧ wh ≤ 2) ∨ (z_53 = 0 ∧ ¬ (0 ≤ wh ∧ wh ≤ 2)) := hw_51
    refine lv_if_ne (tgt := 28) hx hb dX11_change_19 (by decide) (fun c_54 => ?_) (fun c_54 => ?_)
    · replace c_54 := mt (I_eq (a := z_53) (b := 0) rz_53 (show rng 0 from ⟨by decide, by decide⟩)).mpr c_54
      refine lv_aload_n hx hb dX11_change_28 rfl (lv_at hl 0 rfl) ?_
      refine lv_iload_n hx hb dX11_change_29 rfl (lv_at hl 1 rfl) ?_
      refine lv_iconst (v := I 4) hx hb dX11_change_30 (by decide) ?_
      refine lv_iload_n hx hb dX11_change_31 rfl (lv_at hl 2 rfl) ?_
      refine lv_iadd hx hb dX11_change_32 ?_
      refine nq_top (I_add _ _) ?_
      refine lv_iconst (v := I 0) hx hb dX11_change_33 (by decide) ?_
      obtain ⟨_, hc_55⟩ := hO.cell h_a (by decide) (ci := 11) rfl
      refine th_calli (va_runV (As := [.int (I slot), .int (I (4 + wh)), .int (I 0)]) (rest := []) ⟨hx, hb, hml, hown, hts⟩ (m_changes l G y b0 σ_s_1 E hO a h_a slot (show rng slot from rslot) (by omega) (by omega) (4 + wh) (show rng (4 + wh) from ⟨by omega, by omega⟩) (by omega) (by omega) 0 (show rng 0 from (show rng 0 from ⟨by decide, by decide⟩)) f1 e_2 f2 e_13 f3 e_14 f8 e_15 f35 e_16 f37 e_3 (hw1) (by omega) (hj.1) ((hj.2.1.le (by omega))) ((by omega)) ((fun h9 => by omega))) (cwV 3 hts gX11_change_X11_changes rfl rfl rfl (by decide +kernel) ⟨Nat.le_of_ble_eq_true rfl, Nat.le_of_ble_eq_true rfl⟩) (th_PV hK hH rfl hc_55) rfl rfl hl.1 rfl (lv_room (Nat.le_of_ble_eq_true rfl)) dX11_change_34 ⟨Nat.le_of_ble_eq_true rfl, Nat.le_of_ble_eq_true rfl⟩) hS (fun z_58 σ_s_57 H locs rz_58 hw_56 hH hS => ?_)
      obtain ⟨hO9, hF9, hM9, hw_56⟩ := hw_56
      replace hM := hM.tu hM9 (by decide)
      replace hF := hF.tu hF9 (by decide)
      have e_59 : aF σ_s_57 (ad E a 61) = f61 := (hM9.a (by decide) (by decide)).trans e_4
      have e_60 : aF σ_s_57 (ad E a 62) = f62 := (hM9.a (by decide) (by decide)).trans e_5
      have e_61 : aF σ_s_57 (ad E a 39) = f39 := (hM9.a (by decide) (by decide)).trans e_6
      have e_62 : aF σ_s_57 (ad E a 40) = f40 := (hM9.a (by decide) (by decide)).trans e_7
      have e_63 : aF σ_s_57 (ad E a 42) = f42 := (hM9.a (by decide) (by decide)).trans e_8
      have e_64 : aF σ_s_57 (ad E a 43) = f43 := (hM9.a (by decide) (by decide)).trans e_9
      have e_65 : aF σ_s_57 (ad E a 44) = f44 := (hM9.a (by decide) (by decide)).trans e_10
      have e_66 : aF σ_s_57 (ad E a 45) = f45 := (hM9.a (by decide) (by decide)).trans e_11
      have e_67 : aF σ_s_57 (ad E a 46) = f46 := (hM9.a (by decide) (by decide)).trans e_12
      have e_68 : aF σ_s_57 (ad E a 2) = f2 := (hM9.a (by decide) (by decide)).trans e_13
      have e_69 : aF σ_s_57 (ad E a 8) = f8 := (hM9.a (by decide) (by decide)).trans e_15
      have e_70 : gI σ_s_57 a 58 = a580 := (hM9.i (by decide)).trans e_18
      have e_71 : gI σ_s_57 a 59 = a590 := (hM9.i (by decide)).trans e_19
      have e_72 : gI σ_s_57 a 12 = a120 := (hM9.i (by decide)).trans e_20
      have e_73 : gI σ_s_57 a 0 = 0 := (hM9.i (by decide)).trans e_21
      replace hO := hO9
      generalize ef_75 : aF σ_s_57 (ad E a 1) = g_74 at hw_56
      generalize ef_77 : aF σ_s_57 (ad E a 37) = g_76 at hw_56
      have hw_56 : tr g_74 ∧ trs g_76 (gI σ_s_57 a 36) := hw_56
      refine lv_istore_n (lv' := [(3, .int (I z_58)), (0, .ref a), (1, .int (I slot)), (2, .int (I wh))]) hx hb dX11_change_37 rfl hl (by decide) rfl (fun ls hl => ?_)
      refine lv_iload_n hx hb dX11_change_38 rfl (lv_at hl 0 rfl) ?_
      refine lv_iconst (v := I (-1)) hx hb dX11_change_39 (by decide) ?_
      refine lv_icmp_ne (tgt := 51) hx hb dX11_change_40 (by decide) (fun c_78 => ?_) (fun c_78 => ?_)
      · replace c_78 := mt (I_eq (a := z_58) (b := (-1)) rz_58 (show rng (-1) from ⟨by decide, by decide⟩)).mpr c_78
        refine lv_iload_n hx hb dX11_change_51 rfl (lv_at hl 0 rfl) ?_
        exact th_iret hx hb hr hlocks hH hS (z := z_58) rz_58 ⟨hO, hF, hM, by rw [show aF σ_s_57 (ad E a 1) = g_74 from ef_75, show aF σ_s_57 (ad E a 37) = g_76 from ef_77, show aF σ_s_57 (ad E a 61) = f61 from e_59, show aF σ_s_57 (ad E a 62) = f62 from e_60, show aF σ_s_57 (ad E a 39) = f39 from e_61, show aF σ_s_57 (ad E a 40) = f40 from e_62, show aF σ_s_57 (ad E a 42) = f42 from e_63, show aF σ_s_57 (ad E a 43) = f43 from e_64, show aF σ_s_57 (ad E a 44) = f44 from e_65, show aF σ_s_57 (ad E a 45) = f45 from e_66, show aF σ_s_57 (ad E a 46) = f46 from e_67]; exact ⟨hj.tree hw_56.1 (hw_56.2.le (by omega)) (by omega) (by omega), by omega⟩⟩ dX11_change_52
      · replace c_78 := (I_eq (a := z_58) (b := (-1)) rz_58 (show rng (-1) from ⟨by decide, by decide⟩)).mp c_78
        refine lv_aload_n hx hb dX11_change_43 rfl (lv_at hl 1 rfl) ?_
        refine lv_iconst (v := I 1) hx hb dX11_change_44 (by decide) ?_
        obtain ⟨z_79, e_80, rz_79, lz_79, uz_79⟩ := hO.gi h_a (by decide) k13_36
        obtain ⟨_, hc_81⟩ := hO.cell h_a (by decide) (ci := 11) rfl
        refine th_calli (va_runV (As := [.int (I 1)]) (rest := []) ⟨hx, hb, hml, hown, hts⟩ (m_refuse l G y b0 σ_s_57 E hO a h_a 1 (show rng 1 from (show rng 1 from ⟨by decide, by decide⟩)) (by omega) (by omega)) (cwV 1 hts gX11_change_X11_refuse rfl rfl rfl (by decide +kernel) ⟨Nat.le_of_ble_eq_true rfl, Nat.le_of_ble_eq_true rfl⟩) (th_PV hK hH rfl hc_81) rfl rfl hl.1 rfl (lv_room (Nat.le_of_ble_eq_true rfl)) dX11_change_45 ⟨Nat.le_of_ble_eq_true rfl, Nat.le_of_ble_eq_true rfl⟩) hS (fun z_84 σ_s_83 H locs rz_84 hw_82 hH hS => ?_)
        obtain ⟨hO9, hF9, hM9, hw_82⟩ := hw_82
        replace hM := hM.tu hM9 (by decide)
        replace hF := hF.tu hF9 (by decide)
        have e_85 : aF σ_s_83 (ad E a 61) = f61 := (hM9.a (by decide) (by decide)).trans e_59
        have e_86 : aF σ_s_83 (ad E a 62) = f62 := (hM9.a (by decide) (by decide)).trans e_60
        have e_87 : aF σ_s_83 (ad E a 39) = f39 := (hM9.a (by decide) (by decide)).trans e_61
        have e_88 : aF σ_s_83 (ad E a 40) = f40 := (hM9.a (by decide) (by decide)).trans e_62
        have e_89 : aF σ_s_83 (ad E a 42) = f42 := (hM9.a (by decide) (by decide)).trans e_63
        have e_90 : aF σ_s_83 (ad E a 43) = f43 := (hM9.a (by decide) (by decide)).trans e_64
        have e_91 : aF σ_s_83 (ad E a 44) = f44 := (hM9.a (by decide) (by decide)).trans e_65
        have e_92 : aF σ_s_83 (ad E a 45) = f45 := (hM9.a (by decide) (by decide)).trans e_66
        have e_93 : aF σ_s_83 (ad E a 46) = f46 := (hM9.a (by decide) (by decide)).trans e_67
        have e_94 : aF σ_s_83 (ad E a 2) = f2 := (hM9.a (by decide) (by decide)).trans e_68
        have e_95 : aF σ_s_83 (ad E a 8) = f8 := (hM9.a (by decide) (by decide)).trans e_69
        have e_96 : gI σ_s_83 a 58 = a580 := (hM9.i (by decide)).trans e_70
        have e_97 : gI σ_s_83 a 59 = a590 := (hM9.i (by decide)).trans e_71
        have e_98 : gI σ_s_83 a 12 = a120 := (hM9.i (by decide)).trans e_72
        have e_99 : gI σ_s_83 a 0 = 0 := (hM9.i (by decide)).trans e_73
        have e_100 : aF σ_s_83 (ad E a 1) = g_74 := (hM9.a (by decide) (by decide)).trans ef_75
        have e_101 : aF σ_s_83 (ad E a 37) = g_76 := (hM9.a (by decide) (by decide)).trans ef_77
        have e_102 : gI σ_s_83 a 36 = z_79 := (hM9.i (by decide)).trans e_80
        replace hO := hO9
        have hw_82 : z_84 = -1 := hw_82
        refine lv_goto (tgt := 52) hx hb dX11_change_48 (by decide) ?_
        exact th_iret hx hb hr hlocks hH hS (z := z_84) rz_84 ⟨hO, hF, hM, by rw [show aF σ_s_83 (ad E a 1) = g_74 from e_100, show aF σ_s_83 (ad E a 37) = g_76 from e_101, show aF σ_s_83 (ad E a 61) = f61 from e_85, show aF σ_s_83 (ad E a 62) = f62 from e_86, show aF σ_s_83 (ad E a 39) = f39 from e_87, show aF σ_s_83 (ad E a 40) = f40 from e_88, show aF σ_s_83 (ad E a 42) = f42 from e_89, show aF σ_s_83 (ad E a 43) = f43 from e_90, show aF σ_s_83 (ad E a 44) = f44 from e_91, show aF σ_s_83 (ad E a 45) = f45 from e_92, show aF σ_s_83 (ad E a 46) = f46 from e_93]; exact ⟨hj.tree hw_56.1 (hw_56.2.le (by omega)) (by omega) (by omega), by omega⟩⟩ dX11_change_52
    · replace c_54 := (I_eq (a := z_53) (b := 0) rz_53 (show rng 0 from ⟨by decide, by decide⟩)).mp c_54
      refine lv_aload_n hx hb dX11_change_22 rfl (lv_at hl 0 rfl) ?_
      refine lv_iconst (v := I 1) hx hb dX11_change_23 (by decide) ?_
      obtain ⟨_, hc_103⟩ := hO.cell h_a (by decide) (ci := 11) rfl
      refine th_calli (va_runV (As := [.int (I 1)]) (rest := []) ⟨hx, hb, hml, hown, hts⟩ (m_refuse l G y b0 σ_s_1 E hO a h_a 1 (show rng 1 from (show rng 1 from ⟨by decide, by decide⟩)) (by omega) (by omega)) (cwV 1 hts gX11_change_X11_refuse rfl rfl rfl (by decide +kernel) ⟨Nat.le_of_ble_eq_true rfl, Nat.le_of_ble_eq_true rfl⟩) (th_PV hK hH rfl hc_103) rfl rfl hl.1 rfl (lv_room (Nat.le_of_ble_eq_true rfl)) dX11_change_24 ⟨Nat.le_of_ble_eq_true rfl, Nat.le_of_ble_eq_true rfl⟩) hS (fun z_106 σ_s_105 H locs rz_106 hw_104 hH hS => ?_)
      obtain ⟨hO9, hF9, hM9, hw_104⟩ := hw_104
      replace hM := hM.tu hM9 (by decide)
      replace hF := hF.tu hF9 (by decide)
      have e_107 : aF σ_s_105 (ad E a 1) = f1 := (hM9.a (by decide) (by decide)).trans e_2
      have e_108 : aF σ_s_105 (ad E a 37) = f37 := (hM9.a (by decide) (by decide)).trans e_3
      have e_109 : aF σ_s_105 (ad E a 61) = f61 := (hM9.a (by decide) (by decide)).trans e_4
      have e_110 : aF σ_s_105 (ad E a 62) = f62 := (hM9.a (by decide) (by decide)).trans e_5
      have e_111 : aF σ_s_105 (ad E a 39) = f39 := (hM9.a (by decide) (by decide)).trans e_6
      have e_112 : aF σ_s_105 (ad E a 40) = f40 := (hM9.a (by decide) (by decide)).trans e_7
      have e_113 : aF σ_s_105 (ad E a 42) = f42 := (hM9.a (by decide) (by decide)).trans e_8
      have e_114 : aF σ_s_105 (ad E a 43) = f43 := (hM9.a (by decide) (by decide)).trans e_9
      have e_115 : aF σ_s_105 (ad E a 44) = f44 := (hM9.a (by decide) (by decide)).trans e_10
      have e_116 : aF σ_s_105 (ad E a 45) = f45 := (hM9.a (by decide) (by decide)).trans e_11
      have e_117 : aF σ_s_105 (ad E a 46) = f46 := (hM9.a (by decide) (by decide)).trans e_12
      have e_118 : aF σ_s_105 (ad E a 2) = f2 := (hM9.a (by decide) (by decide)).trans e_13
      have e_119 : aF σ_s_105 (ad E a 3) = f3 := (hM9.a (by decide) (by decide)).trans e_14
      have e_120 : aF σ_s_105 (ad E a 8) = f8 := (hM9.a (by decide) (by decide)).trans e_15
      have e_121 : aF σ_s_105 (ad E a 35) = f35 := (hM9.a (by decide) (by decide)).trans e_16
      have e_122 : gI σ_s_105 a 36 = a360 := (hM9.i (by decide)).trans e_17
      have e_123 : gI σ_s_105 a 58 = a580 := (hM9.i (by decide)).trans e_18
      have e_124 : gI σ_s_105 a 59 = a590 := (hM9.i (by decide)).trans e_19
      have e_125 : gI σ_s_105 a 12 = a120 := (hM9.i (by decide)).trans e_20
      have e_126 : gI σ_s_105 a 0 = 0 := (hM9.i (by decide)).trans e_21
      replace hO := hO9
      have hw_104 : z_106 = -1 := hw_104
      exact th_iret hx hb hr hlocks hH hS (z := z_106) rz_106 ⟨hO, hF, hM, by rw [show aF σ_s_105 (ad E a 1) = f1 from e_107, show aF σ_s_105 (ad E a 37) = f37 from e_108, show aF σ_s_105 (ad E a 61) = f61 from e_109, show aF σ_s_105 (ad E a 62) = f62 from e_110, show aF σ_s_105 (ad E a 39) = f39 from e_111, show aF σ_s_105 (ad E a 40) = f40 from e_112, show aF σ_s_105 (ad E a 42) = f42 from e_113, show aF σ_s_105 (ad E a 43) = f43 from e_114, show aF σ_s_105 (ad E a 44) = f44 from e_115, show aF σ_s_105 (ad E a 45) = f45 from e_116, show aF σ_s_105 (ad E a 46) = f46 from e_117]; exact ⟨hj.n (by omega) (by omega) (by omega), by omega⟩⟩ dX11_change_27

set_option maxHeartbeats 4000000 in
set_option maxRecDepth 100000 in
theorem j_move (l : Launch) (G : va_G) (y : Nat → ClassId) (b0 : Nat) (σ : th_M) (E : th_E) (hO : ok y E σ) (a : Nat) (h_a : kd E a = 13) (th : Int) (rth : rng th) (ot : Int) (rot : rng ot) (ky : Int) (rky : rng ky) (f1 : Nat → Int32) (ef1 : aF σ (ad E a 1) = f1) (f37 : Nat → Int32) (ef37 : aF σ (ad E a 37) = f37) (f61 : Nat → Int32) (ef61 : aF σ (ad E a 61) = f61) (f62 : Nat → Int32) (ef62 : aF σ (ad E a 62) = f62) (f39 : Nat → Int32) (ef39 : aF σ (ad E a 39) = f39) (f40 : Nat → Int32) (ef40 : aF σ (ad E a 40) = f40) (f42 : Nat → Int32) (ef42 : aF σ (ad E a 42) = f42) (f43 : Nat → Int32) (ef43 : aF σ (ad E a 43) = f43) (f44 : Nat → Int32) (ef44 : aF σ (ad E a 44) = f44) (f45 : Nat → Int32) (ef45 : aF σ (ad E a 45) = f45) (f46 : Nat → Int32) (ef46 : aF σ (ad E a 46) = f46) (hy0 : jw f1 f37 f61 f62 f39 f40 f42 f43 f44 f45 f46 (gI σ a 36) (gI σ a 58) (gI σ a 59)) : Met l yX11_move wsX11_move ({ frames := 5, cells := 0, slots := 0, locals := 135 }) (th_P G y b0 σ [.ref a, .int (I th), .int (I ot), .int (I ky)]) (th_Qi G b0 (fun r σ1 => ok y E σ1 ∧ fr [13] E σ σ1 ∧ fm [0, 1, 3, 4, 5, 31, 36, 37] E σ σ1 a ∧ (jw (aF σ1 (ad E a 1)) (aF σ1 (ad E a 37)) (aF σ1 (ad E a 61)) (aF σ1 (ad E a 62)) (aF σ1 (ad E a 39)) (aF σ1 (ad E a 40)) (aF σ1 (ad E a 42)) (aF σ1 (ad E a 43)) (aF σ1 (ad E a 44)) (aF σ1 (ad E a 45)) (aF σ1 (ad E a 46)) (gI σ1 a 36) (gI σ1 a 58) (gI σ1 a 59) ∧ gI σ1 a 12 = gI σ a 12))) 0 0 (th_A b0) := by
  refine Met.ofW (cc := cX11_move) (maxL := 5) (ret := (some .int)) (by decide) rfl ?_
  intro p e s m args below meth c s₁ B hml hv
  obtain ⟨rfl, hH, hK⟩ := hv
  have hx := B.exec
  have hb := B.bytes
  have hr := B.returns
  have hts := atoms_spec (ws := wsX11_move) B.pre
  have hown : s.vm.findClass RX11 = some m.cls := findClass_of_methodNamed B.named
  have hlocks := B.notSynchronized
  have h00 : b0 ≤ s.heap.size := hH.1
  have hS : va_S (th_A b0) s.heap s.heap [] := va_S.rf
  have hF : fr [13] E σ σ := fr.rf
  have hM : fm [0, 1, 3, 4, 5, 31, 36, 37] E σ σ a := fm.rf
  have hj := hy0
  have hw1 := hj.1.1.1
  have hm1 := hj.1.2.1
  have hm2 := hj.1.2.2.1
  have hm3 := hj.2.2.2.2.1
  have hm4 := hj.2.2.2.2.2.1
  have inX11 : ∀ w ∈ wsX110, w ∈ wsX11_move := by decide +kernel
  have fl0 := hts (.fieldLink RX11 111 "NestQueryModel" "code" "I") (by decide +kernel)
  have hl := lv_entry ([.ref a, .int (I th), .int (I ot), .int (I ky)]) (n := 5) (Nat.le_of_ble_eq_true rfl)
  rw [lg_entry_eq]
  generalize (lg_sl ([.ref a, .int (I th), .int (I ot), .int (I ky)]) ++ List.replicate (5 - (lg_sl ([.ref a, .int (I th), .int (I ot), .int (I ky)])).length) Slot.unset).toArray = ls at hl ⊢
  have hl : lv_has ls 5 [(0, .ref a), (1, .int (I th)), (2, .int (I ot)), (3, .int (I ky))] := hl
  obtain ⟨a360, ea360, ra360, la360, ua360⟩ := hO.gi h_a (by decide) k13_36
  obtain ⟨a580, ea580, ra580, la580, ua580⟩ := hO.gi h_a (by decide) k13_58
  obtain ⟨a590, ea590, ra590, la590, ua590⟩ := hO.gi h_a (by decide) k13_59
  obtain ⟨a120, ea120, ra120, la120, ua120⟩ := hO.gi h_a (by decide) k13_12
  refine lv_aload_n hx hb dX11_move_0 rfl (lv_at hl 0 rfl) ?_
  refine lv_iconst (v := I 0) hx hb dX11_move_1 (by decide) ?_
  refine ok.putJ hO h_a k13_0 (show rng 0 from ⟨by decide, by decide⟩) (by omega) (by omega) (fun _ he hl9 kk => th_put (ci := 11) (v := .int (I 0)) (ty := .int) (C := RX11) (T := TX11) (N := 66) hx hb hts inX11 tyX11 tyX11_ok nmX11 hown hK hH hS h00 he rfl 0 (by decide) fl0 rfl (by decide +kernel) rfl rfl hl9 dX11_move_2 kk) (fun σ_s_1 H locs hO hF9 hM9 hg9 ha9 hH hS => ?_)
  replace hM := hM.tu hM9 (by decide)
  replace hF := hF.tu hF9 (by decide)
  have e_2 : aF σ_s_1 (ad E a 1) = f1 := (hM9.a (by decide) (by decide)).trans ef1
  have e_3 : aF σ_s_1 (ad E a 37) = f37 := (hM9.a (by decide) (by decide)).trans ef37
  have e_4 : aF σ_s_1 (ad E a 61) = f61 := (hM9.a (by decide) (by decide)).trans ef61
  have e_5 : aF σ_s_1 (ad E a 62) = f62 := (hM9.a (by decide) (by decide)).trans ef62
  have e_6 : aF σ_s_1 (ad E a 39) = f39 := (hM9.a (by decide) (by decide)).trans ef39
  have e_7 : aF σ_s_1 (ad E a 40) = f40 := (hM9.a (by decide) (by decide)).trans ef40
  have e_8 : aF σ_s_1 (ad E a 42) = f42 := (hM9.a (by decide) (by decide)).trans ef42
  have e_9 : aF σ_s_1 (ad E a 43) = f43 := (hM9.a (by decide) (by decide)).trans ef43
  have e_10 : aF σ_s_1 (ad E a 44) = f44 := (hM9.a (by decide) (by decide)).trans ef44
  have e_11 : aF σ_s_1 (ad E a 45) = f45 := (hM9.a (by decide) (by decide)).trans ef45
  have e_12 : aF σ_s_1 (ad E a 46) = f46 := (hM9.a (by decide) (by decide)).trans ef46
  have e_13 : gI σ_s_1 a 36 = a360 := (hM9.i (by decide)).trans ea360
  have e_14 : gI σ_s_1 a 58 = a580 := (hM9.i (by decide)).trans ea580
  have e_15 : gI σ_s_1 a 59 = a590 := (hM9.i (by decide)).trans ea590
  have e_16 : gI σ_s_1 a 12 = a120 := (hM9.i (by decide)).trans ea120
  have e_17 := hg9
  refine lv_aload_n hx hb dX11_move_5 rfl (lv_at hl 0 rfl) ?_
  refine lv_iload_n hx hb dX11_move_6 rfl (lv_at hl 1 rfl) ?_
  refine lv_iload_n hx hb dX11_move_7 rfl (lv_at hl 2 rfl) ?_
  refine lv_iload_n hx hb dX11_move_8 rfl (lv_at hl 3 rfl) ?_
  obtain ⟨_, hc_18⟩ := hO.cell h_a (by decide) (ci := 11) rfl
  refine th_calli (va_runV (As := [.int (I th), .int (I ot), .int (I ky)]) (rest := []) ⟨hx, hb, hml, hown, hts⟩ (m_moves l G y b0 σ_s_1 E hO a h_a th (show rng th from rth) ot (show rng ot from rot) ky (show rng ky from rky) f1 e_2 f37 e_3 (hw1) (by omega) (hj.1) ((hj.2.1.le (by omega)))) (cwV 3 hts gX11_move_X11_moves rfl rfl rfl (by decide +kernel) ⟨Nat.le_of_ble_eq_true rfl, Nat.le_of_ble_eq_true rfl⟩) (th_PV hK hH rfl hc_18) rfl rfl hl.1 rfl (lv_room (Nat.le_of_ble_eq_true rfl)) dX11_move_9 ⟨Nat.le_of_ble_eq_true rfl, Nat.le_of_ble_eq_true rfl⟩) hS (fun z_21 σ_s_20 H locs rz_21 hw_19 hH hS => ?_)
  obtain ⟨hO9, hF9, hM9, hw_19⟩ := hw_19
  replace hM := hM.tu hM9 (by decide)
  replace hF := hF.tu hF9 (by decide)
  have e_22 : aF σ_s_20 (ad E a 61) = f61 := (hM9.a (by decide) (by decide)).trans e_4
  have e_23 : aF σ_s_20 (ad E a 62) = f62 := (hM9.a (by decide) (by decide)).trans e_5
  have e_24 : aF σ_s_20 (ad E a 39) = f39 := (hM9.a (by decide) (by decide)).trans e_6
  have e_25 : aF σ_s_20 (ad E a 40) = f40 := (hM9.a (by decide) (by decide)).trans e_7
  have e_26 : aF σ_s_20 (ad E a 42) = f42 := (hM9.a (by decide) (by decide)).trans e_8
  have e_27 : aF σ_s_20 (ad E a 43) = f43 := (hM9.a (by decide) (by decide)).trans e_9
  have e_28 : aF σ_s_20 (ad E a 44) = f44 := (hM9.a (by decide) (by decide)).trans e_10
  have e_29 : aF σ_s_20 (ad E a 45) = f45 := (hM9.a (by decide) (by decide)).trans e_11
  have e_30 : aF σ_s_20 (ad E a 46) = f46 := (hM9.a (by decide) (by decide)).trans e_12
  have e_31 : gI σ_s_20 a 58 = a580 := (hM9.i (by decide)).trans e_14
  have e_32 : gI σ_s_20 a 59 = a590 := (hM9.i (by decide)).trans e_15
  have e_33 : gI σ_s_20 a 12 = a120 := (hM9.i (by decide)).trans e_16
  have e_34 : gI σ_s_20 a 0 = 0 := (hM9.i (by decide)).trans e_17
  replace hO := hO9
  generalize ef_36 : aF σ_s_20 (ad E a 1) = g_35 at hw_19
  generalize ef_38 : aF σ_s_20 (ad E a 37) = g_37 at hw_19
  have hw_19 : tr g_35 ∧ trs g_37 (gI σ_s_20 a 36) := hw_19
  refine lv_istore (lv' := [(4, .int (I z_21)), (0, .ref a), (1, .int (I th)), (2, .int (I ot)), (3, .int (I ky))]) hx hb dX11_move_12 hl (by decide) rfl (fun ls hl => ?_)
  refine lv_iload hx hb dX11_move_14 (lv_at hl 0 rfl) ?_
  refine lv_iconst (v := I (-1)) hx hb dX11_move_16 (by decide) ?_
  refine lv_icmp_ne (tgt := 28) hx hb dX11_move_17 (by decide) (fun c_39 => ?_) (fun c_39 => ?_)
  · replace c_39 := mt (I_eq (a := z_21) (b := (-1)) rz_21 (show rng (-1) from ⟨by decide, by decide⟩)).mpr c_39
    refine lv_iload hx hb dX11_move_28 (lv_at hl 0 rfl) ?_
    exact th_iret hx hb hr hlocks hH hS (z := z_21) rz_21 ⟨hO, hF, hM, by rw [show aF σ_s_20 (ad E a 1) = g_35 from ef_36, show aF σ_s_20 (ad E a 37) = g_37 from ef_38, show aF σ_s_20 (ad E a 61) = f61 from e_22, show aF σ_s_20 (ad E a 62) = f62 from e_23, show aF σ_s_20 (ad E a 39) = f39 from e_24, show aF σ_s_20 (ad E a 40) = f40 from e_25, show aF σ_s_20 (ad E a 42) = f42 from e_26, show aF σ_s_20 (ad E a 43) = f43 from e_27, show aF σ_s_20 (ad E a 44) = f44 from e_28, show aF σ_s_20 (ad E a 45) = f45 from e_29, show aF σ_s_20 (ad E a 46) = f46 from e_30]; exact ⟨hj.tree hw_19.1 (hw_19.2.le (by omega)) (by omega) (by omega), by omega⟩⟩ dX11_move_30
  · replace c_39 := (I_eq (a := z_21) (b := (-1)) rz_21 (show rng (-1) from ⟨by decide, by decide⟩)).mp c_39
    refine lv_aload_n hx hb dX11_move_20 rfl (lv_at hl 1 rfl) ?_
    refine lv_iconst (v := I 1) hx hb dX11_move_21 (by decide) ?_
    obtain ⟨z_40, e_41, rz_40, lz_40, uz_40⟩ := hO.gi h_a (by decide) k13_36
    obtain ⟨_, hc_42⟩ := hO.cell h_a (by decide) (ci := 11) rfl
    refine th_calli (va_runV (As := [.int (I 1)]) (rest := []) ⟨hx, hb, hml, hown, hts⟩ (m_refuse l G y b0 σ_s_20 E hO a h_a 1 (show rng 1 from (show rng 1 from ⟨by decide, by decide⟩)) (by omega) (by omega)) (cwV 1 hts gX11_move_X11_refuse rfl rfl rfl (by decide +kernel) ⟨Nat.le_of_ble_eq_true rfl, Nat.le_of_ble_eq_true rfl⟩) (th_PV hK hH rfl hc_42) rfl rfl hl.1 rfl (lv_room (Nat.le_of_ble_eq_true rfl)) dX11_move_22 ⟨Nat.le_of_ble_eq_true rfl, Nat.le_of_ble_eq_true rfl⟩) hS (fun z_45 σ_s_44 H locs rz_45 hw_43 hH hS => ?_)
    obtain ⟨hO9, hF9, hM9, hw_43⟩ := hw_43
    replace hM := hM.tu hM9 (by decide)
    replace hF := hF.tu hF9 (by decide)
    have e_46 : aF σ_s_44 (ad E a 61) = f61 := (hM9.a (by decide) (by decide)).trans e_22
    have e_47 : aF σ_s_44 (ad E a 62) = f62 := (hM9.a (by decide) (by decide)).trans e_23
    have e_48 : aF σ_s_44 (ad E a 39) = f39 := (hM9.a (by decide) (by decide)).trans e_24
    have e_49 : aF σ_s_44 (ad E a 40) = f40 := (hM9.a (by decide) (by decide)).trans e_25
    have e_50 : aF σ_s_44 (ad E a 42) = f42 := (hM9.a (by decide) (by decide)).trans e_26
    have e_51 : aF σ_s_44 (ad E a 43) = f43 := (hM9.a (by decide) (by decide)).trans e_27
    have e_52 : aF σ_s_44 (ad E a 44) = f44 := (hM9.a (by decide) (by decide)).trans e_28
    have e_53 : aF σ_s_44 (ad E a 45) = f45 := (hM9.a (by decide) (by decide)).trans e_29
    have e_54 : aF σ_s_44 (ad E a 46) = f46 := (hM9.a (by decide) (by decide)).trans e_30
    have e_55 : gI σ_s_44 a 58 = a580 := (hM9.i (by decide)).trans e_31
    have e_56 : gI σ_s_44 a 59 = a590 := (hM9.i (by decide)).trans e_32
    have e_57 : gI σ_s_44 a 12 = a120 := (hM9.i (by decide)).trans e_33
    have e_58 : gI σ_s_44 a 0 = 0 := (hM9.i (by decide)).trans e_34
    have e_59 : aF σ_s_44 (ad E a 1) = g_35 := (hM9.a (by decide) (by decide)).trans ef_36
    have e_60 : aF σ_s_44 (ad E a 37) = g_37 := (hM9.a (by decide) (by decide)).trans ef_38
    have e_61 : gI σ_s_44 a 36 = z_40 := (hM9.i (by decide)).trans e_41
    replace hO := hO9
    have hw_43 : z_45 = -1 := hw_43
    refine lv_goto (tgt := 30) hx hb dX11_move_25 (by decide) ?_
    exact th_iret hx hb hr hlocks hH hS (z := z_45) rz_45 ⟨hO, hF, hM, by rw [show aF σ_s_44 (ad E a 1) = g_35 from e_59, show aF σ_s_44 (ad E a 37) = g_37 from e_60, show aF σ_s_44 (ad E a 61) = f61 from e_46, show aF σ_s_44 (ad E a 62) = f62 from e_47, show aF σ_s_44 (ad E a 39) = f39 from e_48, show aF σ_s_44 (ad E a 40) = f40 from e_49, show aF σ_s_44 (ad E a 42) = f42 from e_50, show aF σ_s_44 (ad E a 43) = f43 from e_51, show aF σ_s_44 (ad E a 44) = f44 from e_52, show aF σ_s_44 (ad E a 45) = f45 from e_53, show aF σ_s_44 (ad E a 46) = f46 from e_54]; exact ⟨hj.tree hw_19.1 (hw_19.2.le (by omega)) (by omega) (by omega), by omega⟩⟩ dX11_move_30
