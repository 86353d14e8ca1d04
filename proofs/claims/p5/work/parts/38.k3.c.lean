set_option maxHeartbeats 4000000 in
set_option maxRecDepth 100000 in
theorem j_count (l : Launch) (G : va_G) (y : Nat → ClassId) (b0 : Nat) (σ : th_M) (E : th_E) (hO : ok y E σ) (a : Nat) (h_a : kd E a = 13) (wh : Int) (rwh : rng wh) (f1 : Nat → Int32) (ef1 : aF σ (ad E a 1) = f1) (f37 : Nat → Int32) (ef37 : aF σ (ad E a 37) = f37) (f61 : Nat → Int32) (ef61 : aF σ (ad E a 61) = f61) (f62 : Nat → Int32) (ef62 : aF σ (ad E a 62) = f62) (f39 : Nat → Int32) (ef39 : aF σ (ad E a 39) = f39) (f40 : Nat → Int32) (ef40 : aF σ (ad E a 40) = f40) (f42 : Nat → Int32) (ef42 : aF σ (ad E a 42) = f42) (f43 : Nat → Int32) (ef43 : aF σ (ad E a 43) = f43) (f44 : Nat → Int32) (ef44 : aF σ (ad E a 44) = f44) (f45 : Nat → Int32) (ef45 : aF σ (ad E a 45) = f45) (f46 : Nat → Int32) (ef46 : aF σ (ad E a 46) = f46) (f8 : Nat → Int32) (ef8 : aF σ (ad E a 8) = f8) (hy0 : jw f1 f37 f61 f62 f39 f40 f42 f43 f44 f45 f46 (gI σ a 36) (gI σ a 58) (gI σ a 59)) : Met l yX11_count wsX11_count ({ frames := 386, cells := 0, slots := 0, locals := 14016 }) (th_P G y b0 σ [.ref a, .int (I wh)]) (th_Qi G b0 (fun r σ1 => ok y E σ1 ∧ fr [13] E σ σ1 ∧ fm [0, 9, 10, 11, 13, 14, 15, 16, 17, 18, 19, 20, 23, 24, 25, 26, 27, 28, 29, 30, 39, 40, 41, 42, 43, 44, 45, 46, 47, 48, 54, 55] E σ σ1 a ∧ (jw (aF σ1 (ad E a 1)) (aF σ1 (ad E a 37)) (aF σ1 (ad E a 61)) (aF σ1 (ad E a 62)) (aF σ1 (ad E a 39)) (aF σ1 (ad E a 40)) (aF σ1 (ad E a 42)) (aF σ1 (ad E a 43)) (aF σ1 (ad E a 44)) (aF σ1 (ad E a 45)) (aF σ1 (ad E a 46)) (gI σ1 a 36) (gI σ1 a 58) (gI σ1 a 59) ∧ gI σ1 a 12 = gI σ a 12))) 0 0 (th_A b0) := by
  refine Met.ofW (cc := cX11_count) (maxL := 2) (ret := (some .int)) (by decide) rfl ?_
  intro p e s m args below meth c s₁ B hml hv
  obtain ⟨rfl, hH, hK⟩ := hv
  have hx := B.exec
  have hb := B.bytes
  have hr := B.returns
  have hts := atoms_spec (ws := wsX11_count) B.pre
  have hown : s.vm.findClass RX11 = some m.cls := findClass_of_methodNamed B.named
  have hlocks := B.notSynchronized
  have h00 : b0 ≤ s.heap.size := hH.1
  have hS : va_S (th_A b0) s.heap s.heap [] := va_S.rf
  have hF : fr [13] E σ σ := fr.rf
  have hM : fm [0, 9, 10, 11, 13, 14, 15, 16, 17, 18, 19, 20, 23, 24, 25, 26, 27, 28, 29, 30, 39, 40, 41, 42, 43, 44, 45, 46, 47, 48, 54, 55] E σ σ a := fm.rf
  have hj := hy0
  have hw1 := hj.1.1.1
  have hm1 := hj.1.2.1
  have hm2 := hj.1.2.2.1
  have hm3 := hj.2.2.2.2.1
  have hm4 := hj.2.2.2.2.2.1
  have inX11 : ∀ w ∈ wsX110, w ∈ wsX11_count := by decide +kernel
  have fl0 := hts (.fieldLink RX11 111 "NestQueryModel" "code" "I") (by decide +kernel)
  have fl1 := hts (.fieldLink RX11 69 "NestQueryModel" "rowsMany" "[I") (by decide +kernel)
  have fl2 := hts (.fieldLink RX11 238 "NestQueryModel" "hasImage" "Z") (by decide +kernel)
  have fl3 := hts (.fieldLink RX11 232 "NestQueryModel" "acts" "I") (by decide +kernel)
  have fl4 := hts (.fieldLink RX11 235 "NestQueryModel" "noted" "I") (by decide +kernel)
  have fl5 := hts (.fieldLink RX11 114 "NestQueryModel" "taped" "I") (by decide +kernel)
  have fl6 := hts (.fieldLink RX11 19 "NestQueryModel" "status" "[I") (by decide +kernel)
  have hl := lv_entry ([.ref a, .int (I wh)]) (n := 2) (Nat.le_of_ble_eq_true rfl)
  rw [lg_entry_eq]
  generalize (lg_sl ([.ref a, .int (I wh)]) ++ List.replicate (2 - (lg_sl ([.ref a, .int (I wh)])).length) Slot.unset).toArray = ls at hl ⊢
  have hl : lv_has ls 2 [(0, .ref a), (1, .int (I wh))] := hl
  obtain ⟨a360, ea360, ra360, la360, ua360⟩ := hO.gi h_a (by decide) k13_36
  obtain ⟨a580, ea580, ra580, la580, ua580⟩ := hO.gi h_a (by decide) k13_58
  obtain ⟨a590, ea590, ra590, la590, ua590⟩ := hO.gi h_a (by decide) k13_59
  obtain ⟨a120, ea120, ra120, la120, ua120⟩ := hO.gi h_a (by decide) k13_12
  refine lv_aload_n hx hb dX11_count_0 rfl (lv_at hl 0 rfl) ?_
  refine lv_iconst (v := I 0) hx hb dX11_count_1 (by decide) ?_
  refine ok.putJ hO h_a k13_0 (show rng 0 from ⟨by decide, by decide⟩) (by omega) (by omega) (fun _ he hl9 kk => th_put (ci := 11) (v := .int (I 0)) (ty := .int) (C := RX11) (T := TX11) (N := 66) hx hb hts inX11 tyX11 tyX11_ok nmX11 hown hK hH hS h00 he rfl 0 (by decide) fl0 rfl (by decide +kernel) rfl rfl hl9 dX11_count_2 kk) (fun σ_s_1 H locs hO hF9 hM9 hg9 ha9 hH hS => ?_)
  replace hM := hM.tu hM9 (by decide)
  replace hF := hF.tu hF9 (by decide)
  have e_2 : aF σ_s_1 (ad E a 1) = f1 := (hM9.a (by decide) (by decide)).trans ef1
  have e_3 : aF σ_s_1 (ad E a 37) = f37 := (hM9.a (by decide) (by decide)).trans ef37
  have e_4 : aF σ_s_1 (ad E a 61) = f61 := (hM9.a (by decide) (by decide)).trans ef61
  have e_5 : aF σ_s_1 (ad E a 62) = f62 := (hM9.a (by decide) (by decide)).trans ef62
  have e_6 : aF σ_s_1 (ad E a 39) = f39 := (hM9.a (by decide) (by decide)).trans ef39
  have e_7 : aF σ_s_1 (ad E a 40) = f40 := (hM9.a (by decide) (by decide)).trans ef40
  have e_8 : aF σ_s_1 (ad E a 42) = f42 := (hM9.a (by decide) (by decide)).trans ef42
  have e_9 : aF σ_s_1 (ad E a 43) = f43 := (hM9.a (by decide) (by decide)).trans ef43
  have e_10 : aF σ_s_1 (ad E a 44) = f44 := (hM9.a (by decide) (by decide)).trans ef44
  have e_11 : aF σ_s_1 (ad E a 45) = f45 := (hM9.a (by decide) (by decide)).trans ef45
  have e_12 : aF σ_s_1 (ad E a 46) = f46 := (hM9.a (by decide) (by decide)).trans ef46
  have e_13 : aF σ_s_1 (ad E a 8) = f8 := (hM9.a (by decide) (by decide)).trans ef8
  have e_14 : gI σ_s_1 a 36 = a360 := (hM9.i (by decide)).trans ea360
  have e_15 : gI σ_s_1 a 58 = a580 := (hM9.i (by decide)).trans ea580
  have e_16 : gI σ_s_1 a 59 = a590 := (hM9.i (by decide)).trans ea590
  have e_17 : gI σ_s_1 a 12 = a120 := (hM9.i (by decide)).trans ea120
  have e_18 := hg9
  refine lv_iload_n hx hb dX11_count_5 rfl (lv_at hl 1 rfl) ?_
  refine th_case (a := wh) (n := 0) (fun c_19_0 => ?_) (fun c_19_0 => ?_)
  · refine th_topq c_19_0 ?_
    refine lv_tableIn (tgt := 92) hx hb dX11_count_6 (by decide) (by decide) (by rfl) (by decide) ?_
    refine lv_aload_n hx hb dX11_count_92 rfl (lv_at hl 0 rfl) ?_
    obtain ⟨_, hc_20⟩ := hO.cell h_a (by decide) (ci := 11) rfl
    refine th_calli (va_runV (As := []) (rest := []) ⟨hx, hb, hml, hown, hts⟩ (m_things l G y b0 σ_s_1 E hO a h_a f1 e_2) (cwV 0 hts gX11_count_X11_things rfl rfl rfl (by decide +kernel) ⟨Nat.le_of_ble_eq_true rfl, Nat.le_of_ble_eq_true rfl⟩) (th_PV hK hH rfl hc_20) rfl rfl hl.1 rfl (lv_room (Nat.le_of_ble_eq_true rfl)) dX11_count_93 ⟨Nat.le_of_ble_eq_true rfl, Nat.le_of_ble_eq_true rfl⟩) hS (fun z_23 σ_s_22 H locs rz_23 hw_21 hH hS => ?_)
    obtain ⟨e9, hw_21⟩ := hw_21
    replace e9 := e9.symm
    subst e9
    have hw_21 : z_23 = mS f1 0 := hw_21
    exact th_iret hx hb hr hlocks hH hS (z := z_23) rz_23 ⟨hO, hF, hM, by rw [show aF σ_s_1 (ad E a 1) = f1 from e_2, show aF σ_s_1 (ad E a 37) = f37 from e_3, show aF σ_s_1 (ad E a 61) = f61 from e_4, show aF σ_s_1 (ad E a 62) = f62 from e_5, show aF σ_s_1 (ad E a 39) = f39 from e_6, show aF σ_s_1 (ad E a 40) = f40 from e_7, show aF σ_s_1 (ad E a 42) = f42 from e_8, show aF σ_s_1 (ad E a 43) = f43 from e_9, show aF σ_s_1 (ad E a 44) = f44 from e_10, show aF σ_s_1 (ad E a 45) = f45 from e_11, show aF σ_s_1 (ad E a 46) = f46 from e_12]; exact ⟨hj.n (by omega) (by omega) (by omega), by omega⟩⟩ dX11_count_96
  · refine th_case (a := wh) (n := 1) (fun c_19_1 => ?_) (fun c_19_1 => ?_)
    · refine th_topq c_19_1 ?_
      refine lv_tableIn (tgt := 97) hx hb dX11_count_6 (by decide) (by decide) (by rfl) (by decide) ?_
      refine lv_aload_n hx hb dX11_count_97 rfl (lv_at hl 0 rfl) ?_
      refine lv_iload_n hx hb dX11_count_98 rfl (lv_at hl 1 rfl) ?_
      refine lv_iconst (v := I 1) hx hb dX11_count_99 (by decide) ?_
      refine lv_isub hx hb dX11_count_100 ?_
      refine nq_top (I_sub _ _) ?_
      obtain ⟨_, hc_24⟩ := hO.cell h_a (by decide) (ci := 11) rfl
      refine th_calli (va_runV (As := [.int (I (wh - 1))]) (rest := []) ⟨hx, hb, hml, hown, hts⟩ (m_ofKind l G y b0 σ_s_1 E hO a h_a (wh - 1) (show rng (wh - 1) from ⟨by omega, by omega⟩) f1 e_2 (hw1) (by omega)) (cwV 1 hts gX11_count_X11_ofKind rfl rfl rfl (by decide +kernel) ⟨Nat.le_of_ble_eq_true rfl, Nat.le_of_ble_eq_true rfl⟩) (th_PV hK hH rfl hc_24) rfl rfl hl.1 rfl (lv_room (Nat.le_of_ble_eq_true rfl)) dX11_count_101 ⟨Nat.le_of_ble_eq_true rfl, Nat.le_of_ble_eq_true rfl⟩) hS (fun z_27 σ_s_26 H locs rz_27 hw_25 hH hS => ?_)
      obtain ⟨e9, hw_25⟩ := hw_25
      replace e9 := e9.symm
      subst e9
      exact th_iret hx hb hr hlocks hH hS (z := z_27) rz_27 ⟨hO, hF, hM, by rw [show aF σ_s_1 (ad E a 1) = f1 from e_2, show aF σ_s_1 (ad E a 37) = f37 from e_3, show aF σ_s_1 (ad E a 61) = f61 from e_4, show aF σ_s_1 (ad E a 62) = f62 from e_5, show aF σ_s_1 (ad E a 39) = f39 from e_6, show aF σ_s_1 (ad E a 40) = f40 from e_7, show aF σ_s_1 (ad E a 42) = f42 from e_8, show aF σ_s_1 (ad E a 43) = f43 from e_9, show aF σ_s_1 (ad E a 44) = f44 from e_10, show aF σ_s_1 (ad E a 45) = f45 from e_11, show aF σ_s_1 (ad E a 46) = f46 from e_12]; exact ⟨hj.n (by omega) (by omega) (by omega), by omega⟩⟩ dX11_count_104
    · refine th_case (a := wh) (n := 2) (fun c_19_2 => ?_) (fun c_19_2 => ?_)
      · refine th_topq c_19_2 ?_
        refine lv_tableIn (tgt := 97) hx hb dX11_count_6 (by decide) (by decide) (by rfl) (by decide) ?_
        refine lv_aload_n hx hb dX11_count_97 rfl (lv_at hl 0 rfl) ?_
        refine lv_iload_n hx hb dX11_count_98 rfl (lv_at hl 1 rfl) ?_
        refine lv_iconst (v := I 1) hx hb dX11_count_99 (by decide) ?_
        refine lv_isub hx hb dX11_count_100 ?_
        refine nq_top (I_sub _ _) ?_
        obtain ⟨_, hc_28⟩ := hO.cell h_a (by decide) (ci := 11) rfl
        refine th_calli (va_runV (As := [.int (I (wh - 1))]) (rest := []) ⟨hx, hb, hml, hown, hts⟩ (m_ofKind l G y b0 σ_s_1 E hO a h_a (wh - 1) (show rng (wh - 1) from ⟨by omega, by omega⟩) f1 e_2 (hw1) (by omega)) (cwV 1 hts gX11_count_X11_ofKind rfl rfl rfl (by decide +kernel) ⟨Nat.le_of_ble_eq_true rfl, Nat.le_of_ble_eq_true rfl⟩) (th_PV hK hH rfl hc_28) rfl rfl hl.1 rfl (lv_room (Nat.le_of_ble_eq_true rfl)) dX11_count_101 ⟨Nat.le_of_ble_eq_true rfl, Nat.le_of_ble_eq_true rfl⟩) hS (fun z_31 σ_s_30 H locs rz_31 hw_29 hH hS => ?_)
        obtain ⟨e9, hw_29⟩ := hw_29
        replace e9 := e9.symm
        subst e9
        exact th_iret hx hb hr hlocks hH hS (z := z_31) rz_31 ⟨hO, hF, hM, by rw [show aF σ_s_1 (ad E a 1) = f1 from e_2, show aF σ_s_1 (ad E a 37) = f37 from e_3, show aF σ_s_1 (ad E a 61) = f61 from e_4, show aF σ_s_1 (ad E a 62) = f62 from e_5, show aF σ_s_1 (ad E a 39) = f39 from e_6, show aF σ_s_1 (ad E a 40) = f40 from e_7, show aF σ_s_1 (ad E a 42) = f42 from e_8, show aF σ_s_1 (ad E a 43) = f43 from e_9, show aF σ_s_1 (ad E a 44) = f44 from e_10, show aF σ_s_1 (ad E a 45) = f45 from e_11, show aF σ_s_1 (ad E a 46) = f46 from e_12]; exact ⟨hj.n (by omega) (by omega) (by omega), by omega⟩⟩ dX11_count_104
      · refine th_case (a := wh) (n := 3) (fun c_19_3 => ?_) (fun c_19_3 => ?_)
        · refine th_topq c_19_3 ?_
          refine lv_tableIn (tgt := 97) hx hb dX11_count_6 (by decide) (by decide) (by rfl) (by decide) ?_
          refine lv_aload_n hx hb dX11_count_97 rfl (lv_at hl 0 rfl) ?_
          refine lv_iload_n hx hb dX11_count_98 rfl (lv_at hl 1 rfl) ?_
          refine lv_iconst (v := I 1) hx hb dX11_count_99 (by decide) ?_
          refine lv_isub hx hb dX11_count_100 ?_
          refine nq_top (I_sub _ _) ?_
          obtain ⟨_, hc_32⟩ := hO.cell h_a (by decide) (ci := 11) rfl
          refine th_calli (va_runV (As := [.int (I (wh - 1))]) (rest := []) ⟨hx, hb, hml, hown, hts⟩ (m_ofKind l G y b0 σ_s_1 E hO a h_a (wh - 1) (show rng (wh - 1) from ⟨by omega, by omega⟩) f1 e_2 (hw1) (by omega)) (cwV 1 hts gX11_count_X11_ofKind rfl rfl rfl (by decide +kernel) ⟨Nat.le_of_ble_eq_true rfl, Nat.le_of_ble_eq_true rfl⟩) (th_PV hK hH rfl hc_32) rfl rfl hl.1 rfl (lv_room (Nat.le_of_ble_eq_true rfl)) dX11_count_101 ⟨Nat.le_of_ble_eq_true rfl, Nat.le_of_ble_eq_true rfl⟩) hS (fun z_35 σ_s_34 H locs rz_35 hw_33 hH hS => ?_)
          obtain ⟨e9, hw_33⟩ := hw_33
          replace e9 := e9.symm
          subst e9
          exact th_iret hx hb hr hlocks hH hS (z := z_35) rz_35 ⟨hO, hF, hM, by rw [show aF σ_s_1 (ad E a 1) = f1 from e_2, show aF σ_s_1 (ad E a 37) = f37 from e_3, show aF σ_s_1 (ad E a 61) = f61 from e_4, show aF σ_s_1 (ad E a 62) = f62 from e_5, show aF σ_s_1 (ad E a 39) = f39 from e_6, show aF σ_s_1 (ad E a 40) = f40 from e_7, show aF σ_s_1 (ad E a 42) = f42 from e_8, show aF σ_s_1 (ad E a 43) = f43 from e_9, show aF σ_s_1 (ad E a 44) = f44 from e_10, show aF σ_s_1 (ad E a 45) = f45 from e_11, show aF σ_s_1 (ad E a 46) = f46 from e_12]; exact ⟨hj.n (by omega) (by omega) (by omega), by omega⟩⟩ dX11_count_104
        · refine th_case (a := wh) (n := 4) (fun c_19_4 => ?_) (fun c_19_4 => ?_)
          · refine th_topq c_19_4 ?_
            refine lv_tableIn (tgt := 97) hx hb dX11_count_6 (by decide) (by decide) (by rfl) (by decide) ?_
            refine lv_aload_n hx hb dX11_count_97 rfl (lv_at hl 0 rfl) ?_
            refine lv_iload_n hx hb dX11_count_98 rfl (lv_at hl 1 rfl) ?_
            refine lv_iconst (v := I 1) hx hb dX11_count_99 (by decide) ?_
            refine lv_isub hx hb dX11_count_100 ?_
            refine nq_top (I_sub _ _) ?_
            obtain ⟨_, hc_36⟩ := hO.cell h_a (by decide) (ci := 11) rfl
            refine th_calli (va_runV (As := [.int (I (wh - 1))]) (rest := []) ⟨hx, hb, hml, hown, hts⟩ (m_ofKind l G y b0 σ_s_1 E hO a h_a (wh - 1) (show rng (wh - 1) from ⟨by omega, by omega⟩) f1 e_2 (hw1) (by omega)) (cwV 1 hts gX11_count_X11_ofKind rfl rfl rfl (by decide +kernel) ⟨Nat.le_of_ble_eq_true rfl, Nat.le_of_ble_eq_true rfl⟩) (th_PV hK hH rfl hc_36) rfl rfl hl.1 rfl (lv_room (Nat.le_of_ble_eq_true rfl)) dX11_count_101 ⟨Nat.le_of_ble_eq_true rfl, Nat.le_of_ble_eq_true rfl⟩) hS (fun z_39 σ_s_38 H locs rz_39 hw_37 hH hS => ?_)
            obtain ⟨e9, hw_37⟩ := hw_37
            replace e9 := e9.symm
            subst e9
            exact th_iret hx hb hr hlocks hH hS (z := z_39) rz_39 ⟨hO, hF, hM, by rw [show aF σ_s_1 (ad E a 1) = f1 from e_2, show aF σ_s_1 (ad E a 37) = f37 from e_3, show aF σ_s_1 (ad E a 61) = f61 from e_4, show aF σ_s_1 (ad E a 62) = f62 from e_5, show aF σ_s_1 (ad E a 39) = f39 from e_6, show aF σ_s_1 (ad E a 40) = f40 from e_7, show aF σ_s_1 (ad E a 42) = f42 from e_8, show aF σ_s_1 (ad E a 43) = f43 from e_9, show aF σ_s_1 (ad E a 44) = f44 from e_10, show aF σ_s_1 (ad E a 45) = f45 from e_11, show aF σ_s_1 (ad E a 46) = f46 from e_12]; exact ⟨hj.n (by omega) (by omega) (by omega), by omega⟩⟩ dX11_count_104
          · refine th_case (a := wh) (n := 5) (fun c_19_5 => ?_) (fun c_19_5 => ?_)
            · refine th_topq c_19_5 ?_
              refine lv_tableIn (tgt := 105) hx hb dX11_count_6 (by decide) (by decide) (by rfl) (by decide) ?_
              refine lv_aload_n hx hb dX11_count_105 rfl (lv_at hl 0 rfl) ?_
              obtain ⟨_, hc_40⟩ := hO.cell h_a (by decide) (ci := 11) rfl
              refine th_calli (va_runV (As := []) (rest := []) ⟨hx, hb, hml, hown, hts⟩ (m_deepest l G y b0 σ_s_1 E hO a h_a f1 e_2 (hw1) (by omega)) (cwV 0 hts gX11_count_X11_deepest rfl rfl rfl (by decide +kernel) ⟨Nat.le_of_ble_eq_true rfl, Nat.le_of_ble_eq_true rfl⟩) (th_PV hK hH rfl hc_40) rfl rfl hl.1 rfl (lv_room (Nat.le_of_ble_eq_true rfl)) dX11_count_106 ⟨Nat.le_of_ble_eq_true rfl, Nat.le_of_ble_eq_true rfl⟩) hS (fun z_43 σ_s_42 H locs rz_43 hw_41 hH hS => ?_)
              obtain ⟨e9, hw_41⟩ := hw_41
              replace e9 := e9.symm
              subst e9
              exact th_iret hx hb hr hlocks hH hS (z := z_43) rz_43 ⟨hO, hF, hM, by rw [show aF σ_s_1 (ad E a 1) = f1 from e_2, show aF σ_s_1 (ad E a 37) = f37 from e_3, show aF σ_s_1 (ad E a 61) = f61 from e_4, show aF σ_s_1 (ad E a 62) = f62 from e_5, show aF σ_s_1 (ad E a 39) = f39 from e_6, show aF σ_s_1 (ad E a 40) = f40 from e_7, show aF σ_s_1 (ad E a 42) = f42 from e_8, show aF σ_s_1 (ad E a 43) = f43 from e_9, show aF σ_s_1 (ad E a 44) = f44 from e_10, show aF σ_s_1 (ad E a 45) = f45 from e_11, show aF σ_s_1 (ad E a 46) = f46 from e_12]; exact ⟨hj.n (by omega) (by omega) (by omega), by omega⟩⟩ dX11_count_109
            · refine th_case (a := wh) (n := 6) (fun c_19_6 => ?_) (fun c_19_6 => ?_)
              · refine th_topq c_19_6 ?_
                refine lv_tableIn (tgt := 110) hx hb dX11_count_6 (by decide) (by decide) (by rfl) (by decide) ?_
                refine lv_aload_n hx hb dX11_count_110 rfl (lv_at hl 0 rfl) ?_
                obtain ⟨_, hc_44⟩ := hO.cell h_a (by decide) (ci := 11) rfl
                refine th_calli (va_runV (As := []) (rest := []) ⟨hx, hb, hml, hown, hts⟩ (m_pathSet l G y b0 σ_s_1 E hO a h_a) (cwV 0 hts gX11_count_X11_pathSet rfl rfl rfl (by decide +kernel) ⟨Nat.le_of_ble_eq_true rfl, Nat.le_of_ble_eq_true rfl⟩) (th_PV hK hH rfl hc_44) rfl rfl hl.1 rfl (lv_room (Nat.le_of_ble_eq_true rfl)) dX11_count_111 ⟨Nat.le_of_ble_eq_true rfl, Nat.le_of_ble_eq_true rfl⟩) hS (fun z_47 σ_s_46 H locs rz_47 hw_45 hH hS => ?_)
                obtain ⟨e9, hw_45⟩ := hw_45
                replace e9 := e9.symm
                subst e9
                exact th_iret hx hb hr hlocks hH hS (z := z_47) rz_47 ⟨hO, hF, hM, by rw [show aF σ_s_1 (ad E a 1) = f1 from e_2, show aF σ_s_1 (ad E a 37) = f37 from e_3, show aF σ_s_1 (ad E a 61) = f61 from e_4, show aF σ_s_1 (ad E a 62) = f62 from e_5, show aF σ_s_1 (ad E a 39) = f39 from e_6, show aF σ_s_1 (ad E a 40) = f40 from e_7, show aF σ_s_1 (ad E a 42) = f42 from e_8, show aF σ_s_1 (ad E a 43) = f43 from e_9, show aF σ_s_1 (ad E a 44) = f44 from e_10, show aF σ_s_1 (ad E a 45) = f45 from e_11, show aF σ_s_1 (ad E a 46) = f46 from e_12]; exact ⟨hj.n (by omega) (by omega) (by omega), by omega⟩⟩ dX11_count_114
              · refine th_case (a := wh) (n := 7) (fun c_19_7 => ?_) (fun c_19_7 => ?_)
                · refine th_topq c_19_7 ?_
                  refine lv_tableIn (tgt := 115) hx hb dX11_count_6 (by decide) (by decide) (by rfl) (by decide) ?_
                  refine lv_aload_n hx hb dX11_count_115 rfl (lv_at hl 0 rfl) ?_
                  obtain ⟨_, hc_48⟩ := hO.cell h_a (by decide) (ci := 11) rfl
                  refine th_calli (va_runV (As := []) (rest := []) ⟨hx, hb, hml, hown, hts⟩ (m_unlike l G y b0 σ_s_1 E hO a h_a f1 e_2 (hw1) (by omega)) (cwV 0 hts gX11_count_X11_unlike rfl rfl rfl (by decide +kernel) ⟨Nat.le_of_ble_eq_true rfl, Nat.le_of_ble_eq_true rfl⟩) (th_PV hK hH rfl hc_48) rfl rfl hl.1 rfl (lv_room (Nat.le_of_ble_eq_true rfl)) dX11_count_116 ⟨Nat.le_of_ble_eq_true rfl, Nat.le_of_ble_eq_true rfl⟩) hS (fun z_51 σ_s_50 H locs rz_51 hw_49 hH hS => ?_)
                  obtain ⟨e9, hw_49⟩ := hw_49
                  replace e9 := e9.symm
                  subst e9
                  exact th_iret hx hb hr hlocks hH hS (z := z_51) rz_51 ⟨hO, hF, hM, by rw [show aF σ_s_1 (ad E a 1) = f1 from e_2, show aF σ_s_1 (ad E a 37) = f37 from e_3, show aF σ_s_1 (ad E a 61) = f61 from e_4, show aF σ_s_1 (ad E a 62) = f62 from e_5, show aF σ_s_1 (ad E a 39) = f39 from e_6, show aF σ_s_1 (ad E a 40) = f40 from e_7, show aF σ_s_1 (ad E a 42) = f42 from e_8, show aF σ_s_1 (ad E a 43) = f43 from e_9, show aF σ_s_1 (ad E a 44) = f44 from e_10, show aF σ_s_1 (ad E a 45) = f45 from e_11, show aF σ_s_1 (ad E a 46) = f46 from e_12]; exact ⟨hj.n (by omega) (by omega) (by omega), by omega⟩⟩ dX11_count_119
                · refine th_case (a := wh) (n := 8) (fun c_19_8 => ?_) (fun c_19_8 => ?_)
                  · refine th_topq c_19_8 ?_
                    refine lv_tableIn (tgt := 120) hx hb dX11_count_6 (by decide) (by decide) (by rfl) (by decide) ?_
                    refine lv_aload_n hx hb dX11_count_120 rfl (lv_at hl 0 rfl) ?_
                    refine ok.getR hO h_a (by decide) k13_45 (by decide) (fun _ _ he hv kk => th_get (ci := 11) (C := RX11) (T := TX11) (N := 66) hx hb hts inX11 hown hK hH he rfl 45 (by decide) fl1 hv dX11_count_121 kk) ?_
                    refine lv_iconst (v := I 1) hx hb dX11_count_124 (by decide) ?_
                    refine m_iald hx hb hK hH hO h_a k13_45 isA1 e_11 (show rng 1 from ⟨by decide, by decide⟩) (by omega) (by omega) dX11_count_125 (fun z_52 ez_52 rz_52 elx9 => ?_)
                    exact th_iret hx hb hr hlocks hH hS (z := z_52) rz_52 ⟨hO, hF, hM, by rw [show aF σ_s_1 (ad E a 1) = f1 from e_2, show aF σ_s_1 (ad E a 37) = f37 from e_3, show aF σ_s_1 (ad E a 61) = f61 from e_4, show aF σ_s_1 (ad E a 62) = f62 from e_5, show aF σ_s_1 (ad E a 39) = f39 from e_6, show aF σ_s_1 (ad E a 40) = f40 from e_7, show aF σ_s_1 (ad E a 42) = f42 from e_8, show aF σ_s_1 (ad E a 43) = f43 from e_9, show aF σ_s_1 (ad E a 44) = f44 from e_10, show aF σ_s_1 (ad E a 45) = f45 from e_11, show aF σ_s_1 (ad E a 46) = f46 from e_12]; exact ⟨hj.n (by omega) (by omega) (by omega), by omega⟩⟩ dX11_count_126
                  · refine th_case (a := wh) (n := 9) (fun c_19_9 => ?_) (fun c_19_9 => ?_)
                    · refine th_topq c_19_9 ?_
                      refine lv_tableIn (tgt := 127) hx hb dX11_count_6 (by decide) (by decide) (by rfl) (by decide) ?_
                      refine lv_aload_n hx hb dX11_count_127 rfl (lv_at hl 0 rfl) ?_
                      refine ok.getIc hO h_a (by decide) k13_58 e_15 (fun _ _ he hv kk => th_get (ci := 11) (C := RX11) (T := TX11) (N := 66) hx hb hts inX11 hown hK hH he rfl 58 (by decide) fl2 hv dX11_count_128 kk) ?_
                      refine lv_if_eq (tgt := 142) hx hb dX11_count_131 (by decide) (fun c_53 => ?_) (fun c_53 => ?_)
                      · replace c_53 := (I_eq (a := a580) (b := 0) ra580 (show rng 0 from ⟨by decide, by decide⟩)).mp c_53
                        refine lv_iconst (v := I (-1)) hx hb dX11_count_142 (by decide) ?_
                        exact th_iret hx hb hr hlocks hH hS (z := (-1)) (show rng (-1) from ⟨by decide, by decide⟩) ⟨hO, hF, hM, by rw [show aF σ_s_1 (ad E a 1) = f1 from e_2, show aF σ_s_1 (ad E a 37) = f37 from e_3, show aF σ_s_1 (ad E a 61) = f61 from e_4, show aF σ_s_1 (ad E a 62) = f62 from e_5, show aF σ_s_1 (ad E a 39) = f39 from e_6, show aF σ_s_1 (ad E a 40) = f40 from e_7, show aF σ_s_1 (ad E a 42) = f42 from e_8, show aF σ_s_1 (ad E a 43) = f43 from e_9, show aF σ_s_1 (ad E a 44) = f44 from e_10, show aF σ_s_1 (ad E a 45) = f45 from e_11, show aF σ_s_1 (ad E a 46) = f46 from e_12]; exact ⟨hj.n (by omega) (by omega) (by omega), by omega⟩⟩ dX11_count_143
                      · replace c_53 := mt (I_eq (a := a580) (b := 0) ra580 (show rng 0 from ⟨by decide, by decide⟩)).mpr c_53
                        refine lv_aload_n hx hb dX11_count_134 rfl (lv_at hl 0 rfl) ?_
                        refine lv_iconst (v := I 0) hx hb dX11_count_135 (by decide) ?_
                        obtain ⟨_, hc_54⟩ := hO.cell h_a (by decide) (ci := 11) rfl
                        refine th_calli (va_runV (As := [.int (I 0)]) (rest := []) ⟨hx, hb, hml, hown, hts⟩ (m_tellPatch l G y b0 σ_s_1 E hO a h_a 0 (show rng 0 from (show rng 0 from ⟨by decide, by decide⟩)) (by omega) (by omega) f1 e_2 f61 e_4 f39 e_6 f40 e_7 f42 e_8 f43 e_9 f44 e_10 f45 e_11 f46 e_12 (((hj.2.2.1.resolve_left (by omega)).1)) (hj.1)) (cwV 1 hts gX11_count_X11_tellPatch rfl rfl rfl (by decide +kernel) ⟨Nat.le_of_ble_eq_true rfl, Nat.le_of_ble_eq_true rfl⟩) (th_PV hK hH rfl hc_54) rfl rfl hl.1 rfl (lv_room (Nat.le_of_ble_eq_true rfl)) dX11_count_136 ⟨Nat.le_of_ble_eq_true rfl, Nat.le_of_ble_eq_true rfl⟩) hS (fun z_57 σ_s_56 H locs rz_57 hw_55 hH hS => ?_)
                        obtain ⟨hO9, hF9, hM9, hw_55⟩ := hw_55
                        replace hM := hM.tu hM9 (by decide)
                        replace hF := hF.tu hF9 (by decide)
                        have e_58 : aF σ_s_56 (ad E a 1) = f1 := (hM9.a (by decide) (by decide)).trans e_2
                        have e_59 : aF σ_s_56 (ad E a 37) = f37 := (hM9.a (by decide) (by decide)).trans e_3
                        have e_60 : aF σ_s_56 (ad E a 61) = f61 := (hM9.a (by decide) (by decide)).trans e_4
                        have e_61 : aF σ_s_56 (ad E a 62) = f62 := (hM9.a (by decide) (by decide)).trans e_5
                        have e_62 : aF σ_s_56 (ad E a 8) = f8 := (hM9.a (by decide) (by decide)).trans e_13
                        have e_63 : gI σ_s_56 a 36 = a360 := (hM9.i (by decide)).trans e_14
                        have e_64 : gI σ_s_56 a 58 = a580 := (hM9.i (by decide)).trans e_15
                        have e_65 : gI σ_s_56 a 59 = a590 := (hM9.i (by decide)).trans e_16
                        have e_66 : gI σ_s_56 a 12 = a120 := (hM9.i (by decide)).trans e_17
                        have e_67 : gI σ_s_56 a 0 = 0 := (hM9.i (by decide)).trans e_18
                        replace hO := hO9
                        generalize ef_69 : aF σ_s_56 (ad E a 39) = g_68 at hw_55
                        generalize ef_71 : aF σ_s_56 (ad E a 40) = g_70 at hw_55
                        generalize ef_73 : aF σ_s_56 (ad E a 42) = g_72 at hw_55
                        generalize ef_75 : aF σ_s_56 (ad E a 43) = g_74 at hw_55
                        generalize ef_77 : aF σ_s_56 (ad E a 44) = g_76 at hw_55
                        generalize ef_79 : aF σ_s_56 (ad E a 45) = g_78 at hw_55
                        generalize ef_81 : aF σ_s_56 (ad E a 46) = g_80 at hw_55
                        have hw_55 : rws 0 g_68 g_70 g_72 g_74 g_76 (g_78 (0 : Int).toNat).toInt (g_80 (0 : Int).toNat).toInt ∧ 0 ≤ (g_78 (0 : Int).toNat).toInt ∧ (g_78 (0 : Int).toNat).toInt ≤ 130 ∧ 0 ≤ (g_80 (0 : Int).toNat).toInt ∧ (g_80 (0 : Int).toNat).toInt ≤ 150 ∧ hall 0 f39 f40 f42 f43 f44 f45 f46 g_68 g_70 g_72 g_74 g_76 g_78 g_80 := hw_55
                        refine lv_goto (tgt := 143) hx hb dX11_count_139 (by decide) ?_
                        exact th_iret hx hb hr hlocks hH hS (z := z_57) rz_57 ⟨hO, hF, hM, by rw [show aF σ_s_56 (ad E a 1) = f1 from e_58, show aF σ_s_56 (ad E a 37) = f37 from e_59, show aF σ_s_56 (ad E a 61) = f61 from e_60, show aF σ_s_56 (ad E a 62) = f62 from e_61, show aF σ_s_56 (ad E a 39) = g_68 from ef_69, show aF σ_s_56 (ad E a 40) = g_70 from ef_71, show aF σ_s_56 (ad E a 42) = g_72 from ef_73, show aF σ_s_56 (ad E a 43) = g_74 from ef_75, show aF σ_s_56 (ad E a 44) = g_76 from ef_77, show aF σ_s_56 (ad E a 45) = g_78 from ef_79, show aF σ_s_56 (ad E a 46) = g_80 from ef_81]; exact ⟨hj.rows (hj.2.2.2.oth hw_55.2.2.2.2.2) (by omega) (by omega) (by omega), by omega⟩⟩ dX11_count_143
                    · refine th_case (a := wh) (n := 10) (fun c_19_10 => ?_) (fun c_19_10 => ?_)
                      · refine th_topq c_19_10 ?_
                        refine lv_tableIn (tgt := 144) hx hb dX11_count_6 (by decide) (by decide) (by rfl) (by decide) ?_
                        refine lv_aload_n hx hb dX11_count_144 rfl (lv_at hl 0 rfl) ?_
                        refine ok.getIc hO h_a (by decide) k13_36 e_14 (fun _ _ he hv kk => th_get (ci := 11) (C := RX11) (T := TX11) (N := 66) hx hb hts inX11 hown hK hH he rfl 36 (by decide) fl3 hv dX11_count_145 kk) ?_
                        exact th_iret hx hb hr hlocks hH hS (z := a360) ra360 ⟨hO, hF, hM, by rw [show aF σ_s_1 (ad E a 1) = f1 from e_2, show aF σ_s_1 (ad E a 37) = f37 from e_3, show aF σ_s_1 (ad E a 61) = f61 from e_4, show aF σ_s_1 (ad E a 62) = f62 from e_5, show aF σ_s_1 (ad E a 39) = f39 from e_6, show aF σ_s_1 (ad E a 40) = f40 from e_7, show aF σ_s_1 (ad E a 42) = f42 from e_8, show aF σ_s_1 (ad E a 43) = f43 from e_9, show aF σ_s_1 (ad E a 44) = f44 from e_10, show aF σ_s_1 (ad E a 45) = f45 from e_11, show aF σ_s_1 (ad E a 46) = f46 from e_12]; exact ⟨hj.n (by omega) (by omega) (by omega), by omega⟩⟩ dX11_count_148
                      · refine th_case (a := wh) (n := 11) (fun c_19_11 => ?_) (fun c_19_11 => ?_)
                        · refine th_topq c_19_11 ?_
                          refine lv_tableIn (tgt := 149) hx hb dX11_count_6 (by decide) (by decide) (by rfl) (by decide) ?_
                          refine lv_aload_n hx hb dX11_count_149 rfl (lv_at hl 0 rfl) ?_
                          refine ok.getI hO h_a (by decide) k13_51 (fun _ _ he hv kk => th_get (ci := 11) (C := RX11) (T := TX11) (N := 66) hx hb hts inX11 hown hK hH he rfl 51 (by decide) fl4 hv dX11_count_150 kk) (fun z_82 e_83 rz_82 lz_82 uz_82 => ?_)
                          exact th_iret hx hb hr hlocks hH hS (z := z_82) rz_82 ⟨hO, hF, hM, by rw [show aF σ_s_1 (ad E a 1) = f1 from e_2, show aF σ_s_1 (ad E a 37) = f37 from e_3, show aF σ_s_1 (ad E a 61) = f61 from e_4, show aF σ_s_1 (ad E a 62) = f62 from e_5, show aF σ_s_1 (ad E a 39) = f39 from e_6, show aF σ_s_1 (ad E a 40) = f40 from e_7, show aF σ_s_1 (ad E a 42) = f42 from e_8, show aF σ_s_1 (ad E a 43) = f43 from e_9, show aF σ_s_1 (ad E a 44) = f44 from e_10, show aF σ_s_1 (ad E a 45) = f45 from e_11, show aF σ_s_1 (ad E a 46) = f46 from e_12]; exact ⟨hj.n (by omega) (by omega) (by omega), by omega⟩⟩ dX11_count_153
                        · refine th_case (a := wh) (n := 12) (fun c_19_12 => ?_) (fun c_19_12 => ?_)
                          · refine th_topq c_19_12 ?_
                            refine lv_tableIn (tgt := 154) hx hb dX11_count_6 (by decide) (by decide) (by rfl) (by decide) ?_
                            refine lv_aload_n hx hb dX11_count_154 rfl (lv_at hl 0 rfl) ?_
                            refine ok.getIc hO h_a (by decide) k13_12 e_17 (fun _ _ he hv kk => th_get (ci := 11) (C := RX11) (T := TX11) (N := 66) hx hb hts inX11 hown hK hH he rfl 12 (by decide) fl5 hv dX11_count_155 kk) ?_
                            exact th_iret hx hb hr hlocks hH hS (z := a120) ra120 ⟨hO, hF, hM, by rw [show aF σ_s_1 (ad E a 1) = f1 from e_2, show aF σ_s_1 (ad E a 37) = f37 from e_3, show aF σ_s_1 (ad E a 61) = f61 from e_4, show aF σ_s_1 (ad E a 62) = f62 from e_5, show aF σ_s_1 (ad E a 39) = f39 from e_6, show aF σ_s_1 (ad E a 40) = f40 from e_7, show aF σ_s_1 (ad E a 42) = f42 from e_8, show aF σ_s_1 (ad E a 43) = f43 from e_9, show aF σ_s_1 (ad E a 44) = f44 from e_10, show aF σ_s_1 (ad E a 45) = f45 from e_11, show aF σ_s_1 (ad E a 46) = f46 from e_12]; exact ⟨hj.n (by omega) (by omega) (by omega), by omega⟩⟩ dX11_count_158
                          · refine th_case (a := wh) (n := 13) (fun c_19_13 => ?_) (fun c_19_13 => ?_)
                            · refine th_topq c_19_13 ?_
                              refine lv_tableIn (tgt := 159) hx hb dX11_count_6 (by decide) (by decide) (by rfl) (by decide) ?_
                              refine lv_aload_n hx hb dX11_count_159 rfl (lv_at hl 0 rfl) ?_
                              refine ok.getR hO h_a (by decide) k13_4 (by decide) (fun _ _ he hv kk => th_get (ci := 11) (C := RX11) (T := TX11) (N := 66) hx hb hts inX11 hown hK hH he rfl 4 (by decide) fl6 hv dX11_count_160 kk) ?_
                              refine lv_iload_n hx hb dX11_count_163 rfl (lv_at hl 1 rfl) ?_
                              refine lv_bipush (v := I 13) hx hb dX11_count_164 (by decide) ?_
                              refine lv_isub hx hb dX11_count_166 ?_
                              refine nq_top (I_sub _ _) ?_
                              obtain ⟨f_85, ef_86⟩ : ∃ f9, aF σ_s_1 (ad E a 4) = f9 := ⟨_, rfl⟩
                              refine m_iald hx hb hK hH hO h_a k13_4 isA1 ef_86 ⟨by omega, by omega⟩ (by omega) (by omega) dX11_count_167 (fun z_84 ez_84 rz_84 elx9 => ?_)
                              exact th_iret hx hb hr hlocks hH hS (z := z_84) rz_84 ⟨hO, hF, hM, by rw [show aF σ_s_1 (ad E a 1) = f1 from e_2, show aF σ_s_1 (ad E a 37) = f37 from e_3, show aF σ_s_1 (ad E a 61) = f61 from e_4, show aF σ_s_1 (ad E a 62) = f62 from e_5, show aF σ_s_1 (ad E a 39) = f39 from e_6, show aF σ_s_1 (ad E a 40) = f40 from e_7, show aF σ_s_1 (ad E a 42) = f42 from e_8, show aF σ_s_1 (ad E a 43) = f43 from e_9, show aF σ_s_1 (ad E a 44) = f44 from e_10, show aF σ_s_1 (ad E a 45) = f45 from e_11, show aF σ_s_1 (ad E a 46) = f46 from e_12]; exact ⟨hj.n (by omega) (by omega) (by omega), by omega⟩⟩ dX11_count_168
                            · refine th_case (a := wh) (n := 14) (fun c_19_14 => ?_) (fun c_19_14 => ?_)
                              · refine th_topq c_19_14 ?_
                                refine lv_tableIn (tgt := 159) hx hb dX11_count_6 (by decide) (by decide) (by rfl) (by decide) ?_
                                refine lv_aload_n hx hb dX11_count_159 rfl (lv_at hl 0 rfl) ?_
                                refine ok.getR hO h_a (by decide) k13_4 (by decide) (fun _ _ he hv kk => th_get (ci := 11) (C := RX11) (T := TX11) (N := 66) hx hb hts inX11 hown hK hH he rfl 4 (by decide) fl6 hv dX11_count_160 kk) ?_
                                refine lv_iload_n hx hb dX11_count_163 rfl (lv_at hl 1 rfl) ?_
                                refine lv_bipush (v := I 13) hx hb dX11_count_164 (by decide) ?_
                                refine lv_isub hx hb dX11_count_166 ?_
                                refine nq_top (I_sub _ _) ?_
                                obtain ⟨f_88, ef_89⟩ : ∃ f9, aF σ_s_1 (ad E a 4) = f9 := ⟨_, rfl⟩
                                refine m_iald hx hb hK hH hO h_a k13_4 isA1 ef_89 ⟨by omega, by omega⟩ (by omega) (by omega) dX11_count_167 (fun z_87 ez_87 rz_87 elx9 => ?_)
                                exact th_iret hx hb hr hlocks hH hS (z := z_87) rz_87 ⟨hO, hF, hM, by rw [show aF σ_s_1 (ad E a 1) = f1 from e_2, show aF σ_s_1 (ad E a 37) = f37 from e_3, show aF σ_s_1 (ad E a 61) = f61 from e_4, show aF σ_s_1 (ad E a 62) = f62 from e_5, show aF σ_s_1 (ad E a 39) = f39 from e_6, show aF σ_s_1 (ad E a 40) = f40 from e_7, show aF σ_s_1 (ad E a 42) = f42 from e_8, show aF σ_s_1 (ad E a 43) = f43 from e_9, show aF σ_s_1 (ad E a 44) = f44 from e_10, show aF σ_s_1 (ad E a 45) = f45 from e_11, show aF σ_s_1 (ad E a 46) = f46 from e_12]; exact ⟨hj.n (by omega) (by omega) (by omega), by omega⟩⟩ dX11_count_168
                              · refine th_case (a := wh) (n := 15) (fun c_19_15 => ?_) (fun c_19_15 => ?_)
                                · refine th_topq c_19_15 ?_
                                  refine lv_tableIn (tgt := 159) hx hb dX11_count_6 (by decide) (by decide) (by rfl) (by decide) ?_
                                  refine lv_aload_n hx hb dX11_count_159 rfl (lv_at hl 0 rfl) ?_
                                  refine ok.getR hO h_a (by decide) k13_4 (by decide) (fun _ _ he hv kk => th_get (ci := 11) (C := RX11) (T := TX11) (N := 66) hx hb hts inX11 hown hK hH he rfl 4 (by decide) fl6 hv dX11_count_160 kk) ?_
                                  refine lv_iload_n hx hb dX11_count_163 rfl (lv_at hl 1 rfl) ?_
                                  refine lv_bipush (v := I 13) hx hb dX11_count_164 (by decide) ?_
                                  refine lv_isub hx hb dX11_count_166 ?_
                                  refine nq_top (I_sub _ _) ?_
                                  obtain ⟨f_91, ef_92⟩ : ∃ f9, aF σ_s_1 (ad E a 4) = f9 := ⟨_, rfl⟩
                                  refine m_iald hx hb hK hH hO h_a k13_4 isA1 ef_92 ⟨by omega, by omega⟩ (by omega) (by omega) dX11_count_167 (fun z_90 ez_90 rz_90 elx9 => ?_)
                                  exact th_iret hx hb hr hlocks hH hS (z := z_90) rz_90 ⟨hO, hF, hM, by rw [show aF σ_s_1 (ad E a 1) = f1 from e_2, show aF σ_s_1 (ad E a 37) = f37 from e_3, show aF σ_s_1 (ad E a 61) = f61 from e_4, show aF σ_s_1 (ad E a 62) = f62 from e_5, show aF σ_s_1 (ad E a 39) = f39 from e_6, show aF σ_s_1 (ad E a 40) = f40 from e_7, show aF σ_s_1 (ad E a 42) = f42 from e_8, show aF σ_s_1 (ad E a 43) = f43 from e_9, show aF σ_s_1 (ad E a 44) = f44 from e_10, show aF σ_s_1 (ad E a 45) = f45 from e_11, show aF σ_s_1 (ad E a 46) = f46 from e_12]; exact ⟨hj.n (by omega) (by omega) (by omega), by omega⟩⟩ dX11_count_168
                                · refine th_case (a := wh) (n := 16) (fun c_19_16 => ?_) (fun c_19_16 => ?_)
                                  · refine th_topq c_19_16 ?_
                                    refine lv_tableIn (tgt := 169) hx hb dX11_count_6 (by decide) (by decide) (by rfl) (by decide) ?_
                                    refine lv_aload_n hx hb dX11_count_169 rfl (lv_at hl 0 rfl) ?_
                                    obtain ⟨_, hc_93⟩ := hO.cell h_a (by decide) (ci := 11) rfl
                                    refine th_calli (va_runV (As := []) (rest := []) ⟨hx, hb, hml, hown, hts⟩ (m_sum l G y b0 σ_s_1 E hO a h_a f1 e_2 (hw1) (by omega)) (cwV 0 hts gX11_count_X11_sum rfl rfl rfl (by decide +kernel) ⟨Nat.le_of_ble_eq_true rfl, Nat.le_of_ble_eq_true rfl⟩) (th_PV hK hH rfl hc_93) rfl rfl hl.1 rfl (lv_room (Nat.le_of_ble_eq_true rfl)) dX11_count_170 ⟨Nat.le_of_ble_eq_true rfl, Nat.le_of_ble_eq_true rfl⟩) hS (fun z_96 σ_s_95 H locs rz_96 hw_94 hH hS => ?_)
                                    obtain ⟨e9, hw_94⟩ := hw_94
                                    replace e9 := e9.symm
                                    subst e9
                                    exact th_iret hx hb hr hlocks hH hS (z := z_96) rz_96 ⟨hO, hF, hM, by rw [show aF σ_s_1 (ad E a 1) = f1 from e_2, show aF σ_s_1 (ad E a 37) = f37 from e_3, show aF σ_s_1 (ad E a 61) = f61 from e_4, show aF σ_s_1 (ad E a 62) = f62 from e_5, show aF σ_s_1 (ad E a 39) = f39 from e_6, show aF σ_s_1 (ad E a 40) = f40 from e_7, show aF σ_s_1 (ad E a 42) = f42 from e_8, show aF σ_s_1 (ad E a 43) = f43 from e_9, show aF σ_s_1 (ad E a 44) = f44 from e_10, show aF σ_s_1 (ad E a 45) = f45 from e_11, show aF σ_s_1 (ad E a 46) = f46 from e_12]; exact ⟨hj.n (by omega) (by omega) (by omega), by omega⟩⟩ dX11_count_173
                                  · refine th_case (a := wh) (n := 17) (fun c_19_17 => ?_) (fun c_19_17 => ?_)
                                    · refine th_topq c_19_17 ?_
                                      refine lv_tableIn (tgt := 174) hx hb dX11_count_6 (by decide) (by decide) (by rfl) (by decide) ?_
                                      refine lv_aload_n hx hb dX11_count_174 rfl (lv_at hl 0 rfl) ?_
                                      obtain ⟨_, hc_97⟩ := hO.cell h_a (by decide) (ci := 11) rfl
                                      refine th_calli (va_runV (As := []) (rest := []) ⟨hx, hb, hml, hown, hts⟩ (m_fits l G y b0 σ_s_1 E hO a h_a f1 e_2 f8 e_13 (hw1) (by omega)) (cwV 0 hts gX11_count_X11_fits rfl rfl rfl (by decide +kernel) ⟨Nat.le_of_ble_eq_true rfl, Nat.le_of_ble_eq_true rfl⟩) (th_PV hK hH rfl hc_97) rfl rfl hl.1 rfl (lv_room (Nat.le_of_ble_eq_true rfl)) dX11_count_175 ⟨Nat.le_of_ble_eq_true rfl, Nat.le_of_ble_eq_true rfl⟩) hS (fun z_100 σ_s_99 H locs rz_100 hw_98 hH hS => ?_)
                                      obtain ⟨hO9, hF9, hM9, hw_98⟩ := hw_98
                                      replace hM := hM.tu hM9 (by decide)
                                      replace hF := hF.tu hF9 (by decide)
                                      have e_101 : aF σ_s_99 (ad E a 1) = f1 := (hM9.a (by decide) (by decide)).trans e_2
                                      have e_102 : aF σ_s_99 (ad E a 37) = f37 := (hM9.a (by decide) (by decide)).trans e_3
                                      have e_103 : aF σ_s_99 (ad E a 61) = f61 := (hM9.a (by decide) (by decide)).trans e_4
                                      have e_104 : aF σ_s_99 (ad E a 62) = f62 := (hM9.a (by decide) (by decide)).trans e_5
                                      have e_105 : aF σ_s_99 (ad E a 39) = f39 := (hM9.a (by decide) (by decide)).trans e_6
                                      have e_106 : aF σ_s_99 (ad E a 40) = f40 := (hM9.a (by decide) (by decide)).trans e_7
                                      have e_107 : aF σ_s_99 (ad E a 42) = f42 := (hM9.a (by decide) (by decide)).trans e_8
                                      have e_108 : aF σ_s_99 (ad E a 43) = f43 := (hM9.a (by decide) (by decide)).trans e_9
                                      have e_109 : aF σ_s_99 (ad E a 44) = f44 := (hM9.a (by decide) (by decide)).trans e_10
                                      have e_110 : aF σ_s_99 (ad E a 45) = f45 := (hM9.a (by decide) (by decide)).trans e_11
                                      have e_111 : aF σ_s_99 (ad E a 46) = f46 := (hM9.a (by decide) (by decide)).trans e_12
                                      have e_112 : aF σ_s_99 (ad E a 8) = f8 := (hM9.a (by decide) (by decide)).trans e_13
                                      have e_113 : gI σ_s_99 a 36 = a360 := (hM9.i (by decide)).trans e_14
                                      have e_114 : gI σ_s_99 a 58 = a580 := (hM9.i (by decide)).trans e_15
                                      have e_115 : gI σ_s_99 a 59 = a590 := (hM9.i (by decide)).trans e_16
                                      have e_116 : gI σ_s_99 a 12 = a120 := (hM9.i (by decide)).trans e_17
                                      have e_117 : gI σ_s_99 a 0 = 0 := (hM9.i (by decide)).trans e_18
                                      replace hO := hO9
                                      exact th_iret hx hb hr hlocks hH hS (z := z_100) rz_100 ⟨hO, hF, hM, by rw [show aF σ_s_99 (ad E a 1) = f1 from e_101, show aF σ_s_99 (ad E a 37) = f37 from e_102, show aF σ_s_99 (ad E a 61) = f61 from e_103, show aF σ_s_99 (ad E a 62) = f62 from e_104, show aF σ_s_99 (ad E a 39) = f39 from e_105, show aF σ_s_99 (ad E a 40) = f40 from e_106, show aF σ_s_99 (ad E a 42) = f42 from e_107, show aF σ_s_99 (ad E a 43) = f43 from e_108, show aF σ_s_99 (ad E a 44) = f44 from e_109, show aF σ_s_99 (ad E a 45) = f45 from e_110, show aF σ_s_99 (ad E a 46) = f46 from e_111]; exact ⟨hj.n (by omega) (by omega) (by omega), by omega⟩⟩ dX11_count_178
                                    · refine th_tableOut (tgt := 179) hx hb rwh dX11_count_6 (by omega) (by decide) ?_
                                      refine lv_aload_n hx hb dX11_count_179 rfl (lv_at hl 0 rfl) ?_
                                      refine lv_iconst (v := I 1) hx hb dX11_count_180 (by decide) ?_
                                      obtain ⟨_, hc_118⟩ := hO.cell h_a (by decide) (ci := 11) rfl
                                      refine th_calli (va_runV (As := [.int (I 1)]) (rest := []) ⟨hx, hb, hml, hown, hts⟩ (m_fail l G y b0 σ_s_1 E hO a h_a 1 (show rng 1 from (show rng 1 from ⟨by decide, by decide⟩))) (cwV 1 hts gX11_count_X11_fail rfl rfl rfl (by decide +kernel) ⟨Nat.le_of_ble_eq_true rfl, Nat.le_of_ble_eq_true rfl⟩) (th_PV hK hH rfl hc_118) rfl rfl hl.1 rfl (lv_room (Nat.le_of_ble_eq_true rfl)) dX11_count_181 ⟨Nat.le_of_ble_eq_true rfl, Nat.le_of_ble_eq_true rfl⟩) hS (fun z_121 σ_s_120 H locs rz_121 hw_119 hH hS => ?_)
                                      obtain ⟨hO9, hF9, hM9, hw_119⟩ := hw_119
                                      replace hM := hM.tu hM9 (by decide)
                                      replace hF := hF.tu hF9 (by decide)
                                      have e_122 : aF σ_s_120 (ad E a 1) = f1 := (hM9.a (by decide) (by decide)).trans e_2
                                      have e_123 : aF σ_s_120 (ad E a 37) = f37 := (hM9.a (by decide) (by decide)).trans e_3
                                      have e_124 : aF σ_s_120 (ad E a 61) = f61 := (hM9.a (by decide) (by decide)).trans e_4
                                      have e_125 : aF σ_s_120 (ad E a 62) = f62 := (hM9.a (by decide) (by decide)).trans e_5
                                      have e_126 : aF σ_s_120 (ad E a 39) = f39 := (hM9.a (by decide) (by decide)).trans e_6
                                      have e_127 : aF σ_s_120 (ad E a 40) = f40 := (hM9.a (by decide) (by decide)).trans e_7
                                      have e_128 : aF σ_s_120 (ad E a 42) = f42 := (hM9.a (by decide) (by decide)).trans e_8
                                      have e_129 : aF σ_s_120 (ad E a 43) = f43 := (hM9.a (by decide) (by decide)).trans e_9
                                      have e_130 : aF σ_s_120 (ad E a 44) = f44 := (hM9.a (by decide) (by decide)).trans e_10
                                      have e_131 : aF σ_s_120 (ad E a 45) = f45 := (hM9.a (by decide) (by decide)).trans e_11
                                      have e_132 : aF σ_s_120 (ad E a 46) = f46 := (hM9.a (by decide) (by decide)).trans e_12
                                      have e_133 : aF σ_s_120 (ad E a 8) = f8 := (hM9.a (by decide) (by decide)).trans e_13
                                      have e_134 : gI σ_s_120 a 36 = a360 := (hM9.i (by decide)).trans e_14
                                      have e_135 : gI σ_s_120 a 58 = a580 := (hM9.i (by decide)).trans e_15
                                      have e_136 : gI σ_s_120 a 59 = a590 := (hM9.i (by decide)).trans e_16
                                      have e_137 : gI σ_s_120 a 12 = a120 := (hM9.i (by decide)).trans e_17
                                      replace hO := hO9
                                      exact th_iret hx hb hr hlocks hH hS (z := z_121) rz_121 ⟨hO, hF, hM, by rw [show aF σ_s_120 (ad E a 1) = f1 from e_122, show aF σ_s_120 (ad E a 37) = f37 from e_123, show aF σ_s_120 (ad E a 61) = f61 from e_124, show aF σ_s_120 (ad E a 62) = f62 from e_125, show aF σ_s_120 (ad E a 39) = f39 from e_126, show aF σ_s_120 (ad E a 40) = f40 from e_127, show aF σ_s_120 (ad E a 42) = f42 from e_128, show aF σ_s_120 (ad E a 43) = f43 from e_129, show aF σ_s_120 (ad E a 44) = f44 from e_130, show aF σ_s_120 (ad E a 45) = f45 from e_131, show aF σ_s_120 (ad E a 46) = f46 from e_132]; exact ⟨hj.n (by omega) (by omega) (by omega), by omega⟩⟩ dX11_count_184
