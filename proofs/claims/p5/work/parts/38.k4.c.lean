set_option maxHeartbeats 4000000 in
set_option maxRecDepth 100000 in
theorem j_thing (l : Launch) (G : va_G) (y : Nat → ClassId) (b0 : Nat) (σ : th_M) (E : th_E) (hO : ok y E σ) (a : Nat) (h_a : kd E a = 13) (i : Int) (ri : rng i) (wh : Int) (rwh : rng wh) (f1 : Nat → Int32) (ef1 : aF σ (ad E a 1) = f1) (f37 : Nat → Int32) (ef37 : aF σ (ad E a 37) = f37) (f61 : Nat → Int32) (ef61 : aF σ (ad E a 61) = f61) (f62 : Nat → Int32) (ef62 : aF σ (ad E a 62) = f62) (f39 : Nat → Int32) (ef39 : aF σ (ad E a 39) = f39) (f40 : Nat → Int32) (ef40 : aF σ (ad E a 40) = f40) (f42 : Nat → Int32) (ef42 : aF σ (ad E a 42) = f42) (f43 : Nat → Int32) (ef43 : aF σ (ad E a 43) = f43) (f44 : Nat → Int32) (ef44 : aF σ (ad E a 44) = f44) (f45 : Nat → Int32) (ef45 : aF σ (ad E a 45) = f45) (f46 : Nat → Int32) (ef46 : aF σ (ad E a 46) = f46) (f8 : Nat → Int32) (ef8 : aF σ (ad E a 8) = f8) (hy0 : jw f1 f37 f61 f62 f39 f40 f42 f43 f44 f45 f46 (gI σ a 36) (gI σ a 58) (gI σ a 59)) : Met l yX11_thing wsX11_thing ({ frames := 132, cells := 0, slots := 0, locals := 3918 }) (th_P G y b0 σ [.ref a, .int (I i), .int (I wh)]) (th_Qi G b0 (fun r σ1 => ok y E σ1 ∧ fr [13] E σ σ1 ∧ fm [0, 9, 10, 11, 13, 14, 15, 16, 17, 18, 19, 20, 23, 24, 25, 26, 27, 28, 29, 30] E σ σ1 a ∧ (jw (aF σ1 (ad E a 1)) (aF σ1 (ad E a 37)) (aF σ1 (ad E a 61)) (aF σ1 (ad E a 62)) (aF σ1 (ad E a 39)) (aF σ1 (ad E a 40)) (aF σ1 (ad E a 42)) (aF σ1 (ad E a 43)) (aF σ1 (ad E a 44)) (aF σ1 (ad E a 45)) (aF σ1 (ad E a 46)) (gI σ1 a 36) (gI σ1 a 58) (gI σ1 a 59) ∧ gI σ1 a 12 = gI σ a 12))) 0 0 (th_A b0) := by
  refine Met.ofW (cc := cX11_thing) (maxL := 3) (ret := (some .int)) (by decide) rfl ?_
  intro p e s m args below meth c s₁ B hml hv
  obtain ⟨rfl, hH, hK⟩ := hv
  have hx := B.exec
  have hb := B.bytes
  have hr := B.returns
  have hts := atoms_spec (ws := wsX11_thing) B.pre
  have hown : s.vm.findClass RX11 = some m.cls := findClass_of_methodNamed B.named
  have hlocks := B.notSynchronized
  have h00 : b0 ≤ s.heap.size := hH.1
  have hS : va_S (th_A b0) s.heap s.heap [] := va_S.rf
  have hF : fr [13] E σ σ := fr.rf
  have hM : fm [0, 9, 10, 11, 13, 14, 15, 16, 17, 18, 19, 20, 23, 24, 25, 26, 27, 28, 29, 30] E σ σ a := fm.rf
  have hj := hy0
  have hw1 := hj.1.1.1
  have hm1 := hj.1.2.1
  have hm2 := hj.1.2.2.1
  have hm3 := hj.2.2.2.2.1
  have hm4 := hj.2.2.2.2.2.1
  have inX11 : ∀ w ∈ wsX110, w ∈ wsX11_thing := by decide +kernel
  have fl0 := hts (.fieldLink RX11 111 "NestQueryModel" "code" "I") (by decide +kernel)
  have fl1 := hts (.fieldLink RX11 9 "NestQueryModel" "tree" "[I") (by decide +kernel)
  have hl := lv_entry ([.ref a, .int (I i), .int (I wh)]) (n := 3) (Nat.le_of_ble_eq_true rfl)
  rw [lg_entry_eq]
  generalize (lg_sl ([.ref a, .int (I i), .int (I wh)]) ++ List.replicate (3 - (lg_sl ([.ref a, .int (I i), .int (I wh)])).length) Slot.unset).toArray = ls at hl ⊢
  have hl : lv_has ls 3 [(0, .ref a), (1, .int (I i)), (2, .int (I wh))] := hl
  obtain ⟨a360, ea360, ra360, la360, ua360⟩ := hO.gi h_a (by decide) k13_36
  obtain ⟨a580, ea580, ra580, la580, ua580⟩ := hO.gi h_a (by decide) k13_58
  obtain ⟨a590, ea590, ra590, la590, ua590⟩ := hO.gi h_a (by decide) k13_59
  obtain ⟨a120, ea120, ra120, la120, ua120⟩ := hO.gi h_a (by decide) k13_12
  refine lv_aload_n hx hb dX11_thing_0 rfl (lv_at hl 0 rfl) ?_
  refine lv_iconst (v := I 0) hx hb dX11_thing_1 (by decide) ?_
  refine ok.putJ hO h_a k13_0 (show rng 0 from ⟨by decide, by decide⟩) (by omega) (by omega) (fun _ he hl9 kk => th_put (ci := 11) (v := .int (I 0)) (ty := .int) (C := RX11) (T := TX11) (N := 66) hx hb hts inX11 tyX11 tyX11_ok nmX11 hown hK hH hS h00 he rfl 0 (by decide) fl0 rfl (by decide +kernel) rfl rfl hl9 dX11_thing_2 kk) (fun σ_s_1 H locs hO hF9 hM9 hg9 ha9 hH hS => ?_)
  replace hM := hM.tu hM9 (by decide)
  replace hF := hF.tu hF9 (by decide)
  have e_2 : aF σ_s_1 (ad E a 1) = f1 := (hM9.a (by decide) (by decide)).trans ef1
  have e_3 : aF σ_s_1 (ad E a 37) = f37 := (hM9.a (by decide) (by decide)).trans ef37
  have e_4 : aF σ_s_1 (ad E a 61) = f61 := (hM9.a (by decide) (by decide)).trans ef61
  have e_5 : aF σ_s_1 (ad E a 62) = f62 := (hM9.a (by decide) (by decide)).trans ef62
  have e_6 : aF σ_s_1 (ad E a 39) = f39 := (hM9.a (by decide) (by decide)).trans ef39
  have e_7 : aF σ_s_1 (ad E a 40) = f40 := (hM9.a (by decide) (by decide)).trans ef40
  have e_8 : aF σ_s_1 (ad E a 42) = f42 := (hM9.a (by decide) (by decide)).trans ef42
  have e_9 : aF σ_s_1 (ad E a 43) = f43 := (hM9.a (by decide) (by decide)).trans ef43
  have e_10 : aF σ_s_1 (ad E a 44) = f44 := (hM9.a (by decide) (by decide)).trans ef44
  have e_11 : aF σ_s_1 (ad E a 45) = f45 := (hM9.a (by decide) (by decide)).trans ef45
  have e_12 : aF σ_s_1 (ad E a 46) = f46 := (hM9.a (by decide) (by decide)).trans ef46
  have e_13 : aF σ_s_1 (ad E a 8) = f8 := (hM9.a (by decide) (by decide)).trans ef8
  have e_14 : gI σ_s_1 a 36 = a360 := (hM9.i (by decide)).trans ea360
  have e_15 : gI σ_s_1 a 58 = a580 := (hM9.i (by decide)).trans ea580
  have e_16 : gI σ_s_1 a 59 = a590 := (hM9.i (by decide)).trans ea590
  have e_17 : gI σ_s_1 a 12 = a120 := (hM9.i (by decide)).trans ea120
  have e_18 := hg9
  refine lv_aload_n hx hb dX11_thing_5 rfl (lv_at hl 0 rfl) ?_
  refine lv_iload_n hx hb dX11_thing_6 rfl (lv_at hl 1 rfl) ?_
  obtain ⟨_, hc_19⟩ := hO.cell h_a (by decide) (ci := 11) rfl
  refine th_calli (va_runV (As := [.int (I i)]) (rest := []) ⟨hx, hb, hml, hown, hts⟩ (m_isThing l G y b0 σ_s_1 E hO a h_a i (show rng i from ri) f1 e_2 (by omega)) (cwV 1 hts gX11_thing_X11_isThing rfl rfl rfl (by decide +kernel) ⟨Nat.le_of_ble_eq_true rfl, Nat.le_of_ble_eq_true rfl⟩) (th_PV hK hH rfl hc_19) rfl rfl hl.1 rfl (lv_room (Nat.le_of_ble_eq_true rfl)) dX11_thing_7 ⟨Nat.le_of_ble_eq_true rfl, Nat.le_of_ble_eq_true rfl⟩) hS (fun z_22 σ_s_21 H locs rz_22 hw_20 hH hS => ?_)
  obtain ⟨e9, bhw_20, hw_20⟩ := hw_20
  replace e9 := e9.symm
  subst e9
  have hw_20 : (z_22 = 1 ∧ 0 ≤ i ∧ i < mS f1 0) ∨ (z_22 = 0 ∧ ¬ (0 ≤ i ∧ i < mS f1 0)) := hw_20
  refine lv_if_ne (tgt := 19) hx hb dX11_thing_10 (by decide) (fun c_23 => ?_) (fun c_23 => ?_)
  · replace c_23 := mt (I_eq (a := z_22) (b := 0) rz_22 (show rng 0 from ⟨by decide, by decide⟩)).mpr c_23
    have hk9 := hw1 i (by omega) (by omega)
    refine lv_iload_n hx hb dX11_thing_19 rfl (lv_at hl 2 rfl) ?_
    refine th_case (a := wh) (n := 0) (fun c_24_0 => ?_) (fun c_24_0 => ?_)
    · refine th_topq c_24_0 ?_
      refine lv_tableIn (tgt := 76) hx hb dX11_thing_20 (by decide) (by decide) (by rfl) (by decide) ?_
      refine lv_aload_n hx hb dX11_thing_76 rfl (lv_at hl 0 rfl) ?_
      refine ok.getR hO h_a (by decide) k13_1 (by decide) (fun _ _ he hv kk => th_get (ci := 11) (C := RX11) (T := TX11) (N := 66) hx hb hts inX11 hown hK hH he rfl 1 (by decide) fl1 hv dX11_thing_77 kk) ?_
      refine lv_iload_n hx hb dX11_thing_80 rfl (lv_at hl 1 rfl) ?_
      refine th_calli (va_runS (As := [.ref (ad E a 1), .int (I i)]) (rest := []) ⟨hx, hb, hml, hown, hts⟩ (w_kind l G y b0 σ_s_1 E hO (ad E a 1) 240 f1 (hO.roww h_a k13_1 isA1 e_2 rfl) i (show rng i from ri) (by omega) (by omega) (by omega)) (va_cwS 2 hts gX11_thing_X11_kind rfl rfl rfl (by decide +kernel) ⟨Nat.le_of_ble_eq_true rfl, Nat.le_of_ble_eq_true rfl⟩) (th_PS hK hH) rfl rfl hl.1 rfl (lv_room (Nat.le_of_ble_eq_true rfl)) dX11_thing_81 ⟨Nat.le_of_ble_eq_true rfl, Nat.le_of_ble_eq_true rfl⟩) hS (fun z_27 σ_s_26 H locs rz_27 hw_25 hH hS => ?_)
      obtain ⟨e9, hw_25⟩ := hw_25
      replace e9 := e9.symm
      subst e9
      have hw_25 : z_27 = mK f1 i := hw_25
      exact th_iret hx hb hr hlocks hH hS (z := z_27) rz_27 ⟨hO, hF, hM, by rw [show aF σ_s_1 (ad E a 1) = f1 from e_2, show aF σ_s_1 (ad E a 37) = f37 from e_3, show aF σ_s_1 (ad E a 61) = f61 from e_4, show aF σ_s_1 (ad E a 62) = f62 from e_5, show aF σ_s_1 (ad E a 39) = f39 from e_6, show aF σ_s_1 (ad E a 40) = f40 from e_7, show aF σ_s_1 (ad E a 42) = f42 from e_8, show aF σ_s_1 (ad E a 43) = f43 from e_9, show aF σ_s_1 (ad E a 44) = f44 from e_10, show aF σ_s_1 (ad E a 45) = f45 from e_11, show aF σ_s_1 (ad E a 46) = f46 from e_12]; exact ⟨hj.n (by omega) (by omega) (by omega), by omega⟩⟩ dX11_thing_84
    · refine th_case (a := wh) (n := 1) (fun c_24_1 => ?_) (fun c_24_1 => ?_)
      · refine th_topq c_24_1 ?_
        refine lv_tableIn (tgt := 85) hx hb dX11_thing_20 (by decide) (by decide) (by rfl) (by decide) ?_
        refine lv_aload_n hx hb dX11_thing_85 rfl (lv_at hl 0 rfl) ?_
        refine ok.getR hO h_a (by decide) k13_1 (by decide) (fun _ _ he hv kk => th_get (ci := 11) (C := RX11) (T := TX11) (N := 66) hx hb hts inX11 hown hK hH he rfl 1 (by decide) fl1 hv dX11_thing_86 kk) ?_
        refine lv_iload_n hx hb dX11_thing_89 rfl (lv_at hl 1 rfl) ?_
        refine th_calli (va_runS (As := [.ref (ad E a 1), .int (I i)]) (rest := []) ⟨hx, hb, hml, hown, hts⟩ (w_parentOf l G y b0 σ_s_1 E hO (ad E a 1) 240 f1 (hO.roww h_a k13_1 isA1 e_2 rfl) i (show rng i from ri) (by omega) (by omega) ((hw1.few (by omega) (by omega))) (by omega)) (va_cwS 2 hts gX11_thing_X11_parentOf rfl rfl rfl (by decide +kernel) ⟨Nat.le_of_ble_eq_true rfl, Nat.le_of_ble_eq_true rfl⟩) (th_PS hK hH) rfl rfl hl.1 rfl (lv_room (Nat.le_of_ble_eq_true rfl)) dX11_thing_90 ⟨Nat.le_of_ble_eq_true rfl, Nat.le_of_ble_eq_true rfl⟩) hS (fun z_30 σ_s_29 H locs rz_30 hw_28 hH hS => ?_)
        obtain ⟨e9, hw_28⟩ := hw_28
        replace e9 := e9.symm
        subst e9
        have hw_28 : z_30 = -1 ∨ (0 ≤ z_30 ∧ z_30 < i) := hw_28
        exact th_iret hx hb hr hlocks hH hS (z := z_30) rz_30 ⟨hO, hF, hM, by rw [show aF σ_s_1 (ad E a 1) = f1 from e_2, show aF σ_s_1 (ad E a 37) = f37 from e_3, show aF σ_s_1 (ad E a 61) = f61 from e_4, show aF σ_s_1 (ad E a 62) = f62 from e_5, show aF σ_s_1 (ad E a 39) = f39 from e_6, show aF σ_s_1 (ad E a 40) = f40 from e_7, show aF σ_s_1 (ad E a 42) = f42 from e_8, show aF σ_s_1 (ad E a 43) = f43 from e_9, show aF σ_s_1 (ad E a 44) = f44 from e_10, show aF σ_s_1 (ad E a 45) = f45 from e_11, show aF σ_s_1 (ad E a 46) = f46 from e_12]; exact ⟨hj.n (by omega) (by omega) (by omega), by omega⟩⟩ dX11_thing_93
      · refine th_case (a := wh) (n := 2) (fun c_24_2 => ?_) (fun c_24_2 => ?_)
        · refine th_topq c_24_2 ?_
          refine lv_tableIn (tgt := 94) hx hb dX11_thing_20 (by decide) (by decide) (by rfl) (by decide) ?_
          refine lv_aload_n hx hb dX11_thing_94 rfl (lv_at hl 0 rfl) ?_
          refine ok.getR hO h_a (by decide) k13_1 (by decide) (fun _ _ he hv kk => th_get (ci := 11) (C := RX11) (T := TX11) (N := 66) hx hb hts inX11 hown hK hH he rfl 1 (by decide) fl1 hv dX11_thing_95 kk) ?_
          refine lv_iload_n hx hb dX11_thing_98 rfl (lv_at hl 1 rfl) ?_
          refine th_calli (va_runS (As := [.ref (ad E a 1), .int (I i)]) (rest := []) ⟨hx, hb, hml, hown, hts⟩ (w_placeOf l G y b0 σ_s_1 E hO (ad E a 1) 240 f1 (hO.roww h_a k13_1 isA1 e_2 rfl) i (show rng i from ri) (by omega) (by omega) (hw1) (by omega) (by omega)) (va_cwS 2 hts gX11_thing_X11_placeOf rfl rfl rfl (by decide +kernel) ⟨Nat.le_of_ble_eq_true rfl, Nat.le_of_ble_eq_true rfl⟩) (th_PS hK hH) rfl rfl hl.1 rfl (lv_room (Nat.le_of_ble_eq_true rfl)) dX11_thing_99 ⟨Nat.le_of_ble_eq_true rfl, Nat.le_of_ble_eq_true rfl⟩) hS (fun z_33 σ_s_32 H locs rz_33 hw_31 hH hS => ?_)
          obtain ⟨e9, hw_31⟩ := hw_31
          replace e9 := e9.symm
          subst e9
          have hw_31 : -1 ≤ z_33 ∧ z_33 ≤ 4000 := hw_31
          exact th_iret hx hb hr hlocks hH hS (z := z_33) rz_33 ⟨hO, hF, hM, by rw [show aF σ_s_1 (ad E a 1) = f1 from e_2, show aF σ_s_1 (ad E a 37) = f37 from e_3, show aF σ_s_1 (ad E a 61) = f61 from e_4, show aF σ_s_1 (ad E a 62) = f62 from e_5, show aF σ_s_1 (ad E a 39) = f39 from e_6, show aF σ_s_1 (ad E a 40) = f40 from e_7, show aF σ_s_1 (ad E a 42) = f42 from e_8, show aF σ_s_1 (ad E a 43) = f43 from e_9, show aF σ_s_1 (ad E a 44) = f44 from e_10, show aF σ_s_1 (ad E a 45) = f45 from e_11, show aF σ_s_1 (ad E a 46) = f46 from e_12]; exact ⟨hj.n (by omega) (by omega) (by omega), by omega⟩⟩ dX11_thing_102
        · refine th_case (a := wh) (n := 3) (fun c_24_3 => ?_) (fun c_24_3 => ?_)
          · refine th_topq c_24_3 ?_
            refine lv_tableIn (tgt := 103) hx hb dX11_thing_20 (by decide) (by decide) (by rfl) (by decide) ?_
            refine lv_aload_n hx hb dX11_thing_103 rfl (lv_at hl 0 rfl) ?_
            refine ok.getR hO h_a (by decide) k13_1 (by decide) (fun _ _ he hv kk => th_get (ci := 11) (C := RX11) (T := TX11) (N := 66) hx hb hts inX11 hown hK hH he rfl 1 (by decide) fl1 hv dX11_thing_104 kk) ?_
            refine lv_iload_n hx hb dX11_thing_107 rfl (lv_at hl 1 rfl) ?_
            refine th_calli (va_runS (As := [.ref (ad E a 1), .int (I i)]) (rest := []) ⟨hx, hb, hml, hown, hts⟩ (w_depthOf l G y b0 σ_s_1 E hO (ad E a 1) 240 f1 (hO.roww h_a k13_1 isA1 e_2 rfl) i (show rng i from ri) (by omega) (by omega) ((hw1.few (by omega) (by omega))) (by omega)) (va_cwS 2 hts gX11_thing_X11_depthOf rfl rfl rfl (by decide +kernel) ⟨Nat.le_of_ble_eq_true rfl, Nat.le_of_ble_eq_true rfl⟩) (th_PS hK hH) rfl rfl hl.1 rfl (lv_room (Nat.le_of_ble_eq_true rfl)) dX11_thing_108 ⟨Nat.le_of_ble_eq_true rfl, Nat.le_of_ble_eq_true rfl⟩) hS (fun z_36 σ_s_35 H locs rz_36 hw_34 hH hS => ?_)
            obtain ⟨e9, hw_34⟩ := hw_34
            replace e9 := e9.symm
            subst e9
            have hw_34 : z_36 = cn f1 i i.toNat ∧ 0 ≤ z_36 ∧ z_36 ≤ i := hw_34
            exact th_iret hx hb hr hlocks hH hS (z := z_36) rz_36 ⟨hO, hF, hM, by rw [show aF σ_s_1 (ad E a 1) = f1 from e_2, show aF σ_s_1 (ad E a 37) = f37 from e_3, show aF σ_s_1 (ad E a 61) = f61 from e_4, show aF σ_s_1 (ad E a 62) = f62 from e_5, show aF σ_s_1 (ad E a 39) = f39 from e_6, show aF σ_s_1 (ad E a 40) = f40 from e_7, show aF σ_s_1 (ad E a 42) = f42 from e_8, show aF σ_s_1 (ad E a 43) = f43 from e_9, show aF σ_s_1 (ad E a 44) = f44 from e_10, show aF σ_s_1 (ad E a 45) = f45 from e_11, show aF σ_s_1 (ad E a 46) = f46 from e_12]; exact ⟨hj.n (by omega) (by omega) (by omega), by omega⟩⟩ dX11_thing_111
          · refine th_case (a := wh) (n := 4) (fun c_24_4 => ?_) (fun c_24_4 => ?_)
            · refine th_topq c_24_4 ?_
              refine lv_tableIn (tgt := 112) hx hb dX11_thing_20 (by decide) (by decide) (by rfl) (by decide) ?_
              refine lv_aload_n hx hb dX11_thing_112 rfl (lv_at hl 0 rfl) ?_
              refine ok.getR hO h_a (by decide) k13_1 (by decide) (fun _ _ he hv kk => th_get (ci := 11) (C := RX11) (T := TX11) (N := 66) hx hb hts inX11 hown hK hH he rfl 1 (by decide) fl1 hv dX11_thing_113 kk) ?_
              refine lv_iload_n hx hb dX11_thing_116 rfl (lv_at hl 1 rfl) ?_
              refine th_calli (va_runS (As := [.ref (ad E a 1), .int (I i)]) (rest := []) ⟨hx, hb, hml, hown, hts⟩ (w_many l G y b0 σ_s_1 E hO (ad E a 1) 240 f1 (hO.roww h_a k13_1 isA1 e_2 rfl) i (show rng i from ri) (by omega) (by omega) (by first | exact hw1 | exact (hw1).sub (by omega) (by omega)) (by omega) (by omega) (by omega)) (va_cwS 2 hts gX11_thing_X11_many rfl rfl rfl (by decide +kernel) ⟨Nat.le_of_ble_eq_true rfl, Nat.le_of_ble_eq_true rfl⟩) (th_PS hK hH) rfl rfl hl.1 rfl (lv_room (Nat.le_of_ble_eq_true rfl)) dX11_thing_117 ⟨Nat.le_of_ble_eq_true rfl, Nat.le_of_ble_eq_true rfl⟩) hS (fun z_39 σ_s_38 H locs rz_39 hw_37 hH hS => ?_)
              obtain ⟨e9, hw_37⟩ := hw_37
              replace e9 := e9.symm
              subst e9
              have hw_37 : chn f1 (i + 1) z_39 (i + mS f1 i) ∧ 0 ≤ z_39 ∧ z_39 < mS f1 i := hw_37
              exact th_iret hx hb hr hlocks hH hS (z := z_39) rz_39 ⟨hO, hF, hM, by rw [show aF σ_s_1 (ad E a 1) = f1 from e_2, show aF σ_s_1 (ad E a 37) = f37 from e_3, show aF σ_s_1 (ad E a 61) = f61 from e_4, show aF σ_s_1 (ad E a 62) = f62 from e_5, show aF σ_s_1 (ad E a 39) = f39 from e_6, show aF σ_s_1 (ad E a 40) = f40 from e_7, show aF σ_s_1 (ad E a 42) = f42 from e_8, show aF σ_s_1 (ad E a 43) = f43 from e_9, show aF σ_s_1 (ad E a 44) = f44 from e_10, show aF σ_s_1 (ad E a 45) = f45 from e_11, show aF σ_s_1 (ad E a 46) = f46 from e_12]; exact ⟨hj.n (by omega) (by omega) (by omega), by omega⟩⟩ dX11_thing_120
            · refine th_case (a := wh) (n := 5) (fun c_24_5 => ?_) (fun c_24_5 => ?_)
              · refine th_topq c_24_5 ?_
                refine lv_tableIn (tgt := 121) hx hb dX11_thing_20 (by decide) (by decide) (by rfl) (by decide) ?_
                refine lv_iload_n hx hb dX11_thing_121 rfl (lv_at hl 1 rfl) ?_
                refine lv_aload_n hx hb dX11_thing_122 rfl (lv_at hl 0 rfl) ?_
                refine ok.getR hO h_a (by decide) k13_1 (by decide) (fun _ _ he hv kk => th_get (ci := 11) (C := RX11) (T := TX11) (N := 66) hx hb hts inX11 hown hK hH he rfl 1 (by decide) fl1 hv dX11_thing_123 kk) ?_
                refine lv_iload_n hx hb dX11_thing_126 rfl (lv_at hl 1 rfl) ?_
                refine th_calli (va_runS (As := [.ref (ad E a 1), .int (I i)]) (rest := [.int (I i)]) ⟨hx, hb, hml, hown, hts⟩ (w_size l G y b0 σ_s_1 E hO (ad E a 1) 240 f1 (hO.roww h_a k13_1 isA1 e_2 rfl) i (show rng i from ri) (by omega) (by omega) (by omega)) (va_cwS 2 hts gX11_thing_X11_size rfl rfl rfl (by decide +kernel) ⟨Nat.le_of_ble_eq_true rfl, Nat.le_of_ble_eq_true rfl⟩) (th_PS hK hH) rfl rfl hl.1 rfl (lv_room (Nat.le_of_ble_eq_true rfl)) dX11_thing_127 ⟨Nat.le_of_ble_eq_true rfl, Nat.le_of_ble_eq_true rfl⟩) hS (fun z_42 σ_s_41 H locs rz_42 hw_40 hH hS => ?_)
                obtain ⟨e9, hw_40⟩ := hw_40
                replace e9 := e9.symm
                subst e9
                have hw_40 : z_42 = mS f1 i := hw_40
                refine lv_iadd hx hb dX11_thing_130 ?_
                refine nq_top (I_add _ _) ?_
                refine lv_iconst (v := I 1) hx hb dX11_thing_131 (by decide) ?_
                refine lv_isub hx hb dX11_thing_132 ?_
                refine nq_top (I_sub _ _) ?_
                exact th_iret hx hb hr hlocks hH hS (z := (i + z_42 - 1)) ⟨by omega, by omega⟩ ⟨hO, hF, hM, by rw [show aF σ_s_1 (ad E a 1) = f1 from e_2, show aF σ_s_1 (ad E a 37) = f37 from e_3, show aF σ_s_1 (ad E a 61) = f61 from e_4, show aF σ_s_1 (ad E a 62) = f62 from e_5, show aF σ_s_1 (ad E a 39) = f39 from e_6, show aF σ_s_1 (ad E a 40) = f40 from e_7, show aF σ_s_1 (ad E a 42) = f42 from e_8, show aF σ_s_1 (ad E a 43) = f43 from e_9, show aF σ_s_1 (ad E a 44) = f44 from e_10, show aF σ_s_1 (ad E a 45) = f45 from e_11, show aF σ_s_1 (ad E a 46) = f46 from e_12]; exact ⟨hj.n (by omega) (by omega) (by omega), by omega⟩⟩ dX11_thing_133
              · refine th_case (a := wh) (n := 6) (fun c_24_6 => ?_) (fun c_24_6 => ?_)
                · refine th_topq c_24_6 ?_
                  refine lv_tableIn (tgt := 134) hx hb dX11_thing_20 (by decide) (by decide) (by rfl) (by decide) ?_
                  refine lv_aload_n hx hb dX11_thing_134 rfl (lv_at hl 0 rfl) ?_
                  refine ok.getR hO h_a (by decide) k13_1 (by decide) (fun _ _ he hv kk => th_get (ci := 11) (C := RX11) (T := TX11) (N := 66) hx hb hts inX11 hown hK hH he rfl 1 (by decide) fl1 hv dX11_thing_135 kk) ?_
                  refine lv_iload_n hx hb dX11_thing_138 rfl (lv_at hl 1 rfl) ?_
                  refine th_calli (va_runS (As := [.ref (ad E a 1), .int (I i)]) (rest := []) ⟨hx, hb, hml, hown, hts⟩ (w_kind l G y b0 σ_s_1 E hO (ad E a 1) 240 f1 (hO.roww h_a k13_1 isA1 e_2 rfl) i (show rng i from ri) (by omega) (by omega) (by omega)) (va_cwS 2 hts gX11_thing_X11_kind rfl rfl rfl (by decide +kernel) ⟨Nat.le_of_ble_eq_true rfl, Nat.le_of_ble_eq_true rfl⟩) (th_PS hK hH) rfl rfl hl.1 rfl (lv_room (Nat.le_of_ble_eq_true rfl)) dX11_thing_139 ⟨Nat.le_of_ble_eq_true rfl, Nat.le_of_ble_eq_true rfl⟩) hS (fun z_45 σ_s_44 H locs rz_45 hw_43 hH hS => ?_)
                  obtain ⟨e9, hw_43⟩ := hw_43
                  replace e9 := e9.symm
                  subst e9
                  have hw_43 : z_45 = mK f1 i := hw_43
                  refine lv_if_ne (tgt := 158) hx hb dX11_thing_142 (by decide) (fun c_46 => ?_) (fun c_46 => ?_)
                  · replace c_46 := mt (I_eq (a := z_45) (b := 0) rz_45 (show rng 0 from ⟨by decide, by decide⟩)).mpr c_46
                    refine lv_sipush (v := I (-1000)) hx hb dX11_thing_158 (by decide) ?_
                    exact th_iret hx hb hr hlocks hH hS (z := (-1000)) (show rng (-1000) from ⟨by decide, by decide⟩) ⟨hO, hF, hM, by rw [show aF σ_s_1 (ad E a 1) = f1 from e_2, show aF σ_s_1 (ad E a 37) = f37 from e_3, show aF σ_s_1 (ad E a 61) = f61 from e_4, show aF σ_s_1 (ad E a 62) = f62 from e_5, show aF σ_s_1 (ad E a 39) = f39 from e_6, show aF σ_s_1 (ad E a 40) = f40 from e_7, show aF σ_s_1 (ad E a 42) = f42 from e_8, show aF σ_s_1 (ad E a 43) = f43 from e_9, show aF σ_s_1 (ad E a 44) = f44 from e_10, show aF σ_s_1 (ad E a 45) = f45 from e_11, show aF σ_s_1 (ad E a 46) = f46 from e_12]; exact ⟨hj.n (by omega) (by omega) (by omega), by omega⟩⟩ dX11_thing_161
                  · replace c_46 := (I_eq (a := z_45) (b := 0) rz_45 (show rng 0 from ⟨by decide, by decide⟩)).mp c_46
                    refine lv_aload_n hx hb dX11_thing_145 rfl (lv_at hl 0 rfl) ?_
                    refine ok.getR hO h_a (by decide) k13_1 (by decide) (fun _ _ he hv kk => th_get (ci := 11) (C := RX11) (T := TX11) (N := 66) hx hb hts inX11 hown hK hH he rfl 1 (by decide) fl1 hv dX11_thing_146 kk) ?_
                    refine lv_iconst (v := I 4) hx hb dX11_thing_149 (by decide) ?_
                    refine lv_iload_n hx hb dX11_thing_150 rfl (lv_at hl 1 rfl) ?_
                    refine lv_imul hx hb dX11_thing_151 ?_
                    refine nq_top (I_mul _ _) ?_
                    refine lv_iconst (v := I 1) hx hb dX11_thing_152 (by decide) ?_
                    refine lv_iadd hx hb dX11_thing_153 ?_
                    refine th_addo (fun z_47 rz_47 hz_47 => ?_)
                    refine m_iald hx hb hK hH hO h_a k13_1 isA1 e_2 rz_47 (by omega) (by omega) dX11_thing_154 (fun z_48 ez_48 rz_48 elx9 => ?_)
                    refine lv_goto (tgt := 161) hx hb dX11_thing_155 (by decide) ?_
                    exact th_iret hx hb hr hlocks hH hS (z := z_48) rz_48 ⟨hO, hF, hM, by rw [show aF σ_s_1 (ad E a 1) = f1 from e_2, show aF σ_s_1 (ad E a 37) = f37 from e_3, show aF σ_s_1 (ad E a 61) = f61 from e_4, show aF σ_s_1 (ad E a 62) = f62 from e_5, show aF σ_s_1 (ad E a 39) = f39 from e_6, show aF σ_s_1 (ad E a 40) = f40 from e_7, show aF σ_s_1 (ad E a 42) = f42 from e_8, show aF σ_s_1 (ad E a 43) = f43 from e_9, show aF σ_s_1 (ad E a 44) = f44 from e_10, show aF σ_s_1 (ad E a 45) = f45 from e_11, show aF σ_s_1 (ad E a 46) = f46 from e_12]; exact ⟨hj.n (by omega) (by omega) (by omega), by omega⟩⟩ dX11_thing_161
                · refine th_case (a := wh) (n := 7) (fun c_24_7 => ?_) (fun c_24_7 => ?_)
                  · refine th_topq c_24_7 ?_
                    refine lv_tableIn (tgt := 162) hx hb dX11_thing_20 (by decide) (by decide) (by rfl) (by decide) ?_
                    refine lv_aload_n hx hb dX11_thing_162 rfl (lv_at hl 0 rfl) ?_
                    refine ok.getR hO h_a (by decide) k13_1 (by decide) (fun _ _ he hv kk => th_get (ci := 11) (C := RX11) (T := TX11) (N := 66) hx hb hts inX11 hown hK hH he rfl 1 (by decide) fl1 hv dX11_thing_163 kk) ?_
                    refine lv_iconst (v := I 4) hx hb dX11_thing_166 (by decide) ?_
                    refine lv_iload_n hx hb dX11_thing_167 rfl (lv_at hl 1 rfl) ?_
                    refine lv_imul hx hb dX11_thing_168 ?_
                    refine nq_top (I_mul _ _) ?_
                    refine lv_iconst (v := I 2) hx hb dX11_thing_169 (by decide) ?_
                    refine lv_iadd hx hb dX11_thing_170 ?_
                    refine th_addo (fun z_49 rz_49 hz_49 => ?_)
                    refine m_iald hx hb hK hH hO h_a k13_1 isA1 e_2 rz_49 (by omega) (by omega) dX11_thing_171 (fun z_50 ez_50 rz_50 elx9 => ?_)
                    refine th_calli (va_runS (As := [.int (I z_50)]) (rest := []) ⟨hx, hb, hml, hown, hts⟩ (w_lettersOf l G y b0 σ_s_1 E hO z_50 (show rng z_50 from rz_50)) (va_cwS 1 hts gX11_thing_X11_lettersOf rfl rfl rfl (by decide +kernel) ⟨Nat.le_of_ble_eq_true rfl, Nat.le_of_ble_eq_true rfl⟩) (th_PS hK hH) rfl rfl hl.1 rfl (lv_room (Nat.le_of_ble_eq_true rfl)) dX11_thing_172 ⟨Nat.le_of_ble_eq_true rfl, Nat.le_of_ble_eq_true rfl⟩) hS (fun z_53 σ_s_52 H locs rz_53 hw_51 hH hS => ?_)
                    obtain ⟨e9, hw_51⟩ := hw_51
                    replace e9 := e9.symm
                    subst e9
                    have hw_51 : 0 ≤ z_53 ∧ z_53 ≤ 7 := hw_51
                    exact th_iret hx hb hr hlocks hH hS (z := z_53) rz_53 ⟨hO, hF, hM, by rw [show aF σ_s_1 (ad E a 1) = f1 from e_2, show aF σ_s_1 (ad E a 37) = f37 from e_3, show aF σ_s_1 (ad E a 61) = f61 from e_4, show aF σ_s_1 (ad E a 62) = f62 from e_5, show aF σ_s_1 (ad E a 39) = f39 from e_6, show aF σ_s_1 (ad E a 40) = f40 from e_7, show aF σ_s_1 (ad E a 42) = f42 from e_8, show aF σ_s_1 (ad E a 43) = f43 from e_9, show aF σ_s_1 (ad E a 44) = f44 from e_10, show aF σ_s_1 (ad E a 45) = f45 from e_11, show aF σ_s_1 (ad E a 46) = f46 from e_12]; exact ⟨hj.n (by omega) (by omega) (by omega), by omega⟩⟩ dX11_thing_175
                  · refine th_case (a := wh) (n := 8) (fun c_24_8 => ?_) (fun c_24_8 => ?_)
                    · refine th_topq c_24_8 ?_
                      refine lv_tableIn (tgt := 176) hx hb dX11_thing_20 (by decide) (by decide) (by rfl) (by decide) ?_
                      refine lv_aload_n hx hb dX11_thing_176 rfl (lv_at hl 0 rfl) ?_
                      refine lv_iload_n hx hb dX11_thing_177 rfl (lv_at hl 1 rfl) ?_
                      obtain ⟨_, hc_54⟩ := hO.cell h_a (by decide) (ci := 11) rfl
                      refine th_calli (va_runV (As := [.int (I i)]) (rest := []) ⟨hx, hb, hml, hown, hts⟩ (m_twinsOf l G y b0 σ_s_1 E hO a h_a i (show rng i from ri) (by omega) (by omega) f1 e_2 (hw1) (by omega) (by omega)) (cwV 1 hts gX11_thing_X11_twinsOf rfl rfl rfl (by decide +kernel) ⟨Nat.le_of_ble_eq_true rfl, Nat.le_of_ble_eq_true rfl⟩) (th_PV hK hH rfl hc_54) rfl rfl hl.1 rfl (lv_room (Nat.le_of_ble_eq_true rfl)) dX11_thing_178 ⟨Nat.le_of_ble_eq_true rfl, Nat.le_of_ble_eq_true rfl⟩) hS (fun z_57 σ_s_56 H locs rz_57 hw_55 hH hS => ?_)
                      obtain ⟨e9, hw_55⟩ := hw_55
                      replace e9 := e9.symm
                      subst e9
                      exact th_iret hx hb hr hlocks hH hS (z := z_57) rz_57 ⟨hO, hF, hM, by rw [show aF σ_s_1 (ad E a 1) = f1 from e_2, show aF σ_s_1 (ad E a 37) = f37 from e_3, show aF σ_s_1 (ad E a 61) = f61 from e_4, show aF σ_s_1 (ad E a 62) = f62 from e_5, show aF σ_s_1 (ad E a 39) = f39 from e_6, show aF σ_s_1 (ad E a 40) = f40 from e_7, show aF σ_s_1 (ad E a 42) = f42 from e_8, show aF σ_s_1 (ad E a 43) = f43 from e_9, show aF σ_s_1 (ad E a 44) = f44 from e_10, show aF σ_s_1 (ad E a 45) = f45 from e_11, show aF σ_s_1 (ad E a 46) = f46 from e_12]; exact ⟨hj.n (by omega) (by omega) (by omega), by omega⟩⟩ dX11_thing_181
                    · refine th_case (a := wh) (n := 9) (fun c_24_9 => ?_) (fun c_24_9 => ?_)
                      · refine th_topq c_24_9 ?_
                        refine lv_tableIn (tgt := 182) hx hb dX11_thing_20 (by decide) (by decide) (by rfl) (by decide) ?_
                        refine lv_aload_n hx hb dX11_thing_182 rfl (lv_at hl 0 rfl) ?_
                        refine lv_iload_n hx hb dX11_thing_183 rfl (lv_at hl 1 rfl) ?_
                        obtain ⟨_, hc_58⟩ := hO.cell h_a (by decide) (ci := 11) rfl
                        refine th_calli (va_runV (As := [.int (I i)]) (rest := []) ⟨hx, hb, hml, hown, hts⟩ (m_answers l G y b0 σ_s_1 E hO a h_a i (show rng i from ri) (by omega) (by omega) f1 e_2 f8 e_13 (hw1) (by omega)) (cwV 1 hts gX11_thing_X11_answers rfl rfl rfl (by decide +kernel) ⟨Nat.le_of_ble_eq_true rfl, Nat.le_of_ble_eq_true rfl⟩) (th_PV hK hH rfl hc_58) rfl rfl hl.1 rfl (lv_room (Nat.le_of_ble_eq_true rfl)) dX11_thing_184 ⟨Nat.le_of_ble_eq_true rfl, Nat.le_of_ble_eq_true rfl⟩) hS (fun z_61 σ_s_60 H locs rz_61 hw_59 hH hS => ?_)
                        obtain ⟨hO9, hF9, hM9, hw_59⟩ := hw_59
                        replace hM := hM.tu hM9 (by decide)
                        replace hF := hF.tu hF9 (by decide)
                        have e_62 : aF σ_s_60 (ad E a 1) = f1 := (hM9.a (by decide) (by decide)).trans e_2
                        have e_63 : aF σ_s_60 (ad E a 37) = f37 := (hM9.a (by decide) (by decide)).trans e_3
                        have e_64 : aF σ_s_60 (ad E a 61) = f61 := (hM9.a (by decide) (by decide)).trans e_4
                        have e_65 : aF σ_s_60 (ad E a 62) = f62 := (hM9.a (by decide) (by decide)).trans e_5
                        have e_66 : aF σ_s_60 (ad E a 39) = f39 := (hM9.a (by decide) (by decide)).trans e_6
                        have e_67 : aF σ_s_60 (ad E a 40) = f40 := (hM9.a (by decide) (by decide)).trans e_7
                        have e_68 : aF σ_s_60 (ad E a 42) = f42 := (hM9.a (by decide) (by decide)).trans e_8
                        have e_69 : aF σ_s_60 (ad E a 43) = f43 := (hM9.a (by decide) (by decide)).trans e_9
                        have e_70 : aF σ_s_60 (ad E a 44) = f44 := (hM9.a (by decide) (by decide)).trans e_10
                        have e_71 : aF σ_s_60 (ad E a 45) = f45 := (hM9.a (by decide) (by decide)).trans e_11
                        have e_72 : aF σ_s_60 (ad E a 46) = f46 := (hM9.a (by decide) (by decide)).trans e_12
                        have e_73 : aF σ_s_60 (ad E a 8) = f8 := (hM9.a (by decide) (by decide)).trans e_13
                        have e_74 : gI σ_s_60 a 36 = a360 := (hM9.i (by decide)).trans e_14
                        have e_75 : gI σ_s_60 a 58 = a580 := (hM9.i (by decide)).trans e_15
                        have e_76 : gI σ_s_60 a 59 = a590 := (hM9.i (by decide)).trans e_16
                        have e_77 : gI σ_s_60 a 12 = a120 := (hM9.i (by decide)).trans e_17
                        have e_78 : gI σ_s_60 a 0 = 0 := (hM9.i (by decide)).trans e_18
                        replace hO := hO9
                        exact th_iret hx hb hr hlocks hH hS (z := z_61) rz_61 ⟨hO, hF, hM, by rw [show aF σ_s_60 (ad E a 1) = f1 from e_62, show aF σ_s_60 (ad E a 37) = f37 from e_63, show aF σ_s_60 (ad E a 61) = f61 from e_64, show aF σ_s_60 (ad E a 62) = f62 from e_65, show aF σ_s_60 (ad E a 39) = f39 from e_66, show aF σ_s_60 (ad E a 40) = f40 from e_67, show aF σ_s_60 (ad E a 42) = f42 from e_68, show aF σ_s_60 (ad E a 43) = f43 from e_69, show aF σ_s_60 (ad E a 44) = f44 from e_70, show aF σ_s_60 (ad E a 45) = f45 from e_71, show aF σ_s_60 (ad E a 46) = f46 from e_72]; exact ⟨hj.n (by omega) (by omega) (by omega), by omega⟩⟩ dX11_thing_187
                      · refine th_tableOut (tgt := 188) hx hb rwh dX11_thing_20 (by omega) (by decide) ?_
                        refine lv_aload_n hx hb dX11_thing_188 rfl (lv_at hl 0 rfl) ?_
                        refine lv_iconst (v := I 1) hx hb dX11_thing_189 (by decide) ?_
                        obtain ⟨_, hc_79⟩ := hO.cell h_a (by decide) (ci := 11) rfl
                        refine th_calli (va_runV (As := [.int (I 1)]) (rest := []) ⟨hx, hb, hml, hown, hts⟩ (m_fail l G y b0 σ_s_1 E hO a h_a 1 (show rng 1 from (show rng 1 from ⟨by decide, by decide⟩))) (cwV 1 hts gX11_thing_X11_fail rfl rfl rfl (by decide +kernel) ⟨Nat.le_of_ble_eq_true rfl, Nat.le_of_ble_eq_true rfl⟩) (th_PV hK hH rfl hc_79) rfl rfl hl.1 rfl (lv_room (Nat.le_of_ble_eq_true rfl)) dX11_thing_190 ⟨Nat.le_of_ble_eq_true rfl, Nat.le_of_ble_eq_true rfl⟩) hS (fun z_82 σ_s_81 H locs rz_82 hw_80 hH hS => ?_)
                        obtain ⟨hO9, hF9, hM9, hw_80⟩ := hw_80
                        replace hM := hM.tu hM9 (by decide)
                        replace hF := hF.tu hF9 (by decide)
                        have e_83 : aF σ_s_81 (ad E a 1) = f1 := (hM9.a (by decide) (by decide)).trans e_2
                        have e_84 : aF σ_s_81 (ad E a 37) = f37 := (hM9.a (by decide) (by decide)).trans e_3
                        have e_85 : aF σ_s_81 (ad E a 61) = f61 := (hM9.a (by decide) (by decide)).trans e_4
                        have e_86 : aF σ_s_81 (ad E a 62) = f62 := (hM9.a (by decide) (by decide)).trans e_5
                        have e_87 : aF σ_s_81 (ad E a 39) = f39 := (hM9.a (by decide) (by decide)).trans e_6
                        have e_88 : aF σ_s_81 (ad E a 40) = f40 := (hM9.a (by decide) (by decide)).trans e_7
                        have e_89 : aF σ_s_81 (ad E a 42) = f42 := (hM9.a (by decide) (by decide)).trans e_8
                        have e_90 : aF σ_s_81 (ad E a 43) = f43 := (hM9.a (by decide) (by decide)).trans e_9
                        have e_91 : aF σ_s_81 (ad E a 44) = f44 := (hM9.a (by decide) (by decide)).trans e_10
                        have e_92 : aF σ_s_81 (ad E a 45) = f45 := (hM9.a (by decide) (by decide)).trans e_11
                        have e_93 : aF σ_s_81 (ad E a 46) = f46 := (hM9.a (by decide) (by decide)).trans e_12
                        have e_94 : aF σ_s_81 (ad E a 8) = f8 := (hM9.a (by decide) (by decide)).trans e_13
                        have e_95 : gI σ_s_81 a 36 = a360 := (hM9.i (by decide)).trans e_14
                        have e_96 : gI σ_s_81 a 58 = a580 := (hM9.i (by decide)).trans e_15
                        have e_97 : gI σ_s_81 a 59 = a590 := (hM9.i (by decide)).trans e_16
                        have e_98 : gI σ_s_81 a 12 = a120 := (hM9.i (by decide)).trans e_17
                        replace hO := hO9
                        exact th_iret hx hb hr hlocks hH hS (z := z_82) rz_82 ⟨hO, hF, hM, by rw [show aF σ_s_81 (ad E a 1) = f1 from e_83, show aF σ_s_81 (ad E a 37) = f37 from e_84, show aF σ_s_81 (ad E a 61) = f61 from e_85, show aF σ_s_81 (ad E a 62) = f62 from e_86, show aF σ_s_81 (ad E a 39) = f39 from e_87, show aF σ_s_81 (ad E a 40) = f40 from e_88, show aF σ_s_81 (ad E a 42) = f42 from e_89, show aF σ_s_81 (ad E a 43) = f43 from e_90, show aF σ_s_81 (ad E a 44) = f44 from e_91, show aF σ_s_81 (ad E a 45) = f45 from e_92, show aF σ_s_81 (ad E a 46) = f46 from e_93]; exact ⟨hj.n (by omega) (by omega) (by omega), by omega⟩⟩ dX11_thing_193
  · replace c_23 := (I_eq (a := z_22) (b := 0) rz_22 (show rng 0 from ⟨by decide, by decide⟩)).mp c_23
    refine lv_aload_n hx hb dX11_thing_13 rfl (lv_at hl 0 rfl) ?_
    refine lv_iconst (v := I 1) hx hb dX11_thing_14 (by decide) ?_
    obtain ⟨_, hc_99⟩ := hO.cell h_a (by decide) (ci := 11) rfl
    refine th_calli (va_runV (As := [.int (I 1)]) (rest := []) ⟨hx, hb, hml, hown, hts⟩ (m_fail l G y b0 σ_s_1 E hO a h_a 1 (show rng 1 from (show rng 1 from ⟨by decide, by decide⟩))) (cwV 1 hts gX11_thing_X11_fail rfl rfl rfl (by decide +kernel) ⟨Nat.le_of_ble_eq_true rfl, Nat.le_of_ble_eq_true rfl⟩) (th_PV hK hH rfl hc_99) rfl rfl hl.1 rfl (lv_room (Nat.le_of_ble_eq_true rfl)) dX11_thing_15 ⟨Nat.le_of_ble_eq_true rfl, Nat.le_of_ble_eq_true rfl⟩) hS (fun z_102 σ_s_101 H locs rz_102 hw_100 hH hS => ?_)
    obtain ⟨hO9, hF9, hM9, hw_100⟩ := hw_100
    replace hM := hM.tu hM9 (by decide)
    replace hF := hF.tu hF9 (by decide)
    have e_103 : aF σ_s_101 (ad E a 1) = f1 := (hM9.a (by decide) (by decide)).trans e_2
    have e_104 : aF σ_s_101 (ad E a 37) = f37 := (hM9.a (by decide) (by decide)).trans e_3
    have e_105 : aF σ_s_101 (ad E a 61) = f61 := (hM9.a (by decide) (by decide)).trans e_4
    have e_106 : aF σ_s_101 (ad E a 62) = f62 := (hM9.a (by decide) (by decide)).trans e_5
    have e_107 : aF σ_s_101 (ad E a 39) = f39 := (hM9.a (by decide) (by decide)).trans e_6
    have e_108 : aF σ_s_101 (ad E a 40) = f40 := (hM9.a (by decide) (by decide)).trans e_7
    have e_109 : aF σ_s_101 (ad E a 42) = f42 := (hM9.a (by decide) (by decide)).trans e_8
    have e_110 : aF σ_s_101 (ad E a 43) = f43 := (hM9.a (by decide) (by decide)).trans e_9
    have e_111 : aF σ_s_101 (ad E a 44) = f44 := (hM9.a (by decide) (by decide)).trans e_10
    have e_112 : aF σ_s_101 (ad E a 45) = f45 := (hM9.a (by decide) (by decide)).trans e_11
    have e_113 : aF σ_s_101 (ad E a 46) = f46 := (hM9.a (by decide) (by decide)).trans e_12
    have e_114 : aF σ_s_101 (ad E a 8) = f8 := (hM9.a (by decide) (by decide)).trans e_13
    have e_115 : gI σ_s_101 a 36 = a360 := (hM9.i (by decide)).trans e_14
    have e_116 : gI σ_s_101 a 58 = a580 := (hM9.i (by decide)).trans e_15
    have e_117 : gI σ_s_101 a 59 = a590 := (hM9.i (by decide)).trans e_16
    have e_118 : gI σ_s_101 a 12 = a120 := (hM9.i (by decide)).trans e_17
    replace hO := hO9
    exact th_iret hx hb hr hlocks hH hS (z := z_102) rz_102 ⟨hO, hF, hM, by rw [show aF σ_s_101 (ad E a 1) = f1 from e_103, show aF σ_s_101 (ad E a 37) = f37 from e_104, show aF σ_s_101 (ad E a 61) = f61 from e_105, show aF σ_s_101 (ad E a 62) = f62 from e_106, show aF σ_s_101 (ad E a 39) = f39 from e_107, show aF σ_s_101 (ad E a 40) = f40 from e_108, show aF σ_s_101 (ad E a 42) = f42 from e_109, show aF σ_s_101 (ad E a 43) = f43 from e_110, show aF σ_s_101 (ad E a 44) = f44 from e_111, show aF σ_s_101 (ad E a 45) = f45 from e_112, show aF σ_s_101 (ad E a 46) = f46 from e_113]; exact ⟨hj.n (by omega) (by omega) (by omega), by omega⟩⟩ dX11_thing_18

set_option maxHeartbeats 4000000 in
set_option maxRecDepth 100000 in
theorem j_within (l : Launch) (G : va_G) (y : Nat → ClassId) (b0 : Nat) (σ : th_M) (E : th_E) (hO : ok y E σ) (a : Nat) (h_a : kd E a = 13) (i : Int) (ri : rng i) (j : Int) (rj : rng j) (f1 : Nat → Int32) (ef1 : aF σ (ad E a 1) = f1) (f37 : Nat → Int32) (ef37 : aF σ (ad E a 37) = f37) (f61 : Nat → Int32) (ef61 : aF σ (ad E a 61) = f61) (f62 : Nat → Int32) (ef62 : aF σ (ad E a 62) = f62) (f39 : Nat → Int32) (ef39 : aF σ (ad E a 39) = f39) (f40 : Nat → Int32) (ef40 : aF σ (ad E a 40) = f40) (f42 : Nat → Int32) (ef42 : aF σ (ad E a 42) = f42) (f43 : Nat → Int32) (ef43 : aF σ (ad E a 43) = f43) (f44 : Nat → Int32) (ef44 : aF σ (ad E a 44) = f44) (f45 : Nat → Int32) (ef45 : aF σ (ad E a 45) = f45) (f46 : Nat → Int32) (ef46 : aF σ (ad E a 46) = f46) (hy0 : jw f1 f37 f61 f62 f39 f40 f42 f43 f44 f45 f46 (gI σ a 36) (gI σ a 58) (gI σ a 59)) : Met l yX11_within wsX11_within ({ frames := 2, cells := 0, slots := 0, locals := 53 }) (th_P G y b0 σ [.ref a, .int (I i), .int (I j)]) (th_Qi G b0 (fun r σ1 => ok y E σ1 ∧ fr [13] E σ σ1 ∧ fm [0] E σ σ1 a ∧ (jw (aF σ1 (ad E a 1)) (aF σ1 (ad E a 37)) (aF σ1 (ad E a 61)) (aF σ1 (ad E a 62)) (aF σ1 (ad E a 39)) (aF σ1 (ad E a 40)) (aF σ1 (ad E a 42)) (aF σ1 (ad E a 43)) (aF σ1 (ad E a 44)) (aF σ1 (ad E a 45)) (aF σ1 (ad E a 46)) (gI σ1 a 36) (gI σ1 a 58) (gI σ1 a 59) ∧ gI σ1 a 12 = gI σ a 12))) 0 0 (th_A b0) := by
  refine Met.ofW (cc := cX11_within) (maxL := 3) (ret := (some .int)) (by decide) rfl ?_
  intro p e s m args below meth c s₁ B hml hv
  obtain ⟨rfl, hH, hK⟩ := hv
  have hx := B.exec
  have hb := B.bytes
  have hr := B.returns
  have hts := atoms_spec (ws := wsX11_within) B.pre
  have hown : s.vm.findClass RX11 = some m.cls := findClass_of_methodNamed B.named
  have hlocks := B.notSynchronized
  have h00 : b0 ≤ s.heap.size := hH.1
  have hS : va_S (th_A b0) s.heap s.heap [] := va_S.rf
  have hF : fr [13] E σ σ := fr.rf
  have hM : fm [0] E σ σ a := fm.rf
  have hj := hy0
  have hw1 := hj.1.1.1
  have hm1 := hj.1.2.1
  have hm2 := hj.1.2.2.1
  have hm3 := hj.2.2.2.2.1
  have hm4 := hj.2.2.2.2.2.1
  have inX11 : ∀ w ∈ wsX110, w ∈ wsX11_within := by decide +kernel
  have fl0 := hts (.fieldLink RX11 111 "NestQueryModel" "code" "I") (by decide +kernel)
  have fl1 := hts (.fieldLink RX11 9 "NestQueryModel" "tree" "[I") (by decide +kernel)
  have hl := lv_entry ([.ref a, .int (I i), .int (I j)]) (n := 3) (Nat.le_of_ble_eq_true rfl)
  rw [lg_entry_eq]
  generalize (lg_sl ([.ref a, .int (I i), .int (I j)]) ++ List.replicate (3 - (lg_sl ([.ref a, .int (I i), .int (I j)])).length) Slot.unset).toArray = ls at hl ⊢
  have hl : lv_has ls 3 [(0, .ref a), (1, .int (I i)), (2, .int (I j))] := hl
  obtain ⟨a360, ea360, ra360, la360, ua360⟩ := hO.gi h_a (by decide) k13_36
  obtain ⟨a580, ea580, ra580, la580, ua580⟩ := hO.gi h_a (by decide) k13_58
  obtain ⟨a590, ea590, ra590, la590, ua590⟩ := hO.gi h_a (by decide) k13_59
  obtain ⟨a120, ea120, ra120, la120, ua120⟩ := hO.gi h_a (by decide) k13_12
  refine lv_aload_n hx hb dX11_within_0 rfl (lv_at hl 0 rfl) ?_
  refine lv_iconst (v := I 0) hx hb dX11_within_1 (by decide) ?_
  refine ok.putJ hO h_a k13_0 (show rng 0 from ⟨by decide, by decide⟩) (by omega) (by omega) (fun _ he hl9 kk => th_put (ci := 11) (v := .int (I 0)) (ty := .int) (C := RX11) (T := TX11) (N := 66) hx hb hts inX11 tyX11 tyX11_ok nmX11 hown hK hH hS h00 he rfl 0 (by decide) fl0 rfl (by decide +kernel) rfl rfl hl9 dX11_within_2 kk) (fun σ_s_1 H locs hO hF9 hM9 hg9 ha9 hH hS => ?_)
  replace hM := hM.tu hM9 (by decide)
  replace hF := hF.tu hF9 (by decide)
  have e_2 : aF σ_s_1 (ad E a 1) = f1 := (hM9.a (by decide) (by decide)).trans ef1
  have e_3 : aF σ_s_1 (ad E a 37) = f37 := (hM9.a (by decide) (by decide)).trans ef37
  have e_4 : aF σ_s_1 (ad E a 61) = f61 := (hM9.a (by decide) (by decide)).trans ef61
  have e_5 : aF σ_s_1 (ad E a 62) = f62 := (hM9.a (by decide) (by decide)).trans ef62
  have e_6 : aF σ_s_1 (ad E a 39) = f39 := (hM9.a (by decide) (by decide)).trans ef39
  have e_7 : aF σ_s_1 (ad E a 40) = f40 := (hM9.a (by decide) (by decide)).trans ef40
  have e_8 : aF σ_s_1 (ad E a 42) = f42 := (hM9.a (by decide) (by decide)).trans ef42
  have e_9 : aF σ_s_1 (ad E a 43) = f43 := (hM9.a (by decide) (by decide)).trans ef43
  have e_10 : aF σ_s_1 (ad E a 44) = f44 := (hM9.a (by decide) (by decide)).trans ef44
  have e_11 : aF σ_s_1 (ad E a 45) = f45 := (hM9.a (by decide) (by decide)).trans ef45
  have e_12 : aF σ_s_1 (ad E a 46) = f46 := (hM9.a (by decide) (by decide)).trans ef46
  have e_13 : gI σ_s_1 a 36 = a360 := (hM9.i (by decide)).trans ea360
  have e_14 : gI σ_s_1 a 58 = a580 := (hM9.i (by decide)).trans ea580
  have e_15 : gI σ_s_1 a 59 = a590 := (hM9.i (by decide)).trans ea590
  have e_16 : gI σ_s_1 a 12 = a120 := (hM9.i (by decide)).trans ea120
  have e_17 := hg9
  refine lv_aload_n hx hb dX11_within_5 rfl (lv_at hl 0 rfl) ?_
  refine lv_iload_n hx hb dX11_within_6 rfl (lv_at hl 1 rfl) ?_
  obtain ⟨_, hc_18⟩ := hO.cell h_a (by decide) (ci := 11) rfl
  refine th_calli (va_runV (As := [.int (I i)]) (rest := []) ⟨hx, hb, hml, hown, hts⟩ (m_isThing l G y b0 σ_s_1 E hO a h_a i (show rng i from ri) f1 e_2 (by omega)) (cwV 1 hts gX11_within_X11_isThing rfl rfl rfl (by decide +kernel) ⟨Nat.le_of_ble_eq_true rfl, Nat.le_of_ble_eq_true rfl⟩) (th_PV hK hH rfl hc_18) rfl rfl hl.1 rfl (lv_room (Nat.le_of_ble_eq_true rfl)) dX11_within_7 ⟨Nat.le_of_ble_eq_true rfl, Nat.le_of_ble_eq_true rfl⟩) hS (fun z_21 σ_s_20 H locs rz_21 hw_19 hH hS => ?_)
  obtain ⟨e9, bhw_19, hw_19⟩ := hw_19
  replace e9 := e9.symm
  subst e9
  have hw_19 : (z_21 = 1 ∧ 0 ≤ i ∧ i < mS f1 0) ∨ (z_21 = 0 ∧ ¬ (0 ≤ i ∧ i < mS f1 0)) := hw_19
  refine lv_if_eq (tgt := 43) hx hb dX11_within_10 (by decide) (fun c_22 => ?_) (fun c_22 => ?_)
  · replace c_22 := (I_eq (a := z_21) (b := 0) rz_21 (show rng 0 from ⟨by decide, by decide⟩)).mp c_22
    refine lv_aload_n hx hb dX11_within_43 rfl (lv_at hl 0 rfl) ?_
    refine lv_iconst (v := I 1) hx hb dX11_within_44 (by decide) ?_
    obtain ⟨_, hc_23⟩ := hO.cell h_a (by decide) (ci := 11) rfl
    refine th_calli (va_runV (As := [.int (I 1)]) (rest := []) ⟨hx, hb, hml, hown, hts⟩ (m_fail l G y b0 σ_s_1 E hO a h_a 1 (show rng 1 from (show rng 1 from ⟨by decide, by decide⟩))) (cwV 1 hts gX11_within_X11_fail rfl rfl rfl (by decide +kernel) ⟨Nat.le_of_ble_eq_true rfl, Nat.le_of_ble_eq_true rfl⟩) (th_PV hK hH rfl hc_23) rfl rfl hl.1 rfl (lv_room (Nat.le_of_ble_eq_true rfl)) dX11_within_45 ⟨Nat.le_of_ble_eq_true rfl, Nat.le_of_ble_eq_true rfl⟩) hS (fun z_26 σ_s_25 H locs rz_26 hw_24 hH hS => ?_)
    obtain ⟨hO9, hF9, hM9, hw_24⟩ := hw_24
    replace hM := hM.tu hM9 (by decide)
    replace hF := hF.tu hF9 (by decide)
    have e_27 : aF σ_s_25 (ad E a 1) = f1 := (hM9.a (by decide) (by decide)).trans e_2
    have e_28 : aF σ_s_25 (ad E a 37) = f37 := (hM9.a (by decide) (by decide)).trans e_3
    have e_29 : aF σ_s_25 (ad E a 61) = f61 := (hM9.a (by decide) (by decide)).trans e_4
    have e_30 : aF σ_s_25 (ad E a 62) = f62 := (hM9.a (by decide) (by decide)).trans e_5
    have e_31 : aF σ_s_25 (ad E a 39) = f39 := (hM9.a (by decide) (by decide)).trans e_6
    have e_32 : aF σ_s_25 (ad E a 40) = f40 := (hM9.a (by decide) (by decide)).trans e_7
    have e_33 : aF σ_s_25 (ad E a 42) = f42 := (hM9.a (by decide) (by decide)).trans e_8
    have e_34 : aF σ_s_25 (ad E a 43) = f43 := (hM9.a (by decide) (by decide)).trans e_9
    have e_35 : aF σ_s_25 (ad E a 44) = f44 := (hM9.a (by decide) (by decide)).trans e_10
    have e_36 : aF σ_s_25 (ad E a 45) = f45 := (hM9.a (by decide) (by decide)).trans e_11
    have e_37 : aF σ_s_25 (ad E a 46) = f46 := (hM9.a (by decide) (by decide)).trans e_12
    have e_38 : gI σ_s_25 a 36 = a360 := (hM9.i (by decide)).trans e_13
    have e_39 : gI σ_s_25 a 58 = a580 := (hM9.i (by decide)).trans e_14
    have e_40 : gI σ_s_25 a 59 = a590 := (hM9.i (by decide)).trans e_15
    have e_41 : gI σ_s_25 a 12 = a120 := (hM9.i (by decide)).trans e_16
    replace hO := hO9
    exact th_iret hx hb hr hlocks hH hS (z := z_26) rz_26 ⟨hO, hF, hM, by rw [show aF σ_s_25 (ad E a 1) = f1 from e_27, show aF σ_s_25 (ad E a 37) = f37 from e_28, show aF σ_s_25 (ad E a 61) = f61 from e_29, show aF σ_s_25 (ad E a 62) = f62 from e_30, show aF σ_s_25 (ad E a 39) = f39 from e_31, show aF σ_s_25 (ad E a 40) = f40 from e_32, show aF σ_s_25 (ad E a 42) = f42 from e_33, show aF σ_s_25 (ad E a 43) = f43 from e_34, show aF σ_s_25 (ad E a 44) = f44 from e_35, show aF σ_s_25 (ad E a 45) = f45 from e_36, show aF σ_s_25 (ad E a 46) = f46 from e_37]; exact ⟨hj.n (by omega) (by omega) (by omega), by omega⟩⟩ dX11_within_48
  · replace c_22 := mt (I_eq (a := z_21) (b := 0) rz_21 (show rng 0 from ⟨by decide, by decide⟩)).mpr c_22
    have hk9 := hw1 i (by omega) (by omega)
    refine lv_iload_n hx hb dX11_within_13 rfl (lv_at hl 2 rfl) ?_
    refine lv_iconst (v := I 0) hx hb dX11_within_14 (by decide) ?_
    refine lv_aload_n hx hb dX11_within_15 rfl (lv_at hl 0 rfl) ?_
    refine ok.getR hO h_a (by decide) k13_1 (by decide) (fun _ _ he hv kk => th_get (ci := 11) (C := RX11) (T := TX11) (N := 66) hx hb hts inX11 hown hK hH he rfl 1 (by decide) fl1 hv dX11_within_16 kk) ?_
    refine lv_iload_n hx hb dX11_within_19 rfl (lv_at hl 1 rfl) ?_
    refine th_calli (va_runS (As := [.ref (ad E a 1), .int (I i)]) (rest := [.int (I 0), .int (I j)]) ⟨hx, hb, hml, hown, hts⟩ (w_many l G y b0 σ_s_1 E hO (ad E a 1) 240 f1 (hO.roww h_a k13_1 isA1 e_2 rfl) i (show rng i from ri) (by omega) (by omega) (by first | exact hw1 | exact (hw1).sub (by omega) (by omega)) (by omega) (by omega) (by omega)) (va_cwS 2 hts gX11_within_X11_many rfl rfl rfl (by decide +kernel) ⟨Nat.le_of_ble_eq_true rfl, Nat.le_of_ble_eq_true rfl⟩) (th_PS hK hH) rfl rfl hl.1 rfl (lv_room (Nat.le_of_ble_eq_true rfl)) dX11_within_20 ⟨Nat.le_of_ble_eq_true rfl, Nat.le_of_ble_eq_true rfl⟩) hS (fun z_44 σ_s_43 H locs rz_44 hw_42 hH hS => ?_)
    obtain ⟨e9, hw_42⟩ := hw_42
    replace e9 := e9.symm
    subst e9
    have hw_42 : chn f1 (i + 1) z_44 (i + mS f1 i) ∧ 0 ≤ z_44 ∧ z_44 < mS f1 i := hw_42
    refine lv_iconst (v := I 1) hx hb dX11_within_23 (by decide) ?_
    refine lv_isub hx hb dX11_within_24 ?_
    refine nq_top (I_sub _ _) ?_
    refine th_calli (va_runS (As := [.int (I j), .int (I 0), .int (I (z_44 - 1))]) (rest := []) ⟨hx, hb, hml, hown, hts⟩ (w_isIn l G y b0 σ_s_1 E hO j (show rng j from rj) 0 (show rng 0 from (show rng 0 from ⟨by decide, by decide⟩)) (z_44 - 1) (show rng (z_44 - 1) from ⟨by omega, by omega⟩)) (va_cwS 3 hts gX11_within_X11_isIn rfl rfl rfl (by decide +kernel) ⟨Nat.le_of_ble_eq_true rfl, Nat.le_of_ble_eq_true rfl⟩) (th_PS hK hH) rfl rfl hl.1 rfl (lv_room (Nat.le_of_ble_eq_true rfl)) dX11_within_25 ⟨Nat.le_of_ble_eq_true rfl, Nat.le_of_ble_eq_true rfl⟩) hS (fun z_47 σ_s_46 H locs rz_47 hw_45 hH hS => ?_)
    obtain ⟨e9, bhw_45, hw_45⟩ := hw_45
    replace e9 := e9.symm
    subst e9
    have hw_45 : (z_47 = 1 ∧ 0 ≤ j ∧ j ≤ (z_44 - 1)) ∨ (z_47 = 0 ∧ ¬ (0 ≤ j ∧ j ≤ (z_44 - 1))) := hw_45
    refine lv_if_eq (tgt := 43) hx hb dX11_within_28 (by decide) (fun c_48 => ?_) (fun c_48 => ?_)
    · replace c_48 := (I_eq (a := z_47) (b := 0) rz_47 (show rng 0 from ⟨by decide, by decide⟩)).mp c_48
      refine lv_aload_n hx hb dX11_within_43 rfl (lv_at hl 0 rfl) ?_
      refine lv_iconst (v := I 1) hx hb dX11_within_44 (by decide) ?_
      obtain ⟨_, hc_49⟩ := hO.cell h_a (by decide) (ci := 11) rfl
      refine th_calli (va_runV (As := [.int (I 1)]) (rest := []) ⟨hx, hb, hml, hown, hts⟩ (m_fail l G y b0 σ_s_1 E hO a h_a 1 (show rng 1 from (show rng 1 from ⟨by decide, by decide⟩))) (cwV 1 hts gX11_within_X11_fail rfl rfl rfl (by decide +kernel) ⟨Nat.le_of_ble_eq_true rfl, Nat.le_of_ble_eq_true rfl⟩) (th_PV hK hH rfl hc_49) rfl rfl hl.1 rfl (lv_room (Nat.le_of_ble_eq_true rfl)) dX11_within_45 ⟨Nat.le_of_ble_eq_true rfl, Nat.le_of_ble_eq_true rfl⟩) hS (fun z_52 σ_s_51 H locs rz_52 hw_50 hH hS => ?_)
      obtain ⟨hO9, hF9, hM9, hw_50⟩ := hw_50
      replace hM := hM.tu hM9 (by decide)
      replace hF := hF.tu hF9 (by decide)
      have e_53 : aF σ_s_51 (ad E a 1) = f1 := (hM9.a (by decide) (by decide)).trans e_2
      have e_54 : aF σ_s_51 (ad E a 37) = f37 := (hM9.a (by decide) (by decide)).trans e_3
      have e_55 : aF σ_s_51 (ad E a 61) = f61 := (hM9.a (by decide) (by decide)).trans e_4
      have e_56 : aF σ_s_51 (ad E a 62) = f62 := (hM9.a (by decide) (by decide)).trans e_5
      have e_57 : aF σ_s_51 (ad E a 39) = f39 := (hM9.a (by decide) (by decide)).trans e_6
      have e_58 : aF σ_s_51 (ad E a 40) = f40 := (hM9.a (by decide) (by decide)).trans e_7
      have e_59 : aF σ_s_51 (ad E a 42) = f42 := (hM9.a (by decide) (by decide)).trans e_8
      have e_60 : aF σ_s_51 (ad E a 43) = f43 := (hM9.a (by decide) (by decide)).trans e_9
      have e_61 : aF σ_s_51 (ad E a 44) = f44 := (hM9.a (by decide) (by decide)).trans e_10
      have e_62 : aF σ_s_51 (ad E a 45) = f45 := (hM9.a (by decide) (by decide)).trans e_11
      have e_63 : aF σ_s_51 (ad E a 46) = f46 := (hM9.a (by decide) (by decide)).trans e_12
      have e_64 : gI σ_s_51 a 36 = a360 := (hM9.i (by decide)).trans e_13
      have e_65 : gI σ_s_51 a 58 = a580 := (hM9.i (by decide)).trans e_14
      have e_66 : gI σ_s_51 a 59 = a590 := (hM9.i (by decide)).trans e_15
      have e_67 : gI σ_s_51 a 12 = a120 := (hM9.i (by decide)).trans e_16
      replace hO := hO9
      exact th_iret hx hb hr hlocks hH hS (z := z_52) rz_52 ⟨hO, hF, hM, by rw [show aF σ_s_51 (ad E a 1) = f1 from e_53, show aF σ_s_51 (ad E a 37) = f37 from e_54, show aF σ_s_51 (ad E a 61) = f61 from e_55, show aF σ_s_51 (ad E a 62) = f62 from e_56, show aF σ_s_51 (ad E a 39) = f39 from e_57, show aF σ_s_51 (ad E a 40) = f40 from e_58, show aF σ_s_51 (ad E a 42) = f42 from e_59, show aF σ_s_51 (ad E a 43) = f43 from e_60, show aF σ_s_51 (ad E a 44) = f44 from e_61, show aF σ_s_51 (ad E a 45) = f45 from e_62, show aF σ_s_51 (ad E a 46) = f46 from e_63]; exact ⟨hj.n (by omega) (by omega) (by omega), by omega⟩⟩ dX11_within_48
    · replace c_48 := mt (I_eq (a := z_47) (b := 0) rz_47 (show rng 0 from ⟨by decide, by decide⟩)).mpr c_48
      refine lv_aload_n hx hb dX11_within_31 rfl (lv_at hl 0 rfl) ?_
      refine ok.getR hO h_a (by decide) k13_1 (by decide) (fun _ _ he hv kk => th_get (ci := 11) (C := RX11) (T := TX11) (N := 66) hx hb hts inX11 hown hK hH he rfl 1 (by decide) fl1 hv dX11_within_32 kk) ?_
      refine lv_iload_n hx hb dX11_within_35 rfl (lv_at hl 1 rfl) ?_
      refine lv_iload_n hx hb dX11_within_36 rfl (lv_at hl 2 rfl) ?_
      refine th_calli (va_runS (As := [.ref (ad E a 1), .int (I i), .int (I j)]) (rest := []) ⟨hx, hb, hml, hown, hts⟩ (w_nth l G y b0 σ_s_1 E hO (ad E a 1) 240 f1 (hO.roww h_a k13_1 isA1 e_2 rfl) i (show rng i from ri) (by omega) (by omega) j (show rng j from rj) (by first | exact hw1 | exact (hw1).sub (by omega) (by omega)) (by omega) (by omega) (by omega) (jin.mk1 (by omega) hw_42.1 (by omega))) (va_cwS 3 hts gX11_within_X11_nth rfl rfl rfl (by decide +kernel) ⟨Nat.le_of_ble_eq_true rfl, Nat.le_of_ble_eq_true rfl⟩) (th_PS hK hH) rfl rfl hl.1 rfl (lv_room (Nat.le_of_ble_eq_true rfl)) dX11_within_37 ⟨Nat.le_of_ble_eq_true rfl, Nat.le_of_ble_eq_true rfl⟩) hS (fun z_70 σ_s_69 H locs rz_70 hw_68 hH hS => ?_)
      obtain ⟨e9, hw_68⟩ := hw_68
      replace e9 := e9.symm
      subst e9
      have hw_68 : chn f1 (i + 1) j z_70 ∧ kid f1 i z_70 := hw_68
      refine lv_goto (tgt := 48) hx hb dX11_within_40 (by decide) ?_
      exact th_iret hx hb hr hlocks hH hS (z := z_70) rz_70 ⟨hO, hF, hM, by rw [show aF σ_s_1 (ad E a 1) = f1 from e_2, show aF σ_s_1 (ad E a 37) = f37 from e_3, show aF σ_s_1 (ad E a 61) = f61 from e_4, show aF σ_s_1 (ad E a 62) = f62 from e_5, show aF σ_s_1 (ad E a 39) = f39 from e_6, show aF σ_s_1 (ad E a 40) = f40 from e_7, show aF σ_s_1 (ad E a 42) = f42 from e_8, show aF σ_s_1 (ad E a 43) = f43 from e_9, show aF σ_s_1 (ad E a 44) = f44 from e_10, show aF σ_s_1 (ad E a 45) = f45 from e_11, show aF σ_s_1 (ad E a 46) = f46 from e_12]; exact ⟨hj.n (by omega) (by omega) (by omega), by omega⟩⟩ dX11_within_48

set_option maxHeartbeats 4000000 in
set_option maxRecDepth 100000 in
theorem j_told (l : Launch) (G : va_G) (y : Nat → ClassId) (b0 : Nat) (σ : th_M) (E : th_E) (hO : ok y E σ) (a : Nat) (h_a : kd E a = 13) (i : Int) (ri : rng i) (ow : Int) (row : rng ow) (l_ow : 0 ≤ ow) (u_ow : ow ≤ 1) (j : Int) (rj : rng j) (f1 : Nat → Int32) (ef1 : aF σ (ad E a 1) = f1) (f37 : Nat → Int32) (ef37 : aF σ (ad E a 37) = f37) (f61 : Nat → Int32) (ef61 : aF σ (ad E a 61) = f61) (f62 : Nat → Int32) (ef62 : aF σ (ad E a 62) = f62) (f39 : Nat → Int32) (ef39 : aF σ (ad E a 39) = f39) (f40 : Nat → Int32) (ef40 : aF σ (ad E a 40) = f40) (f42 : Nat → Int32) (ef42 : aF σ (ad E a 42) = f42) (f43 : Nat → Int32) (ef43 : aF σ (ad E a 43) = f43) (f44 : Nat → Int32) (ef44 : aF σ (ad E a 44) = f44) (f45 : Nat → Int32) (ef45 : aF σ (ad E a 45) = f45) (f46 : Nat → Int32) (ef46 : aF σ (ad E a 46) = f46) (hy0 : jw f1 f37 f61 f62 f39 f40 f42 f43 f44 f45 f46 (gI σ a 36) (gI σ a 58) (gI σ a 59)) : Met l yX11_told wsX11_told ({ frames := 133, cells := 0, slots := 0, locals := 3988 }) (th_P G y b0 σ [.ref a, .int (I i), .int (I ow), .int (I j)]) (th_Qi G b0 (fun r σ1 => ok y E σ1 ∧ fr [13] E σ σ1 ∧ fm [0, 49, 50] E σ σ1 a ∧ (jw (aF σ1 (ad E a 1)) (aF σ1 (ad E a 37)) (aF σ1 (ad E a 61)) (aF σ1 (ad E a 62)) (aF σ1 (ad E a 39)) (aF σ1 (ad E a 40)) (aF σ1 (ad E a 42)) (aF σ1 (ad E a 43)) (aF σ1 (ad E a 44)) (aF σ1 (ad E a 45)) (aF σ1 (ad E a 46)) (gI σ1 a 36) (gI σ1 a 58) (gI σ1 a 59) ∧ gI σ1 a 12 = gI σ a 12))) 0 0 (th_A b0) := by
  refine Met.ofW (cc := cX11_told) (maxL := 4) (ret := (some .int)) (by decide) rfl ?_
  intro p e s m args below meth c s₁ B hml hv
  obtain ⟨rfl, hH, hK⟩ := hv
  have hx := B.exec
  have hb := B.bytes
  have hr := B.returns
  have hts := atoms_spec (ws := wsX11_told) B.pre
  have hown : s.vm.findClass RX11 = some m.cls := findClass_of_methodNamed B.named
  have hlocks := B.notSynchronized
  have h00 : b0 ≤ s.heap.size := hH.1
  have hS : va_S (th_A b0) s.heap s.heap [] := va_S.rf
  have hF : fr [13] E σ σ := fr.rf
  have hM : fm [0, 49, 50] E σ σ a := fm.rf
  have hj := hy0
  have hw1 := hj.1.1.1
  have hm1 := hj.1.2.1
  have hm2 := hj.1.2.2.1
  have hm3 := hj.2.2.2.2.1
  have hm4 := hj.2.2.2.2.2.1
  have inX11 : ∀ w ∈ wsX110, w ∈ wsX11_told := by decide +kernel
  have fl0 := hts (.fieldLink RX11 111 "NestQueryModel" "code" "I") (by decide +kernel)
  have fl1 := hts (.fieldLink RX11 471 "NestQueryModel" "outMany" "I") (by decide +kernel)
  have fl2 := hts (.fieldLink RX11 9 "NestQueryModel" "tree" "[I") (by decide +kernel)
  have hl := lv_entry ([.ref a, .int (I i), .int (I ow), .int (I j)]) (n := 4) (Nat.le_of_ble_eq_true rfl)
  rw [lg_entry_eq]
  generalize (lg_sl ([.ref a, .int (I i), .int (I ow), .int (I j)]) ++ List.replicate (4 - (lg_sl ([.ref a, .int (I i), .int (I ow), .int (I j)])).length) Slot.unset).toArray = ls at hl ⊢
  have hl : lv_has ls 4 [(0, .ref a), (1, .int (I i)), (2, .int (I ow)), (3, .int (I j))] := hl
  obtain ⟨a360, ea360, ra360, la360, ua360⟩ := hO.gi h_a (by decide) k13_36
  obtain ⟨a580, ea580, ra580, la580, ua580⟩ := hO.gi h_a (by decide) k13_58
  obtain ⟨a590, ea590, ra590, la590, ua590⟩ := hO.gi h_a (by decide) k13_59
  obtain ⟨a120, ea120, ra120, la120, ua120⟩ := hO.gi h_a (by decide) k13_12
  refine lv_aload_n hx hb dX11_told_0 rfl (lv_at hl 0 rfl) ?_
  refine lv_iconst (v := I 0) hx hb dX11_told_1 (by decide) ?_
  refine ok.putJ hO h_a k13_0 (show rng 0 from ⟨by decide, by decide⟩) (by omega) (by omega) (fun _ he hl9 kk => th_put (ci := 11) (v := .int (I 0)) (ty := .int) (C := RX11) (T := TX11) (N := 66) hx hb hts inX11 tyX11 tyX11_ok nmX11 hown hK hH hS h00 he rfl 0 (by decide) fl0 rfl (by decide +kernel) rfl rfl hl9 dX11_told_2 kk) (fun σ_s_1 H locs hO hF9 hM9 hg9 ha9 hH hS => ?_)
  replace hM := hM.tu hM9 (by decide)
  replace hF := hF.tu hF9 (by decide)
  have e_2 : aF σ_s_1 (ad E a 1) = f1 := (hM9.a (by decide) (by decide)).trans ef1
  have e_3 : aF σ_s_1 (ad E a 37) = f37 := (hM9.a (by decide) (by decide)).trans ef37
  have e_4 : aF σ_s_1 (ad E a 61) = f61 := (hM9.a (by decide) (by decide)).trans ef61
  have e_5 : aF σ_s_1 (ad E a 62) = f62 := (hM9.a (by decide) (by decide)).trans ef62
  have e_6 : aF σ_s_1 (ad E a 39) = f39 := (hM9.a (by decide) (by decide)).trans ef39
  have e_7 : aF σ_s_1 (ad E a 40) = f40 := (hM9.a (by decide) (by decide)).trans ef40
  have e_8 : aF σ_s_1 (ad E a 42) = f42 := (hM9.a (by decide) (by decide)).trans ef42
  have e_9 : aF σ_s_1 (ad E a 43) = f43 := (hM9.a (by decide) (by decide)).trans ef43
  have e_10 : aF σ_s_1 (ad E a 44) = f44 := (hM9.a (by decide) (by decide)).trans ef44
  have e_11 : aF σ_s_1 (ad E a 45) = f45 := (hM9.a (by decide) (by decide)).trans ef45
  have e_12 : aF σ_s_1 (ad E a 46) = f46 := (hM9.a (by decide) (by decide)).trans ef46
  have e_13 : gI σ_s_1 a 36 = a360 := (hM9.i (by decide)).trans ea360
  have e_14 : gI σ_s_1 a 58 = a580 := (hM9.i (by decide)).trans ea580
  have e_15 : gI σ_s_1 a 59 = a590 := (hM9.i (by decide)).trans ea590
  have e_16 : gI σ_s_1 a 12 = a120 := (hM9.i (by decide)).trans ea120
  have e_17 := hg9
  refine lv_aload_n hx hb dX11_told_5 rfl (lv_at hl 0 rfl) ?_
  refine lv_iload_n hx hb dX11_told_6 rfl (lv_at hl 1 rfl) ?_
  obtain ⟨_, hc_18⟩ := hO.cell h_a (by decide) (ci := 11) rfl
  refine th_calli (va_runV (As := [.int (I i)]) (rest := []) ⟨hx, hb, hml, hown, hts⟩ (m_isThing l G y b0 σ_s_1 E hO a h_a i (show rng i from ri) f1 e_2 (by omega)) (cwV 1 hts gX11_told_X11_isThing rfl rfl rfl (by decide +kernel) ⟨Nat.le_of_ble_eq_true rfl, Nat.le_of_ble_eq_true rfl⟩) (th_PV hK hH rfl hc_18) rfl rfl hl.1 rfl (lv_room (Nat.le_of_ble_eq_true rfl)) dX11_told_7 ⟨Nat.le_of_ble_eq_true rfl, Nat.le_of_ble_eq_true rfl⟩) hS (fun z_21 σ_s_20 H locs rz_21 hw_19 hH hS => ?_)
  obtain ⟨e9, bhw_19, hw_19⟩ := hw_19
  replace e9 := e9.symm
  subst e9
  have hw_19 : (z_21 = 1 ∧ 0 ≤ i ∧ i < mS f1 0) ∨ (z_21 = 0 ∧ ¬ (0 ≤ i ∧ i < mS f1 0)) := hw_19
  refine lv_if_ne (tgt := 19) hx hb dX11_told_10 (by decide) (fun c_22 => ?_) (fun c_22 => ?_)
  · replace c_22 := mt (I_eq (a := z_21) (b := 0) rz_21 (show rng 0 from ⟨by decide, by decide⟩)).mpr c_22
    have hk9 := hw1 i (by omega) (by omega)
    refine lv_aload_n hx hb dX11_told_19 rfl (lv_at hl 0 rfl) ?_
    refine lv_iconst (v := I 0) hx hb dX11_told_20 (by decide) ?_
    refine ok.putJ hO h_a k13_50 (show rng 0 from ⟨by decide, by decide⟩) (by omega) (by omega) (fun _ he hl9 kk => th_put (ci := 11) (v := .int (I 0)) (ty := .int) (C := RX11) (T := TX11) (N := 66) hx hb hts inX11 tyX11 tyX11_ok nmX11 hown hK hH hS h00 he rfl 50 (by decide) fl1 rfl (by decide +kernel) rfl rfl hl9 dX11_told_21 kk) (fun σ_s_23 H locs hO hF9 hM9 hg9 ha9 hH hS => ?_)
    replace hM := hM.tu hM9 (by decide)
    replace hF := hF.tu hF9 (by decide)
    have e_24 : aF σ_s_23 (ad E a 1) = f1 := (hM9.a (by decide) (by decide)).trans e_2
    have e_25 : aF σ_s_23 (ad E a 37) = f37 := (hM9.a (by decide) (by decide)).trans e_3
    have e_26 : aF σ_s_23 (ad E a 61) = f61 := (hM9.a (by decide) (by decide)).trans e_4
    have e_27 : aF σ_s_23 (ad E a 62) = f62 := (hM9.a (by decide) (by decide)).trans e_5
    have e_28 : aF σ_s_23 (ad E a 39) = f39 := (hM9.a (by decide) (by decide)).trans e_6
    have e_29 : aF σ_s_23 (ad E a 40) = f40 := (hM9.a (by decide) (by decide)).trans e_7
    have e_30 : aF σ_s_23 (ad E a 42) = f42 := (hM9.a (by decide) (by decide)).trans e_8
    have e_31 : aF σ_s_23 (ad E a 43) = f43 := (hM9.a (by decide) (by decide)).trans e_9
    have e_32 : aF σ_s_23 (ad E a 44) = f44 := (hM9.a (by decide) (by decide)).trans e_10
    have e_33 : aF σ_s_23 (ad E a 45) = f45 := (hM9.a (by decide) (by decide)).trans e_11
    have e_34 : aF σ_s_23 (ad E a 46) = f46 := (hM9.a (by decide) (by decide)).trans e_12
    have e_35 : gI σ_s_23 a 36 = a360 := (hM9.i (by decide)).trans e_13
    have e_36 : gI σ_s_23 a 58 = a580 := (hM9.i (by decide)).trans e_14
    have e_37 : gI σ_s_23 a 59 = a590 := (hM9.i (by decide)).trans e_15
    have e_38 : gI σ_s_23 a 12 = a120 := (hM9.i (by decide)).trans e_16
    have e_39 : gI σ_s_23 a 0 = 0 := (hM9.i (by decide)).trans e_17
    have e_40 := hg9
    refine lv_iload_n hx hb dX11_told_24 rfl (lv_at hl 2 rfl) ?_
    refine lv_if_eq (tgt := 36) hx hb dX11_told_25 (by decide) (fun c_41 => ?_) (fun c_41 => ?_)
    · replace c_41 := (I_eq (a := ow) (b := 0) row (show rng 0 from ⟨by decide, by decide⟩)).mp c_41
      refine lv_aload_n hx hb dX11_told_36 rfl (lv_at hl 0 rfl) ?_
      refine lv_aload_n hx hb dX11_told_37 rfl (lv_at hl 0 rfl) ?_
      refine ok.getR hO h_a (by decide) k13_1 (by decide) (fun _ _ he hv kk => th_get (ci := 11) (C := RX11) (T := TX11) (N := 66) hx hb hts inX11 hown hK hH he rfl 1 (by decide) fl2 hv dX11_told_38 kk) ?_
      refine lv_iload_n hx hb dX11_told_41 rfl (lv_at hl 1 rfl) ?_
      obtain ⟨_, hc_42⟩ := hO.cell h_a (by decide) (ci := 11) rfl
      refine th_callv (va_runV (As := [.ref (ad E a 1), .int (I i)]) (rest := []) ⟨hx, hb, hml, hown, hts⟩ (m_tellThing1 61 l G y b0 σ_s_23 E hO a h_a i (show rng i from ri) (by omega) (by omega) f1 e_24 ((hw1.sub (by omega) (by omega))) (by omega) (by omega) (by omega)) (cwV 2 hts gX11_told_X11_tellThing rfl rfl rfl (by decide +kernel) ⟨Nat.le_of_ble_eq_true rfl, Nat.le_of_ble_eq_true rfl⟩) (th_PV hK hH rfl hc_42) rfl rfl hl.1 rfl (lv_room (Nat.le_of_ble_eq_true rfl)) dX11_told_42 ⟨Nat.le_of_ble_eq_true rfl, Nat.le_of_ble_eq_true rfl⟩) hS (fun σ_s_44 H locs hw_43 hH hS => ?_)
      obtain ⟨hO9, hF9, hM9, hw_43⟩ := hw_43
      replace hM := hM.tu hM9 (by decide)
      replace hF := hF.tu hF9 (by decide)
      have e_45 : aF σ_s_44 (ad E a 1) = f1 := (hM9.a (by decide) (by decide)).trans e_24
      have e_46 : aF σ_s_44 (ad E a 37) = f37 := (hM9.a (by decide) (by decide)).trans e_25
      have e_47 : aF σ_s_44 (ad E a 61) = f61 := (hM9.a (by decide) (by decide)).trans e_26
      have e_48 : aF σ_s_44 (ad E a 62) = f62 := (hM9.a (by decide) (by decide)).trans e_27
      have e_49 : aF σ_s_44 (ad E a 39) = f39 := (hM9.a (by decide) (by decide)).trans e_28
      have e_50 : aF σ_s_44 (ad E a 40) = f40 := (hM9.a (by decide) (by decide)).trans e_29
      have e_51 : aF σ_s_44 (ad E a 42) = f42 := (hM9.a (by decide) (by decide)).trans e_30
      have e_52 : aF σ_s_44 (ad E a 43) = f43 := (hM9.a (by decide) (by decide)).trans e_31
      have e_53 : aF σ_s_44 (ad E a 44) = f44 := (hM9.a (by decide) (by decide)).trans e_32
      have e_54 : aF σ_s_44 (ad E a 45) = f45 := (hM9.a (by decide) (by decide)).trans e_33
      have e_55 : aF σ_s_44 (ad E a 46) = f46 := (hM9.a (by decide) (by decide)).trans e_34
      have e_56 : gI σ_s_44 a 36 = a360 := (hM9.i (by decide)).trans e_35
      have e_57 : gI σ_s_44 a 58 = a580 := (hM9.i (by decide)).trans e_36
      have e_58 : gI σ_s_44 a 59 = a590 := (hM9.i (by decide)).trans e_37
      have e_59 : gI σ_s_44 a 12 = a120 := (hM9.i (by decide)).trans e_38
      have e_60 : gI σ_s_44 a 0 = 0 := (hM9.i (by decide)).trans e_39
      replace hO := hO9
      have hw_43 : gI σ_s_23 a 50 ≤ gI σ_s_44 a 50 ∧ gI σ_s_44 a 50 + 9 ≤ gI σ_s_23 a 50 + 16 * mS f1 i := hw_43
      refine lv_aload_n hx hb dX11_told_45 rfl (lv_at hl 0 rfl) ?_
      refine lv_iload_n hx hb dX11_told_46 rfl (lv_at hl 3 rfl) ?_
      obtain ⟨_, hc_61⟩ := hO.cell h_a (by decide) (ci := 11) rfl
      refine th_calli (va_runV (As := [.int (I j)]) (rest := []) ⟨hx, hb, hml, hown, hts⟩ (m_outAt l G y b0 σ_s_44 E hO a h_a j (show rng j from rj)) (cwV 1 hts gX11_told_X11_outAt rfl rfl rfl (by decide +kernel) ⟨Nat.le_of_ble_eq_true rfl, Nat.le_of_ble_eq_true rfl⟩) (th_PV hK hH rfl hc_61) rfl rfl hl.1 rfl (lv_room (Nat.le_of_ble_eq_true rfl)) dX11_told_47 ⟨Nat.le_of_ble_eq_true rfl, Nat.le_of_ble_eq_true rfl⟩) hS (fun z_64 σ_s_63 H locs rz_64 hw_62 hH hS => ?_)
      obtain ⟨hO9, hF9, hM9, hw_62⟩ := hw_62
      replace hM := hM.tu hM9 (by decide)
      replace hF := hF.tu hF9 (by decide)
      have e_65 : aF σ_s_63 (ad E a 1) = f1 := (hM9.a (by decide) (by decide)).trans e_45
      have e_66 : aF σ_s_63 (ad E a 37) = f37 := (hM9.a (by decide) (by decide)).trans e_46
      have e_67 : aF σ_s_63 (ad E a 61) = f61 := (hM9.a (by decide) (by decide)).trans e_47
      have e_68 : aF σ_s_63 (ad E a 62) = f62 := (hM9.a (by decide) (by decide)).trans e_48
      have e_69 : aF σ_s_63 (ad E a 39) = f39 := (hM9.a (by decide) (by decide)).trans e_49
      have e_70 : aF σ_s_63 (ad E a 40) = f40 := (hM9.a (by decide) (by decide)).trans e_50
      have e_71 : aF σ_s_63 (ad E a 42) = f42 := (hM9.a (by decide) (by decide)).trans e_51
      have e_72 : aF σ_s_63 (ad E a 43) = f43 := (hM9.a (by decide) (by decide)).trans e_52
      have e_73 : aF σ_s_63 (ad E a 44) = f44 := (hM9.a (by decide) (by decide)).trans e_53
      have e_74 : aF σ_s_63 (ad E a 45) = f45 := (hM9.a (by decide) (by decide)).trans e_54
      have e_75 : aF σ_s_63 (ad E a 46) = f46 := (hM9.a (by decide) (by decide)).trans e_55
      have e_76 : gI σ_s_63 a 36 = a360 := (hM9.i (by decide)).trans e_56
      have e_77 : gI σ_s_63 a 58 = a580 := (hM9.i (by decide)).trans e_57
      have e_78 : gI σ_s_63 a 59 = a590 := (hM9.i (by decide)).trans e_58
      have e_79 : gI σ_s_63 a 12 = a120 := (hM9.i (by decide)).trans e_59
      replace hO := hO9
      exact th_iret hx hb hr hlocks hH hS (z := z_64) rz_64 ⟨hO, hF, hM, by rw [show aF σ_s_63 (ad E a 1) = f1 from e_65, show aF σ_s_63 (ad E a 37) = f37 from e_66, show aF σ_s_63 (ad E a 61) = f61 from e_67, show aF σ_s_63 (ad E a 62) = f62 from e_68, show aF σ_s_63 (ad E a 39) = f39 from e_69, show aF σ_s_63 (ad E a 40) = f40 from e_70, show aF σ_s_63 (ad E a 42) = f42 from e_71, show aF σ_s_63 (ad E a 43) = f43 from e_72, show aF σ_s_63 (ad E a 44) = f44 from e_73, show aF σ_s_63 (ad E a 45) = f45 from e_74, show aF σ_s_63 (ad E a 46) = f46 from e_75]; exact ⟨hj.n (by omega) (by omega) (by omega), by omega⟩⟩ dX11_told_50
    · replace c_41 := mt (I_eq (a := ow) (b := 0) row (show rng 0 from ⟨by decide, by decide⟩)).mpr c_41
      refine lv_aload_n hx hb dX11_told_28 rfl (lv_at hl 0 rfl) ?_
      refine lv_iload_n hx hb dX11_told_29 rfl (lv_at hl 1 rfl) ?_
      obtain ⟨_, hc_80⟩ := hO.cell h_a (by decide) (ci := 11) rfl
      refine th_callv (va_runV (As := [.int (I i)]) (rest := []) ⟨hx, hb, hml, hown, hts⟩ (m_tellWay 60 l G y b0 σ_s_23 E hO a h_a i (show rng i from ri) (by omega) (by omega) f1 e_24 (hw1) (by omega) (by omega) (by omega) (by omega)) (cwV 1 hts gX11_told_X11_tellWay rfl rfl rfl (by decide +kernel) ⟨Nat.le_of_ble_eq_true rfl, Nat.le_of_ble_eq_true rfl⟩) (th_PV hK hH rfl hc_80) rfl rfl hl.1 rfl (lv_room (Nat.le_of_ble_eq_true rfl)) dX11_told_30 ⟨Nat.le_of_ble_eq_true rfl, Nat.le_of_ble_eq_true rfl⟩) hS (fun σ_s_82 H locs hw_81 hH hS => ?_)
      obtain ⟨hO9, hF9, hM9, hw_81⟩ := hw_81
      replace hM := hM.tu hM9 (by decide)
      replace hF := hF.tu hF9 (by decide)
      have e_83 : aF σ_s_82 (ad E a 1) = f1 := (hM9.a (by decide) (by decide)).trans e_24
      have e_84 : aF σ_s_82 (ad E a 37) = f37 := (hM9.a (by decide) (by decide)).trans e_25
      have e_85 : aF σ_s_82 (ad E a 61) = f61 := (hM9.a (by decide) (by decide)).trans e_26
      have e_86 : aF σ_s_82 (ad E a 62) = f62 := (hM9.a (by decide) (by decide)).trans e_27
      have e_87 : aF σ_s_82 (ad E a 39) = f39 := (hM9.a (by decide) (by decide)).trans e_28
      have e_88 : aF σ_s_82 (ad E a 40) = f40 := (hM9.a (by decide) (by decide)).trans e_29
      have e_89 : aF σ_s_82 (ad E a 42) = f42 := (hM9.a (by decide) (by decide)).trans e_30
      have e_90 : aF σ_s_82 (ad E a 43) = f43 := (hM9.a (by decide) (by decide)).trans e_31
      have e_91 : aF σ_s_82 (ad E a 44) = f44 := (hM9.a (by decide) (by decide)).trans e_32
      have e_92 : aF σ_s_82 (ad E a 45) = f45 := (hM9.a (by decide) (by decide)).trans e_33
      have e_93 : aF σ_s_82 (ad E a 46) = f46 := (hM9.a (by decide) (by decide)).trans e_34
      have e_94 : gI σ_s_82 a 36 = a360 := (hM9.i (by decide)).trans e_35
      have e_95 : gI σ_s_82 a 58 = a580 := (hM9.i (by decide)).trans e_36
      have e_96 : gI σ_s_82 a 59 = a590 := (hM9.i (by decide)).trans e_37
      have e_97 : gI σ_s_82 a 12 = a120 := (hM9.i (by decide)).trans e_38
      have e_98 : gI σ_s_82 a 0 = 0 := (hM9.i (by decide)).trans e_39
      replace hO := hO9
      have hw_81 : gI σ_s_23 a 50 ≤ gI σ_s_82 a 50 ∧ gI σ_s_82 a 50 ≤ gI σ_s_23 a 50 + 8 * i := hw_81
      refine lv_goto (tgt := 45) hx hb dX11_told_33 (by decide) ?_
      refine lv_aload_n hx hb dX11_told_45 rfl (lv_at hl 0 rfl) ?_
      refine lv_iload_n hx hb dX11_told_46 rfl (lv_at hl 3 rfl) ?_
      obtain ⟨_, hc_99⟩ := hO.cell h_a (by decide) (ci := 11) rfl
      refine th_calli (va_runV (As := [.int (I j)]) (rest := []) ⟨hx, hb, hml, hown, hts⟩ (m_outAt l G y b0 σ_s_82 E hO a h_a j (show rng j from rj)) (cwV 1 hts gX11_told_X11_outAt rfl rfl rfl (by decide +kernel) ⟨Nat.le_of_ble_eq_true rfl, Nat.le_of_ble_eq_true rfl⟩) (th_PV hK hH rfl hc_99) rfl rfl hl.1 rfl (lv_room (Nat.le_of_ble_eq_true rfl)) dX11_told_47 ⟨Nat.le_of_ble_eq_true rfl, Nat.le_of_ble_eq_true rfl⟩) hS (fun z_102 σ_s_101 H locs rz_102 hw_100 hH hS => ?_)
      obtain ⟨hO9, hF9, hM9, hw_100⟩ := hw_100
      replace hM := hM.tu hM9 (by decide)
      replace hF := hF.tu hF9 (by decide)
      have e_103 : aF σ_s_101 (ad E a 1) = f1 := (hM9.a (by decide) (by decide)).trans e_83
      have e_104 : aF σ_s_101 (ad E a 37) = f37 := (hM9.a (by decide) (by decide)).trans e_84
      have e_105 : aF σ_s_101 (ad E a 61) = f61 := (hM9.a (by decide) (by decide)).trans e_85
      have e_106 : aF σ_s_101 (ad E a 62) = f62 := (hM9.a (by decide) (by decide)).trans e_86
      have e_107 : aF σ_s_101 (ad E a 39) = f39 := (hM9.a (by decide) (by decide)).trans e_87
      have e_108 : aF σ_s_101 (ad E a 40) = f40 := (hM9.a (by decide) (by decide)).trans e_88
      have e_109 : aF σ_s_101 (ad E a 42) = f42 := (hM9.a (by decide) (by decide)).trans e_89
      have e_110 : aF σ_s_101 (ad E a 43) = f43 := (hM9.a (by decide) (by decide)).trans e_90
      have e_111 : aF σ_s_101 (ad E a 44) = f44 := (hM9.a (by decide) (by decide)).trans e_91
      have e_112 : aF σ_s_101 (ad E a 45) = f45 := (hM9.a (by decide) (by decide)).trans e_92
      have e_113 : aF σ_s_101 (ad E a 46) = f46 := (hM9.a (by decide) (by decide)).trans e_93
      have e_114 : gI σ_s_101 a 36 = a360 := (hM9.i (by decide)).trans e_94
      have e_115 : gI σ_s_101 a 58 = a580 := (hM9.i (by decide)).trans e_95
      have e_116 : gI σ_s_101 a 59 = a590 := (hM9.i (by decide)).trans e_96
      have e_117 : gI σ_s_101 a 12 = a120 := (hM9.i (by decide)).trans e_97
      replace hO := hO9
      exact th_iret hx hb hr hlocks hH hS (z := z_102) rz_102 ⟨hO, hF, hM, by rw [show aF σ_s_101 (ad E a 1) = f1 from e_103, show aF σ_s_101 (ad E a 37) = f37 from e_104, show aF σ_s_101 (ad E a 61) = f61 from e_105, show aF σ_s_101 (ad E a 62) = f62 from e_106, show aF σ_s_101 (ad E a 39) = f39 from e_107, show aF σ_s_101 (ad E a 40) = f40 from e_108, show aF σ_s_101 (ad E a 42) = f42 from e_109, show aF σ_s_101 (ad E a 43) = f43 from e_110, show aF σ_s_101 (ad E a 44) = f44 from e_111, show aF σ_s_101 (ad E a 45) = f45 from e_112, show aF σ_s_101 (ad E a 46) = f46 from e_113]; exact ⟨hj.n (by omega) (by omega) (by omega), by omega⟩⟩ dX11_told_50
  · replace c_22 := (I_eq (a := z_21) (b := 0) rz_21 (show rng 0 from ⟨by decide, by decide⟩)).mp c_22
    refine lv_aload_n hx hb dX11_told_13 rfl (lv_at hl 0 rfl) ?_
    refine lv_iconst (v := I 1) hx hb dX11_told_14 (by decide) ?_
    obtain ⟨_, hc_118⟩ := hO.cell h_a (by decide) (ci := 11) rfl
    refine th_calli (va_runV (As := [.int (I 1)]) (rest := []) ⟨hx, hb, hml, hown, hts⟩ (m_fail l G y b0 σ_s_1 E hO a h_a 1 (show rng 1 from (show rng 1 from ⟨by decide, by decide⟩))) (cwV 1 hts gX11_told_X11_fail rfl rfl rfl (by decide +kernel) ⟨Nat.le_of_ble_eq_true rfl, Nat.le_of_ble_eq_true rfl⟩) (th_PV hK hH rfl hc_118) rfl rfl hl.1 rfl (lv_room (Nat.le_of_ble_eq_true rfl)) dX11_told_15 ⟨Nat.le_of_ble_eq_true rfl, Nat.le_of_ble_eq_true rfl⟩) hS (fun z_121 σ_s_120 H locs rz_121 hw_119 hH hS => ?_)
    obtain ⟨hO9, hF9, hM9, hw_119⟩ := hw_119
    replace hM := hM.tu hM9 (by decide)
    replace hF := hF.tu hF9 (by decide)
    have e_122 : aF σ_s_120 (ad E a 1) = f1 := (hM9.a (by decide) (by decide)).trans e_2
    have e_123 : aF σ_s_120 (ad E a 37) = f37 := (hM9.a (by decide) (by decide)).trans e_3
    have e_124 : aF σ_s_120 (ad E a 61) = f61 := (hM9.a (by decide) (by decide)).trans e_4
    have e_125 : aF σ_s_120 (ad E a 62) = f62 := (hM9.a (by decide) (by decide)).trans e_5
    have e_126 : aF σ_s_120 (ad E a 39) = f39 := (hM9.a (by decide) (by decide)).trans e_6
    have e_127 : aF σ_s_120 (ad E a 40) = f40 := (hM9.a (by decide) (by decide)).trans e_7
    have e_128 : aF σ_s_120 (ad E a 42) = f42 := (hM9.a (by decide) (by decide)).trans e_8
    have e_129 : aF σ_s_120 (ad E a 43) = f43 := (hM9.a (by decide) (by decide)).trans e_9
    have e_130 : aF σ_s_120 (ad E a 44) = f44 := (hM9.a (by decide) (by decide)).trans e_10
    have e_131 : aF σ_s_120 (ad E a 45) = f45 := (hM9.a (by decide) (by decide)).trans e_11
    have e_132 : aF σ_s_120 (ad E a 46) = f46 := (hM9.a (by decide) (by decide)).trans e_12
    have e_133 : gI σ_s_120 a 36 = a360 := (hM9.i (by decide)).trans e_13
    have e_134 : gI σ_s_120 a 58 = a580 := (hM9.i (by decide)).trans e_14
    have e_135 : gI σ_s_120 a 59 = a590 := (hM9.i (by decide)).trans e_15
    have e_136 : gI σ_s_120 a 12 = a120 := (hM9.i (by decide)).trans e_16
    replace hO := hO9
    exact th_iret hx hb hr hlocks hH hS (z := z_121) rz_121 ⟨hO, hF, hM, by rw [show aF σ_s_120 (ad E a 1) = f1 from e_122, show aF σ_s_120 (ad E a 37) = f37 from e_123, show aF σ_s_120 (ad E a 61) = f61 from e_124, show aF σ_s_120 (ad E a 62) = f62 from e_125, show aF σ_s_120 (ad E a 39) = f39 from e_126, show aF σ_s_120 (ad E a 40) = f40 from e_127, show aF σ_s_120 (ad E a 42) = f42 from e_128, show aF σ_s_120 (ad E a 43) = f43 from e_129, show aF σ_s_120 (ad E a 44) = f44 from e_130, show aF σ_s_120 (ad E a 45) = f45 from e_131, show aF σ_s_120 (ad E a 46) = f46 from e_132]; exact ⟨hj.n (by omega) (by omega) (by omega), by omega⟩⟩ dX11_told_18

set_option maxHeartbeats 4000000 in
set_option maxRecDepth 100000 in
theorem j_alike (l : Launch) (G : va_G) (y : Nat → ClassId) (b0 : Nat) (σ : th_M) (E : th_E) (hO : ok y E σ) (a : Nat) (h_a : kd E a = 13) (i : Int) (ri : rng i) (j : Int) (rj : rng j) (f1 : Nat → Int32) (ef1 : aF σ (ad E a 1) = f1) (f37 : Nat → Int32) (ef37 : aF σ (ad E a 37) = f37) (f61 : Nat → Int32) (ef61 : aF σ (ad E a 61) = f61) (f62 : Nat → Int32) (ef62 : aF σ (ad E a 62) = f62) (f39 : Nat → Int32) (ef39 : aF σ (ad E a 39) = f39) (f40 : Nat → Int32) (ef40 : aF σ (ad E a 40) = f40) (f42 : Nat → Int32) (ef42 : aF σ (ad E a 42) = f42) (f43 : Nat → Int32) (ef43 : aF σ (ad E a 43) = f43) (f44 : Nat → Int32) (ef44 : aF σ (ad E a 44) = f44) (f45 : Nat → Int32) (ef45 : aF σ (ad E a 45) = f45) (f46 : Nat → Int32) (ef46 : aF σ (ad E a 46) = f46) (hy0 : jw f1 f37 f61 f62 f39 f40 f42 f43 f44 f45 f46 (gI σ a 36) (gI σ a 58) (gI σ a 59)) : Met l yX11_alike wsX11_alike ({ frames := 131, cells := 0, slots := 0, locals := 3891 }) (th_P G y b0 σ [.ref a, .int (I i), .int (I j)]) (th_Qi G b0 (fun r σ1 => ok y E σ1 ∧ fr [13] E σ σ1 ∧ fm [0] E σ σ1 a ∧ (jw (aF σ1 (ad E a 1)) (aF σ1 (ad E a 37)) (aF σ1 (ad E a 61)) (aF σ1 (ad E a 62)) (aF σ1 (ad E a 39)) (aF σ1 (ad E a 40)) (aF σ1 (ad E a 42)) (aF σ1 (ad E a 43)) (aF σ1 (ad E a 44)) (aF σ1 (ad E a 45)) (aF σ1 (ad E a 46)) (gI σ1 a 36) (gI σ1 a 58) (gI σ1 a 59) ∧ gI σ1 a 12 = gI σ a 12))) 0 0 (th_A b0) := by
  refine Met.ofW (cc := cX11_alike) (maxL := 3) (ret := (some .int)) (by decide) rfl ?_
  intro p e s m args below meth c s₁ B hml hv
  obtain ⟨rfl, hH, hK⟩ := hv
  have hx := B.exec
  have hb := B.bytes
  have hr := B.returns
  have hts := atoms_spec (ws := wsX11_alike) B.pre
  have hown : s.vm.findClass RX11 = some m.cls := findClass_of_methodNamed B.named
  have hlocks := B.notSynchronized
  have h00 : b0 ≤ s.heap.size := hH.1
  have hS : va_S (th_A b0) s.heap s.heap [] := va_S.rf
  have hF : fr [13] E σ σ := fr.rf
  have hM : fm [0] E σ σ a := fm.rf
  have hj := hy0
  have hw1 := hj.1.1.1
  have hm1 := hj.1.2.1
  have hm2 := hj.1.2.2.1
  have hm3 := hj.2.2.2.2.1
  have hm4 := hj.2.2.2.2.2.1
  have inX11 : ∀ w ∈ wsX110, w ∈ wsX11_alike := by decide +kernel
  have fl0 := hts (.fieldLink RX11 111 "NestQueryModel" "code" "I") (by decide +kernel)
  have fl1 := hts (.fieldLink RX11 9 "NestQueryModel" "tree" "[I") (by decide +kernel)
  have hl := lv_entry ([.ref a, .int (I i), .int (I j)]) (n := 3) (Nat.le_of_ble_eq_true rfl)
  rw [lg_entry_eq]
  generalize (lg_sl ([.ref a, .int (I i), .int (I j)]) ++ List.replicate (3 - (lg_sl ([.ref a, .int (I i), .int (I j)])).length) Slot.unset).toArray = ls at hl ⊢
  have hl : lv_has ls 3 [(0, .ref a), (1, .int (I i)), (2, .int (I j))] := hl
  obtain ⟨a360, ea360, ra360, la360, ua360⟩ := hO.gi h_a (by decide) k13_36
  obtain ⟨a580, ea580, ra580, la580, ua580⟩ := hO.gi h_a (by decide) k13_58
  obtain ⟨a590, ea590, ra590, la590, ua590⟩ := hO.gi h_a (by decide) k13_59
  obtain ⟨a120, ea120, ra120, la120, ua120⟩ := hO.gi h_a (by decide) k13_12
  refine lv_aload_n hx hb dX11_alike_0 rfl (lv_at hl 0 rfl) ?_
  refine lv_iconst (v := I 0) hx hb dX11_alike_1 (by decide) ?_
  refine ok.putJ hO h_a k13_0 (show rng 0 from ⟨by decide, by decide⟩) (by omega) (by omega) (fun _ he hl9 kk => th_put (ci := 11) (v := .int (I 0)) (ty := .int) (C := RX11) (T := TX11) (N := 66) hx hb hts inX11 tyX11 tyX11_ok nmX11 hown hK hH hS h00 he rfl 0 (by decide) fl0 rfl (by decide +kernel) rfl rfl hl9 dX11_alike_2 kk) (fun σ_s_1 H locs hO hF9 hM9 hg9 ha9 hH hS => ?_)
  replace hM := hM.tu hM9 (by decide)
  replace hF := hF.tu hF9 (by decide)
  have e_2 : aF σ_s_1 (ad E a 1) = f1 := (hM9.a (by decide) (by decide)).trans ef1
  have e_3 : aF σ_s_1 (ad E a 37) = f37 := (hM9.a (by decide) (by decide)).trans ef37
  have e_4 : aF σ_s_1 (ad E a 61) = f61 := (hM9.a (by decide) (by decide)).trans ef61
  have e_5 : aF σ_s_1 (ad E a 62) = f62 := (hM9.a (by decide) (by decide)).trans ef62
  have e_6 : aF σ_s_1 (ad E a 39) = f39 := (hM9.a (by decide) (by decide)).trans ef39
  have e_7 : aF σ_s_1 (ad E a 40) = f40 := (hM9.a (by decide) (by decide)).trans ef40
  have e_8 : aF σ_s_1 (ad E a 42) = f42 := (hM9.a (by decide) (by decide)).trans ef42
  have e_9 : aF σ_s_1 (ad E a 43) = f43 := (hM9.a (by decide) (by decide)).trans ef43
  have e_10 : aF σ_s_1 (ad E a 44) = f44 := (hM9.a (by decide) (by decide)).trans ef44
  have e_11 : aF σ_s_1 (ad E a 45) = f45 := (hM9.a (by decide) (by decide)).trans ef45
  have e_12 : aF σ_s_1 (ad E a 46) = f46 := (hM9.a (by decide) (by decide)).trans ef46
  have e_13 : gI σ_s_1 a 36 = a360 := (hM9.i (by decide)).trans ea360
  have e_14 : gI σ_s_1 a 58 = a580 := (hM9.i (by decide)).trans ea580
  have e_15 : gI σ_s_1 a 59 = a590 := (hM9.i (by decide)).trans ea590
  have e_16 : gI σ_s_1 a 12 = a120 := (hM9.i (by decide)).trans ea120
  have e_17 := hg9
  refine lv_aload_n hx hb dX11_alike_5 rfl (lv_at hl 0 rfl) ?_
  refine lv_iload_n hx hb dX11_alike_6 rfl (lv_at hl 1 rfl) ?_
  obtain ⟨_, hc_18⟩ := hO.cell h_a (by decide) (ci := 11) rfl
  refine th_calli (va_runV (As := [.int (I i)]) (rest := []) ⟨hx, hb, hml, hown, hts⟩ (m_isThing l G y b0 σ_s_1 E hO a h_a i (show rng i from ri) f1 e_2 (by omega)) (cwV 1 hts gX11_alike_X11_isThing rfl rfl rfl (by decide +kernel) ⟨Nat.le_of_ble_eq_true rfl, Nat.le_of_ble_eq_true rfl⟩) (th_PV hK hH rfl hc_18) rfl rfl hl.1 rfl (lv_room (Nat.le_of_ble_eq_true rfl)) dX11_alike_7 ⟨Nat.le_of_ble_eq_true rfl, Nat.le_of_ble_eq_true rfl⟩) hS (fun z_21 σ_s_20 H locs rz_21 hw_19 hH hS => ?_)
  obtain ⟨e9, bhw_19, hw_19⟩ := hw_19
  replace e9 := e9.symm
  subst e9
  have hw_19 : (z_21 = 1 ∧ 0 ≤ i ∧ i < mS f1 0) ∨ (z_21 = 0 ∧ ¬ (0 ≤ i ∧ i < mS f1 0)) := hw_19
  refine lv_if_eq (tgt := 45) hx hb dX11_alike_10 (by decide) (fun c_22 => ?_) (fun c_22 => ?_)
  · replace c_22 := (I_eq (a := z_21) (b := 0) rz_21 (show rng 0 from ⟨by decide, by decide⟩)).mp c_22
    refine lv_aload_n hx hb dX11_alike_45 rfl (lv_at hl 0 rfl) ?_
    refine lv_iconst (v := I 1) hx hb dX11_alike_46 (by decide) ?_
    obtain ⟨_, hc_23⟩ := hO.cell h_a (by decide) (ci := 11) rfl
    refine th_calli (va_runV (As := [.int (I 1)]) (rest := []) ⟨hx, hb, hml, hown, hts⟩ (m_fail l G y b0 σ_s_1 E hO a h_a 1 (show rng 1 from (show rng 1 from ⟨by decide, by decide⟩))) (cwV 1 hts gX11_alike_X11_fail rfl rfl rfl (by decide +kernel) ⟨Nat.le_of_ble_eq_true rfl, Nat.le_of_ble_eq_true rfl⟩) (th_PV hK hH rfl hc_23) rfl rfl hl.1 rfl (lv_room (Nat.le_of_ble_eq_true rfl)) dX11_alike_47 ⟨Nat.le_of_ble_eq_true rfl, Nat.le_of_ble_eq_true rfl⟩) hS (fun z_26 σ_s_25 H locs rz_26 hw_24 hH hS => ?_)
    obtain ⟨hO9, hF9, hM9, hw_24⟩ := hw_24
    replace hM := hM.tu hM9 (by decide)
    replace hF := hF.tu hF9 (by decide)
    have e_27 : aF σ_s_25 (ad E a 1) = f1 := (hM9.a (by decide) (by decide)).trans e_2
    have e_28 : aF σ_s_25 (ad E a 37) = f37 := (hM9.a (by decide) (by decide)).trans e_3
    have e_29 : aF σ_s_25 (ad E a 61) = f61 := (hM9.a (by decide) (by decide)).trans e_4
    have e_30 : aF σ_s_25 (ad E a 62) = f62 := (hM9.a (by decide) (by decide)).trans e_5
    have e_31 : aF σ_s_25 (ad E a 39) = f39 := (hM9.a (by decide) (by decide)).trans e_6
    have e_32 : aF σ_s_25 (ad E a 40) = f40 := (hM9.a (by decide) (by decide)).trans e_7
    have e_33 : aF σ_s_25 (ad E a 42) = f42 := (hM9.a (by decide) (by decide)).trans e_8
    have e_34 : aF σ_s_25 (ad E a 43) = f43 := (hM9.a (by decide) (by decide)).trans e_9
    have e_35 : aF σ_s_25 (ad E a 44) = f44 := (hM9.a (by decide) (by decide)).trans e_10
    have e_36 : aF σ_s_25 (ad E a 45) = f45 := (hM9.a (by decide) (by decide)).trans e_11
    have e_37 : aF σ_s_25 (ad E a 46) = f46 := (hM9.a (by decide) (by decide)).trans e_12
    have e_38 : gI σ_s_25 a 36 = a360 := (hM9.i (by decide)).trans e_13
    have e_39 : gI σ_s_25 a 58 = a580 := (hM9.i (by decide)).trans e_14
    have e_40 : gI σ_s_25 a 59 = a590 := (hM9.i (by decide)).trans e_15
    have e_41 : gI σ_s_25 a 12 = a120 := (hM9.i (by decide)).trans e_16
    replace hO := hO9
    exact th_iret hx hb hr hlocks hH hS (z := z_26) rz_26 ⟨hO, hF, hM, by rw [show aF σ_s_25 (ad E a 1) = f1 from e_27, show aF σ_s_25 (ad E a 37) = f37 from e_28, show aF σ_s_25 (ad E a 61) = f61 from e_29, show aF σ_s_25 (ad E a 62) = f62 from e_30, show aF σ_s_25 (ad E a 39) = f39 from e_31, show aF σ_s_25 (ad E a 40) = f40 from e_32, show aF σ_s_25 (ad E a 42) = f42 from e_33, show aF σ_s_25 (ad E a 43) = f43 from e_34, show aF σ_s_25 (ad E a 44) = f44 from e_35, show aF σ_s_25 (ad E a 45) = f45 from e_36, show aF σ_s_25 (ad E a 46) = f46 from e_37]; exact ⟨hj.n (by omega) (by omega) (by omega), by omega⟩⟩ dX11_alike_50
  · replace c_22 := mt (I_eq (a := z_21) (b := 0) rz_21 (show rng 0 from ⟨by decide, by decide⟩)).mpr c_22
    refine lv_aload_n hx hb dX11_alike_13 rfl (lv_at hl 0 rfl) ?_
    refine lv_iload_n hx hb dX11_alike_14 rfl (lv_at hl 2 rfl) ?_
    obtain ⟨_, hc_42⟩ := hO.cell h_a (by decide) (ci := 11) rfl
    refine th_calli (va_runV (As := [.int (I j)]) (rest := []) ⟨hx, hb, hml, hown, hts⟩ (m_isThing l G y b0 σ_s_1 E hO a h_a j (show rng j from rj) f1 e_2 (by omega)) (cwV 1 hts gX11_alike_X11_isThing rfl rfl rfl (by decide +kernel) ⟨Nat.le_of_ble_eq_true rfl, Nat.le_of_ble_eq_true rfl⟩) (th_PV hK hH rfl hc_42) rfl rfl hl.1 rfl (lv_room (Nat.le_of_ble_eq_true rfl)) dX11_alike_15 ⟨Nat.le_of_ble_eq_true rfl, Nat.le_of_ble_eq_true rfl⟩) hS (fun z_45 σ_s_44 H locs rz_45 hw_43 hH hS => ?_)
    obtain ⟨e9, bhw_43, hw_43⟩ := hw_43
    replace e9 := e9.symm
    subst e9
    have hw_43 : (z_45 = 1 ∧ 0 ≤ j ∧ j < mS f1 0) ∨ (z_45 = 0 ∧ ¬ (0 ≤ j ∧ j < mS f1 0)) := hw_43
    refine lv_if_eq (tgt := 45) hx hb dX11_alike_18 (by decide) (fun c_46 => ?_) (fun c_46 => ?_)
    · replace c_46 := (I_eq (a := z_45) (b := 0) rz_45 (show rng 0 from ⟨by decide, by decide⟩)).mp c_46
      refine lv_aload_n hx hb dX11_alike_45 rfl (lv_at hl 0 rfl) ?_
      refine lv_iconst (v := I 1) hx hb dX11_alike_46 (by decide) ?_
      obtain ⟨_, hc_47⟩ := hO.cell h_a (by decide) (ci := 11) rfl
      refine th_calli (va_runV (As := [.int (I 1)]) (rest := []) ⟨hx, hb, hml, hown, hts⟩ (m_fail l G y b0 σ_s_1 E hO a h_a 1 (show rng 1 from (show rng 1 from ⟨by decide, by decide⟩))) (cwV 1 hts gX11_alike_X11_fail rfl rfl rfl (by decide +kernel) ⟨Nat.le_of_ble_eq_true rfl, Nat.le_of_ble_eq_true rfl⟩) (th_PV hK hH rfl hc_47) rfl rfl hl.1 rfl (lv_room (Nat.le_of_ble_eq_true rfl)) dX11_alike_47 ⟨Nat.le_of_ble_eq_true rfl, Nat.le_of_ble_eq_true rfl⟩) hS (fun z_50 σ_s_49 H locs rz_50 hw_48 hH hS => ?_)
      obtain ⟨hO9, hF9, hM9, hw_48⟩ := hw_48
      replace hM := hM.tu hM9 (by decide)
      replace hF := hF.tu hF9 (by decide)
      have e_51 : aF σ_s_49 (ad E a 1) = f1 := (hM9.a (by decide) (by decide)).trans e_2
      have e_52 : aF σ_s_49 (ad E a 37) = f37 := (hM9.a (by decide) (by decide)).trans e_3
      have e_53 : aF σ_s_49 (ad E a 61) = f61 := (hM9.a (by decide) (by decide)).trans e_4
      have e_54 : aF σ_s_49 (ad E a 62) = f62 := (hM9.a (by decide) (by decide)).trans e_5
      have e_55 : aF σ_s_49 (ad E a 39) = f39 := (hM9.a (by decide) (by decide)).trans e_6
      have e_56 : aF σ_s_49 (ad E a 40) = f40 := (hM9.a (by decide) (by decide)).trans e_7
      have e_57 : aF σ_s_49 (ad E a 42) = f42 := (hM9.a (by decide) (by decide)).trans e_8
      have e_58 : aF σ_s_49 (ad E a 43) = f43 := (hM9.a (by decide) (by decide)).trans e_9
      have e_59 : aF σ_s_49 (ad E a 44) = f44 := (hM9.a (by decide) (by decide)).trans e_10
      have e_60 : aF σ_s_49 (ad E a 45) = f45 := (hM9.a (by decide) (by decide)).trans e_11
      have e_61 : aF σ_s_49 (ad E a 46) = f46 := (hM9.a (by decide) (by decide)).trans e_12
      have e_62 : gI σ_s_49 a 36 = a360 := (hM9.i (by decide)).trans e_13
      have e_63 : gI σ_s_49 a 58 = a580 := (hM9.i (by decide)).trans e_14
      have e_64 : gI σ_s_49 a 59 = a590 := (hM9.i (by decide)).trans e_15
      have e_65 : gI σ_s_49 a 12 = a120 := (hM9.i (by decide)).trans e_16
      replace hO := hO9
      exact th_iret hx hb hr hlocks hH hS (z := z_50) rz_50 ⟨hO, hF, hM, by rw [show aF σ_s_49 (ad E a 1) = f1 from e_51, show aF σ_s_49 (ad E a 37) = f37 from e_52, show aF σ_s_49 (ad E a 61) = f61 from e_53, show aF σ_s_49 (ad E a 62) = f62 from e_54, show aF σ_s_49 (ad E a 39) = f39 from e_55, show aF σ_s_49 (ad E a 40) = f40 from e_56, show aF σ_s_49 (ad E a 42) = f42 from e_57, show aF σ_s_49 (ad E a 43) = f43 from e_58, show aF σ_s_49 (ad E a 44) = f44 from e_59, show aF σ_s_49 (ad E a 45) = f45 from e_60, show aF σ_s_49 (ad E a 46) = f46 from e_61]; exact ⟨hj.n (by omega) (by omega) (by omega), by omega⟩⟩ dX11_alike_50
    · replace c_46 := mt (I_eq (a := z_45) (b := 0) rz_45 (show rng 0 from ⟨by decide, by decide⟩)).mpr c_46
      have hk9 := hw1 i (by omega) (by omega)
      have hk8 := hw1 j (by omega) (by omega)
      refine lv_aload_n hx hb dX11_alike_21 rfl (lv_at hl 0 rfl) ?_
      refine ok.getR hO h_a (by decide) k13_1 (by decide) (fun _ _ he hv kk => th_get (ci := 11) (C := RX11) (T := TX11) (N := 66) hx hb hts inX11 hown hK hH he rfl 1 (by decide) fl1 hv dX11_alike_22 kk) ?_
      refine lv_iload_n hx hb dX11_alike_25 rfl (lv_at hl 1 rfl) ?_
      refine lv_aload_n hx hb dX11_alike_26 rfl (lv_at hl 0 rfl) ?_
      refine ok.getR hO h_a (by decide) k13_1 (by decide) (fun _ _ he hv kk => th_get (ci := 11) (C := RX11) (T := TX11) (N := 66) hx hb hts inX11 hown hK hH he rfl 1 (by decide) fl1 hv dX11_alike_27 kk) ?_
      refine lv_iload_n hx hb dX11_alike_30 rfl (lv_at hl 2 rfl) ?_
      refine th_calli (va_runS (As := [.ref (ad E a 1), .int (I i), .ref (ad E a 1), .int (I j)]) (rest := []) ⟨hx, hb, hml, hown, hts⟩ (w_areLike 61 l G y b0 σ_s_1 E hO (ad E a 1) 240 f1 (hO.roww h_a k13_1 isA1 e_2 rfl) i (show rng i from ri) (by omega) (by omega) (ad E a 1) 240 f1 (hO.roww h_a k13_1 isA1 e_2 rfl) j (show rng j from rj) (by omega) (by omega) (by first | exact hw1 | exact (hw1).sub (by omega) (by omega)) (by omega) (by omega) (by omega) (by first | exact hw1 | exact (hw1).sub (by omega) (by omega)) (by omega) (by omega) (by omega) (by omega)) (va_cwS 4 hts gX11_alike_X11_areLike rfl rfl rfl (by decide +kernel) ⟨Nat.le_of_ble_eq_true rfl, Nat.le_of_ble_eq_true rfl⟩) (th_PS hK hH) rfl rfl hl.1 rfl (lv_room (Nat.le_of_ble_eq_true rfl)) dX11_alike_31 ⟨Nat.le_of_ble_eq_true rfl, Nat.le_of_ble_eq_true rfl⟩) hS (fun z_68 σ_s_67 H locs rz_68 hw_66 hH hS => ?_)
      obtain ⟨e9, bhw_66, hw_66⟩ := hw_66
      replace e9 := e9.symm
      subst e9
      refine lv_if_eq (tgt := 41) hx hb dX11_alike_34 (by decide) (fun c_69 => ?_) (fun c_69 => ?_)
      · replace c_69 := (I_eq (a := z_68) (b := 0) rz_68 (show rng 0 from ⟨by decide, by decide⟩)).mp c_69
        refine lv_iconst (v := I 0) hx hb dX11_alike_41 (by decide) ?_
        refine lv_goto (tgt := 50) hx hb dX11_alike_42 (by decide) ?_
        exact th_iret hx hb hr hlocks hH hS (z := 0) (show rng 0 from ⟨by decide, by decide⟩) ⟨hO, hF, hM, by rw [show aF σ_s_1 (ad E a 1) = f1 from e_2, show aF σ_s_1 (ad E a 37) = f37 from e_3, show aF σ_s_1 (ad E a 61) = f61 from e_4, show aF σ_s_1 (ad E a 62) = f62 from e_5, show aF σ_s_1 (ad E a 39) = f39 from e_6, show aF σ_s_1 (ad E a 40) = f40 from e_7, show aF σ_s_1 (ad E a 42) = f42 from e_8, show aF σ_s_1 (ad E a 43) = f43 from e_9, show aF σ_s_1 (ad E a 44) = f44 from e_10, show aF σ_s_1 (ad E a 45) = f45 from e_11, show aF σ_s_1 (ad E a 46) = f46 from e_12]; exact ⟨hj.n (by omega) (by omega) (by omega), by omega⟩⟩ dX11_alike_50
      · replace c_69 := mt (I_eq (a := z_68) (b := 0) rz_68 (show rng 0 from ⟨by decide, by decide⟩)).mpr c_69
        refine lv_iconst (v := I 1) hx hb dX11_alike_37 (by decide) ?_
        refine lv_goto (tgt := 50) hx hb dX11_alike_38 (by decide) ?_
        exact th_iret hx hb hr hlocks hH hS (z := 1) (show rng 1 from ⟨by decide, by decide⟩) ⟨hO, hF, hM, by rw [show aF σ_s_1 (ad E a 1) = f1 from e_2, show aF σ_s_1 (ad E a 37) = f37 from e_3, show aF σ_s_1 (ad E a 61) = f61 from e_4, show aF σ_s_1 (ad E a 62) = f62 from e_5, show aF σ_s_1 (ad E a 39) = f39 from e_6, show aF σ_s_1 (ad E a 40) = f40 from e_7, show aF σ_s_1 (ad E a 42) = f42 from e_8, show aF σ_s_1 (ad E a 43) = f43 from e_9, show aF σ_s_1 (ad E a 44) = f44 from e_10, show aF σ_s_1 (ad E a 45) = f45 from e_11, show aF σ_s_1 (ad E a 46) = f46 from e_12]; exact ⟨hj.n (by omega) (by omega) (by omega), by omega⟩⟩ dX11_alike_50

set_option maxHeartbeats 4000000 in
set_option maxRecDepth 100000 in
theorem j_answer (l : Launch) (G : va_G) (y : Nat → ClassId) (b0 : Nat) (σ : th_M) (E : th_E) (hO : ok y E σ) (a : Nat) (h_a : kd E a = 13) (slot : Int) (rslot : rng slot) (j : Int) (rj : rng j) (f1 : Nat → Int32) (ef1 : aF σ (ad E a 1) = f1) (f37 : Nat → Int32) (ef37 : aF σ (ad E a 37) = f37) (f61 : Nat → Int32) (ef61 : aF σ (ad E a 61) = f61) (f62 : Nat → Int32) (ef62 : aF σ (ad E a 62) = f62) (f39 : Nat → Int32) (ef39 : aF σ (ad E a 39) = f39) (f40 : Nat → Int32) (ef40 : aF σ (ad E a 40) = f40) (f42 : Nat → Int32) (ef42 : aF σ (ad E a 42) = f42) (f43 : Nat → Int32) (ef43 : aF σ (ad E a 43) = f43) (f44 : Nat → Int32) (ef44 : aF σ (ad E a 44) = f44) (f45 : Nat → Int32) (ef45 : aF σ (ad E a 45) = f45) (f46 : Nat → Int32) (ef46 : aF σ (ad E a 46) = f46) (f8 : Nat → Int32) (ef8 : aF σ (ad E a 8) = f8) (hy0 : jw f1 f37 f61 f62 f39 f40 f42 f43 f44 f45 f46 (gI σ a 36) (gI σ a 58) (gI σ a 59)) : Met l yX11_answer wsX11_answer ({ frames := 51, cells := 0, slots := 0, locals := 1713 }) (th_P G y b0 σ [.ref a, .int (I slot), .int (I j)]) (th_Qi G b0 (fun r σ1 => ok y E σ1 ∧ fr [13] E σ σ1 ∧ fm [0, 9, 10, 11, 13, 14, 15, 16, 17, 18, 19, 20, 23, 24, 25, 26, 27, 28, 29, 30] E σ σ1 a ∧ (jw (aF σ1 (ad E a 1)) (aF σ1 (ad E a 37)) (aF σ1 (ad E a 61)) (aF σ1 (ad E a 62)) (aF σ1 (ad E a 39)) (aF σ1 (ad E a 40)) (aF σ1 (ad E a 42)) (aF σ1 (ad E a 43)) (aF σ1 (ad E a 44)) (aF σ1 (ad E a 45)) (aF σ1 (ad E a 46)) (gI σ1 a 36) (gI σ1 a 58) (gI σ1 a 59) ∧ gI σ1 a 12 = gI σ a 12))) 0 0 (th_A b0) := by
  refine Met.ofW (cc := cX11_answer) (maxL := 5) (ret := (some .int)) (by decide) rfl ?_
  intro p e s m args below meth c s₁ B hml hv
  obtain ⟨rfl, hH, hK⟩ := hv
  have hx := B.exec
  have hb := B.bytes
  have hr := B.returns
  have hts := atoms_spec (ws := wsX11_answer) B.pre
  have hown : s.vm.findClass RX11 = some m.cls := findClass_of_methodNamed B.named
  have hlocks := B.notSynchronized
  have h00 : b0 ≤ s.heap.size := hH.1
  have hS : va_S (th_A b0) s.heap s.heap [] := va_S.rf
  have hF : fr [13] E σ σ := fr.rf
  have hM : fm [0, 9, 10, 11, 13, 14, 15, 16, 17, 18, 19, 20, 23, 24, 25, 26, 27, 28, 29, 30] E σ σ a := fm.rf
  have hj := hy0
  have hw1 := hj.1.1.1
  have hm1 := hj.1.2.1
  have hm2 := hj.1.2.2.1
  have hm3 := hj.2.2.2.2.1
  have hm4 := hj.2.2.2.2.2.1
  have inX11 : ∀ w ∈ wsX110, w ∈ wsX11_answer := by decide +kernel
  have fl0 := hts (.fieldLink RX11 111 "NestQueryModel" "code" "I") (by decide +kernel)
  have fl1 := hts (.fieldLink RX11 35 "NestQueryModel" "set" "[Z") (by decide +kernel)
  have hl := lv_entry ([.ref a, .int (I slot), .int (I j)]) (n := 5) (Nat.le_of_ble_eq_true rfl)
  rw [lg_entry_eq]
  generalize (lg_sl ([.ref a, .int (I slot), .int (I j)]) ++ List.replicate (5 - (lg_sl ([.ref a, .int (I slot), .int (I j)])).length) Slot.unset).toArray = ls at hl ⊢
  have hl : lv_has ls 5 [(0, .ref a), (1, .int (I slot)), (2, .int (I j))] := hl
  obtain ⟨a360, ea360, ra360, la360, ua360⟩ := hO.gi h_a (by decide) k13_36
  obtain ⟨a580, ea580, ra580, la580, ua580⟩ := hO.gi h_a (by decide) k13_58
  obtain ⟨a590, ea590, ra590, la590, ua590⟩ := hO.gi h_a (by decide) k13_59
  obtain ⟨a120, ea120, ra120, la120, ua120⟩ := hO.gi h_a (by decide) k13_12
  refine lv_aload_n hx hb dX11_answer_0 rfl (lv_at hl 0 rfl) ?_
  refine lv_iconst (v := I 0) hx hb dX11_answer_1 (by decide) ?_
  refine ok.putJ hO h_a k13_0 (show rng 0 from ⟨by decide, by decide⟩) (by omega) (by omega) (fun _ he hl9 kk => th_put (ci := 11) (v := .int (I 0)) (ty := .int) (C := RX11) (T := TX11) (N := 66) hx hb hts inX11 tyX11 tyX11_ok nmX11 hown hK hH hS h00 he rfl 0 (by decide) fl0 rfl (by decide +kernel) rfl rfl hl9 dX11_answer_2 kk) (fun σ_s_1 H locs hO hF9 hM9 hg9 ha9 hH hS => ?_)
  replace hM := hM.tu hM9 (by decide)
  replace hF := hF.tu hF9 (by decide)
  have e_2 : aF σ_s_1 (ad E a 1) = f1 := (hM9.a (by decide) (by decide)).trans ef1
  have e_3 : aF σ_s_1 (ad E a 37) = f37 := (hM9.a (by decide) (by decide)).trans ef37
  have e_4 : aF σ_s_1 (ad E a 61) = f61 := (hM9.a (by decide) (by decide)).trans ef61
  have e_5 : aF σ_s_1 (ad E a 62) = f62 := (hM9.a (by decide) (by decide)).trans ef62
  have e_6 : aF σ_s_1 (ad E a 39) = f39 := (hM9.a (by decide) (by decide)).trans ef39
  have e_7 : aF σ_s_1 (ad E a 40) = f40 := (hM9.a (by decide) (by decide)).trans ef40
  have e_8 : aF σ_s_1 (ad E a 42) = f42 := (hM9.a (by decide) (by decide)).trans ef42
  have e_9 : aF σ_s_1 (ad E a 43) = f43 := (hM9.a (by decide) (by decide)).trans ef43
  have e_10 : aF σ_s_1 (ad E a 44) = f44 := (hM9.a (by decide) (by decide)).trans ef44
  have e_11 : aF σ_s_1 (ad E a 45) = f45 := (hM9.a (by decide) (by decide)).trans ef45
  have e_12 : aF σ_s_1 (ad E a 46) = f46 := (hM9.a (by decide) (by decide)).trans ef46
  have e_13 : aF σ_s_1 (ad E a 8) = f8 := (hM9.a (by decide) (by decide)).trans ef8
  have e_14 : gI σ_s_1 a 36 = a360 := (hM9.i (by decide)).trans ea360
  have e_15 : gI σ_s_1 a 58 = a580 := (hM9.i (by decide)).trans ea580
  have e_16 : gI σ_s_1 a 59 = a590 := (hM9.i (by decide)).trans ea590
  have e_17 : gI σ_s_1 a 12 = a120 := (hM9.i (by decide)).trans ea120
  have e_18 := hg9
  refine lv_aload_n hx hb dX11_answer_5 rfl (lv_at hl 0 rfl) ?_
  refine lv_iload_n hx hb dX11_answer_6 rfl (lv_at hl 1 rfl) ?_
  obtain ⟨_, hc_19⟩ := hO.cell h_a (by decide) (ci := 11) rfl
  refine th_calli (va_runV (As := [.int (I slot)]) (rest := []) ⟨hx, hb, hml, hown, hts⟩ (m_isPath l G y b0 σ_s_1 E hO a h_a slot (show rng slot from rslot) f8 e_13) (cwV 1 hts gX11_answer_X11_isPath rfl rfl rfl (by decide +kernel) ⟨Nat.le_of_ble_eq_true rfl, Nat.le_of_ble_eq_true rfl⟩) (th_PV hK hH rfl hc_19) rfl rfl hl.1 rfl (lv_room (Nat.le_of_ble_eq_true rfl)) dX11_answer_7 ⟨Nat.le_of_ble_eq_true rfl, Nat.le_of_ble_eq_true rfl⟩) hS (fun z_22 σ_s_21 H locs rz_22 hw_20 hH hS => ?_)
  obtain ⟨e9, bhw_20, hw_20⟩ := hw_20
  replace e9 := e9.symm
  subst e9
  have hw_20 : (z_22 = 1 ∧ 0 ≤ slot ∧ slot ≤ 3 ∧ 1 ≤ (f8 slot.toNat).toInt) ∨ z_22 = 0 := hw_20
  refine lv_if_ne (tgt := 19) hx hb dX11_answer_10 (by decide) (fun c_23 => ?_) (fun c_23 => ?_)
  · replace c_23 := mt (I_eq (a := z_22) (b := 0) rz_22 (show rng 0 from ⟨by decide, by decide⟩)).mpr c_23
    refine lv_aload_n hx hb dX11_answer_19 rfl (lv_at hl 0 rfl) ?_
    refine lv_iload_n hx hb dX11_answer_20 rfl (lv_at hl 1 rfl) ?_
    refine lv_iconst (v := I (-1)) hx hb dX11_answer_21 (by decide) ?_
    obtain ⟨_, hc_24⟩ := hO.cell h_a (by decide) (ci := 11) rfl
    refine th_callv (va_runV (As := [.int (I slot), .int (I (-1))]) (rest := []) ⟨hx, hb, hml, hown, hts⟩ (m_goes l G y b0 σ_s_1 E hO a h_a slot (show rng slot from rslot) (by omega) (by omega) (-1) (show rng (-1) from (show rng (-1) from ⟨by decide, by decide⟩)) f1 e_2 f8 e_13 (hw1) (by omega) (by omega)) (cwV 2 hts gX11_answer_X11_goes rfl rfl rfl (by decide +kernel) ⟨Nat.le_of_ble_eq_true rfl, Nat.le_of_ble_eq_true rfl⟩) (th_PV hK hH rfl hc_24) rfl rfl hl.1 rfl (lv_room (Nat.le_of_ble_eq_true rfl)) dX11_answer_22 ⟨Nat.le_of_ble_eq_true rfl, Nat.le_of_ble_eq_true rfl⟩) hS (fun σ_s_26 H locs hw_25 hH hS => ?_)
    obtain ⟨hO9, hF9, hM9, hw_25⟩ := hw_25
    replace hM := hM.tu hM9 (by decide)
    replace hF := hF.tu hF9 (by decide)
    have e_27 : aF σ_s_26 (ad E a 1) = f1 := (hM9.a (by decide) (by decide)).trans e_2
    have e_28 : aF σ_s_26 (ad E a 37) = f37 := (hM9.a (by decide) (by decide)).trans e_3
    have e_29 : aF σ_s_26 (ad E a 61) = f61 := (hM9.a (by decide) (by decide)).trans e_4
    have e_30 : aF σ_s_26 (ad E a 62) = f62 := (hM9.a (by decide) (by decide)).trans e_5
    have e_31 : aF σ_s_26 (ad E a 39) = f39 := (hM9.a (by decide) (by decide)).trans e_6
    have e_32 : aF σ_s_26 (ad E a 40) = f40 := (hM9.a (by decide) (by decide)).trans e_7
    have e_33 : aF σ_s_26 (ad E a 42) = f42 := (hM9.a (by decide) (by decide)).trans e_8
    have e_34 : aF σ_s_26 (ad E a 43) = f43 := (hM9.a (by decide) (by decide)).trans e_9
    have e_35 : aF σ_s_26 (ad E a 44) = f44 := (hM9.a (by decide) (by decide)).trans e_10
    have e_36 : aF σ_s_26 (ad E a 45) = f45 := (hM9.a (by decide) (by decide)).trans e_11
    have e_37 : aF σ_s_26 (ad E a 46) = f46 := (hM9.a (by decide) (by decide)).trans e_12
    have e_38 : aF σ_s_26 (ad E a 8) = f8 := (hM9.a (by decide) (by decide)).trans e_13
    have e_39 : gI σ_s_26 a 36 = a360 := (hM9.i (by decide)).trans e_14
    have e_40 : gI σ_s_26 a 58 = a580 := (hM9.i (by decide)).trans e_15
    have e_41 : gI σ_s_26 a 59 = a590 := (hM9.i (by decide)).trans e_16
    have e_42 : gI σ_s_26 a 12 = a120 := (hM9.i (by decide)).trans e_17
    have e_43 : gI σ_s_26 a 0 = 0 := (hM9.i (by decide)).trans e_18
    replace hO := hO9
    refine lv_iload_n hx hb dX11_answer_25 rfl (lv_at hl 2 rfl) ?_
    refine lv_iconst (v := I (-1)) hx hb dX11_answer_26 (by decide) ?_
    refine lv_icmp_ne (tgt := 35) hx hb dX11_answer_27 (by decide) (fun c_44 => ?_) (fun c_44 => ?_)
    · replace c_44 := mt (I_eq (a := j) (b := (-1)) rj (show rng (-1) from ⟨by decide, by decide⟩)).mpr c_44
      refine lv_iload_n hx hb dX11_answer_35 rfl (lv_at hl 2 rfl) ?_
      refine lv_istore_n (lv' := [(3, .int (I j)), (0, .ref a), (1, .int (I slot)), (2, .int (I j))]) hx hb dX11_answer_36 rfl hl (by decide) rfl (fun ls hl => ?_)
      refine lv_iconst (v := I 0) hx hb dX11_answer_37 (by decide) ?_
      refine lv_istore (lv' := [(4, .int (I 0)), (3, .int (I j)), (0, .ref a), (1, .int (I slot)), (2, .int (I j))]) hx hb dX11_answer_38 hl (by decide) rfl (fun ls hl => ?_)
      replace hl : lv_has ls 5 [(4, .int (I 0)), (3, .int (I j)), (0, .ref a)] := lv_sub hl [0, 1, 2] rfl
      refine th_loop (α := Int × Int) (pc := 40) (fun x9 => (mS f1 0 - x9.2).toNat) (fun x9 σ9 H9 l9 ls9 => σ9 = σ_s_26 ∧ th_H G b0 σ9 H9 ∧ va_S (th_A b0) s.heap H9 l9 ∧ lv_has ls9 5 [(0, .ref a), (3, .int (I x9.1)), (4, .int (I x9.2))] ∧ rng x9.1 ∧ rng x9.2 ∧ (0 ≤ x9.2) ∧ (x9.2 ≤ 60)) ?_ (j, 0) σ_s_26 _ _ _ ⟨rfl, hH, hS, lv_sub hl [2, 1, 0] rfl, rj, (show rng 0 from ⟨by decide, by decide⟩), by first | (dsimp only; omega) | omega, by first | (dsimp only; omega) | omega⟩
      intro x9 σ_J_56 H locs ls hI9 ihJ_56
      obtain ⟨v3q55, v4q55⟩ := x9
      obtain ⟨eJ_56, hH, hS, hl, rv3q55, rv4q55, J_56_0, J_56_1⟩ := hI9
      replace eJ_56 := eJ_56.symm
      subst eJ_56
      have hl : lv_has ls 5 [(0, .ref a), (3, .int (I v3q55)), (4, .int (I v4q55))] := hl
      have rv3q55 : rng v3q55 := rv3q55
      have rv4q55 : rng v4q55 := rv4q55
      have J_56_0 : 0 ≤ v4q55 := J_56_0
      have J_56_1 : v4q55 ≤ 60 := J_56_1
      refine lv_iload hx hb dX11_answer_40 (lv_at hl 2 rfl) ?_
      refine lv_aload_n hx hb dX11_answer_42 rfl (lv_at hl 0 rfl) ?_
      obtain ⟨_, hc_57⟩ := hO.cell h_a (by decide) (ci := 11) rfl
      refine th_calli (va_runV (As := []) (rest := [.int (I v4q55)]) ⟨hx, hb, hml, hown, hts⟩ (m_things l G y b0 σ_s_26 E hO a h_a f1 e_27) (cwV 0 hts gX11_answer_X11_things rfl rfl rfl (by decide +kernel) ⟨Nat.le_of_ble_eq_true rfl, Nat.le_of_ble_eq_true rfl⟩) (th_PV hK hH rfl hc_57) rfl rfl hl.1 rfl (lv_room (Nat.le_of_ble_eq_true rfl)) dX11_answer_43 ⟨Nat.le_of_ble_eq_true rfl, Nat.le_of_ble_eq_true rfl⟩) hS (fun z_60 σ_s_59 H locs rz_60 hw_58 hH hS => ?_)
      obtain ⟨e9, hw_58⟩ := hw_58
      replace e9 := e9.symm
      subst e9
      have hw_58 : z_60 = mS f1 0 := hw_58
      refine lv_icmp_ge (tgt := 82) hx hb dX11_answer_46 (by decide) (fun c_61 => ?_) (fun c_61 => ?_)
      · replace c_61 := (I_le (a := z_60) (b := v4q55) rz_60 rv4q55).mp c_61
        refine lv_aload_n hx hb dX11_answer_82 rfl (lv_at hl 0 rfl) ?_
        refine lv_iconst (v := I 1) hx hb dX11_answer_83 (by decide) ?_
        obtain ⟨_, hc_62⟩ := hO.cell h_a (by decide) (ci := 11) rfl
        refine th_calli (va_runV (As := [.int (I 1)]) (rest := []) ⟨hx, hb, hml, hown, hts⟩ (m_fail l G y b0 σ_s_26 E hO a h_a 1 (show rng 1 from (show rng 1 from ⟨by decide, by decide⟩))) (cwV 1 hts gX11_answer_X11_fail rfl rfl rfl (by decide +kernel) ⟨Nat.le_of_ble_eq_true rfl, Nat.le_of_ble_eq_true rfl⟩) (th_PV hK hH rfl hc_62) rfl rfl hl.1 rfl (lv_room (Nat.le_of_ble_eq_true rfl)) dX11_answer_84 ⟨Nat.le_of_ble_eq_true rfl, Nat.le_of_ble_eq_true rfl⟩) hS (fun z_65 σ_s_64 H locs rz_65 hw_63 hH hS => ?_)
        obtain ⟨hO9, hF9, hM9, hw_63⟩ := hw_63
        replace hM := hM.tu hM9 (by decide)
        replace hF := hF.tu hF9 (by decide)
        have e_66 : aF σ_s_64 (ad E a 1) = f1 := (hM9.a (by decide) (by decide)).trans e_27
        have e_67 : aF σ_s_64 (ad E a 37) = f37 := (hM9.a (by decide) (by decide)).trans e_28
        have e_68 : aF σ_s_64 (ad E a 61) = f61 := (hM9.a (by decide) (by decide)).trans e_29
        have e_69 : aF σ_s_64 (ad E a 62) = f62 := (hM9.a (by decide) (by decide)).trans e_30
        have e_70 : aF σ_s_64 (ad E a 39) = f39 := (hM9.a (by decide) (by decide)).trans e_31
        have e_71 : aF σ_s_64 (ad E a 40) = f40 := (hM9.a (by decide) (by decide)).trans e_32
        have e_72 : aF σ_s_64 (ad E a 42) = f42 := (hM9.a (by decide) (by decide)).trans e_33
        have e_73 : aF σ_s_64 (ad E a 43) = f43 := (hM9.a (by decide) (by decide)).trans e_34
        have e_74 : aF σ_s_64 (ad E a 44) = f44 := (hM9.a (by decide) (by decide)).trans e_35
        have e_75 : aF σ_s_64 (ad E a 45) = f45 := (hM9.a (by decide) (by decide)).trans e_36
        have e_76 : aF σ_s_64 (ad E a 46) = f46 := (hM9.a (by decide) (by decide)).trans e_37
        have e_77 : aF σ_s_64 (ad E a 8) = f8 := (hM9.a (by decide) (by decide)).trans e_38
        have e_78 : gI σ_s_64 a 36 = a360 := (hM9.i (by decide)).trans e_39
        have e_79 : gI σ_s_64 a 58 = a580 := (hM9.i (by decide)).trans e_40
        have e_80 : gI σ_s_64 a 59 = a590 := (hM9.i (by decide)).trans e_41
        have e_81 : gI σ_s_64 a 12 = a120 := (hM9.i (by decide)).trans e_42
        replace hO := hO9
        exact th_iret hx hb hr hlocks hH hS (z := z_65) rz_65 ⟨hO, hF, hM, by rw [show aF σ_s_64 (ad E a 1) = f1 from e_66, show aF σ_s_64 (ad E a 37) = f37 from e_67, show aF σ_s_64 (ad E a 61) = f61 from e_68, show aF σ_s_64 (ad E a 62) = f62 from e_69, show aF σ_s_64 (ad E a 39) = f39 from e_70, show aF σ_s_64 (ad E a 40) = f40 from e_71, show aF σ_s_64 (ad E a 42) = f42 from e_72, show aF σ_s_64 (ad E a 43) = f43 from e_73, show aF σ_s_64 (ad E a 44) = f44 from e_74, show aF σ_s_64 (ad E a 45) = f45 from e_75, show aF σ_s_64 (ad E a 46) = f46 from e_76]; exact ⟨hj.n (by omega) (by omega) (by omega), by omega⟩⟩ dX11_answer_87
      · replace c_61 := mt (I_le (a := z_60) (b := v4q55) rz_60 rv4q55).mpr c_61
        refine lv_iload_n hx hb dX11_answer_49 rfl (lv_at hl 1 rfl) ?_
        refine lv_if_lt (tgt := 82) hx hb dX11_answer_50 (by decide) (fun c_82 => ?_) (fun c_82 => ?_)
        · replace c_82 := (I_lt (a := v3q55) (b := 0) rv3q55 (show rng 0 from ⟨by decide, by decide⟩)).mp c_82
          refine lv_aload_n hx hb dX11_answer_82 rfl (lv_at hl 0 rfl) ?_
          refine lv_iconst (v := I 1) hx hb dX11_answer_83 (by decide) ?_
          obtain ⟨_, hc_83⟩ := hO.cell h_a (by decide) (ci := 11) rfl
          refine th_calli (va_runV (As := [.int (I 1)]) (rest := []) ⟨hx, hb, hml, hown, hts⟩ (m_fail l G y b0 σ_s_26 E hO a h_a 1 (show rng 1 from (show rng 1 from ⟨by decide, by decide⟩))) (cwV 1 hts gX11_answer_X11_fail rfl rfl rfl (by decide +kernel) ⟨Nat.le_of_ble_eq_true rfl, Nat.le_of_ble_eq_true rfl⟩) (th_PV hK hH rfl hc_83) rfl rfl hl.1 rfl (lv_room (Nat.le_of_ble_eq_true rfl)) dX11_answer_84 ⟨Nat.le_of_ble_eq_true rfl, Nat.le_of_ble_eq_true rfl⟩) hS (fun z_86 σ_s_85 H locs rz_86 hw_84 hH hS => ?_)
          obtain ⟨hO9, hF9, hM9, hw_84⟩ := hw_84
          replace hM := hM.tu hM9 (by decide)
          replace hF := hF.tu hF9 (by decide)
          have e_87 : aF σ_s_85 (ad E a 1) = f1 := (hM9.a (by decide) (by decide)).trans e_27
          have e_88 : aF σ_s_85 (ad E a 37) = f37 := (hM9.a (by decide) (by decide)).trans e_28
          have e_89 : aF σ_s_85 (ad E a 61) = f61 := (hM9.a (by decide) (by decide)).trans e_29
          have e_90 : aF σ_s_85 (ad E a 62) = f62 := (hM9.a (by decide) (by decide)).trans e_30
          have e_91 : aF σ_s_85 (ad E a 39) = f39 := (hM9.a (by decide) (by decide)).trans e_31
          have e_92 : aF σ_s_85 (ad E a 40) = f40 := (hM9.a (by decide) (by decide)).trans e_32
          have e_93 : aF σ_s_85 (ad E a 42) = f42 := (hM9.a (by decide) (by decide)).trans e_33
          have e_94 : aF σ_s_85 (ad E a 43) = f43 := (hM9.a (by decide) (by decide)).trans e_34
          have e_95 : aF σ_s_85 (ad E a 44) = f44 := (hM9.a (by decide) (by decide)).trans e_35
          have e_96 : aF σ_s_85 (ad E a 45) = f45 := (hM9.a (by decide) (by decide)).trans e_36
          have e_97 : aF σ_s_85 (ad E a 46) = f46 := (hM9.a (by decide) (by decide)).trans e_37
          have e_98 : aF σ_s_85 (ad E a 8) = f8 := (hM9.a (by decide) (by decide)).trans e_38
          have e_99 : gI σ_s_85 a 36 = a360 := (hM9.i (by decide)).trans e_39
          have e_100 : gI σ_s_85 a 58 = a580 := (hM9.i (by decide)).trans e_40
          have e_101 : gI σ_s_85 a 59 = a590 := (hM9.i (by decide)).trans e_41
          have e_102 : gI σ_s_85 a 12 = a120 := (hM9.i (by decide)).trans e_42
          replace hO := hO9
          exact th_iret hx hb hr hlocks hH hS (z := z_86) rz_86 ⟨hO, hF, hM, by rw [show aF σ_s_85 (ad E a 1) = f1 from e_87, show aF σ_s_85 (ad E a 37) = f37 from e_88, show aF σ_s_85 (ad E a 61) = f61 from e_89, show aF σ_s_85 (ad E a 62) = f62 from e_90, show aF σ_s_85 (ad E a 39) = f39 from e_91, show aF σ_s_85 (ad E a 40) = f40 from e_92, show aF σ_s_85 (ad E a 42) = f42 from e_93, show aF σ_s_85 (ad E a 43) = f43 from e_94, show aF σ_s_85 (ad E a 44) = f44 from e_95, show aF σ_s_85 (ad E a 45) = f45 from e_96, show aF σ_s_85 (ad E a 46) = f46 from e_97]; exact ⟨hj.n (by omega) (by omega) (by omega), by omega⟩⟩ dX11_answer_87
        · replace c_82 := mt (I_lt (a := v3q55) (b := 0) rv3q55 (show rng 0 from ⟨by decide, by decide⟩)).mpr c_82
          refine lv_aload_n hx hb dX11_answer_53 rfl (lv_at hl 0 rfl) ?_
          refine ok.getR hO h_a (by decide) k13_23 (by decide) (fun _ _ he hv kk => th_get (ci := 11) (C := RX11) (T := TX11) (N := 66) hx hb hts inX11 hown hK hH he rfl 23 (by decide) fl1 hv dX11_answer_54 kk) ?_
          refine lv_iload hx hb dX11_answer_57 (lv_at hl 2 rfl) ?_
          refine m_zald hx hb hK hH hO h_a k13_23 rv4q55 (by omega) (by omega) dX11_answer_59 (fun z_103 rz_103 uz_103 => ?_)
          refine lv_if_ne (tgt := 66) hx hb dX11_answer_60 (by decide) (fun c_104 => ?_) (fun c_104 => ?_)
          · replace c_104 := mt (I_eq (a := z_103) (b := 0) rz_103 (show rng 0 from ⟨by decide, by decide⟩)).mpr c_104
            refine lv_iload_n hx hb dX11_answer_66 rfl (lv_at hl 1 rfl) ?_
            refine lv_if_ne (tgt := 73) hx hb dX11_answer_67 (by decide) (fun c_105 => ?_) (fun c_105 => ?_)
            · replace c_105 := mt (I_eq (a := v3q55) (b := 0) rv3q55 (show rng 0 from ⟨by decide, by decide⟩)).mpr c_105
              refine lv_iinc (v := I (v3q55 + (-1))) (lv' := [(3, .int (I (v3q55 + (-1)))), (0, .ref a), (4, .int (I v4q55))]) hx hb dX11_answer_73 hl (k := 1) rfl (I_add _ _) (by decide) rfl (fun ls hl => ?_)
              refine lv_iinc (v := I (v4q55 + 1)) (lv' := [(4, .int (I (v4q55 + 1))), (3, .int (I (v3q55 + (-1)))), (0, .ref a)]) hx hb dX11_answer_76 hl (k := 2) rfl (I_add _ _) (by decide) rfl (fun ls hl => ?_)
              refine lv_goto (tgt := 40) hx hb dX11_answer_79 (by decide) ?_
              exact ihJ_56 (v3q55 + (-1), v4q55 + 1) σ_s_26 _ _ _ (by first | (dsimp only; omega) | omega) ⟨rfl, hH, hS, lv_sub hl [2, 1, 0] rfl, ⟨by first | (dsimp only; omega) | omega, by first | (dsimp only; omega) | omega⟩, ⟨by first | (dsimp only; omega) | omega, by first | (dsimp only; omega) | omega⟩, by first | (dsimp only; omega) | omega, by first | (dsimp only; omega) | omega⟩
            · replace c_105 := (I_eq (a := v3q55) (b := 0) rv3q55 (show rng 0 from ⟨by decide, by decide⟩)).mp c_105
              refine lv_iload hx hb dX11_answer_70 (lv_at hl 2 rfl) ?_
              exact th_iret hx hb hr hlocks hH hS (z := v4q55) rv4q55 ⟨hO, hF, hM, by rw [show aF σ_s_26 (ad E a 1) = f1 from e_27, show aF σ_s_26 (ad E a 37) = f37 from e_28, show aF σ_s_26 (ad E a 61) = f61 from e_29, show aF σ_s_26 (ad E a 62) = f62 from e_30, show aF σ_s_26 (ad E a 39) = f39 from e_31, show aF σ_s_26 (ad E a 40) = f40 from e_32, show aF σ_s_26 (ad E a 42) = f42 from e_33, show aF σ_s_26 (ad E a 43) = f43 from e_34, show aF σ_s_26 (ad E a 44) = f44 from e_35, show aF σ_s_26 (ad E a 45) = f45 from e_36, show aF σ_s_26 (ad E a 46) = f46 from e_37]; exact ⟨hj.n (by omega) (by omega) (by omega), by omega⟩⟩ dX11_answer_72
          · replace c_104 := (I_eq (a := z_103) (b := 0) rz_103 (show rng 0 from ⟨by decide, by decide⟩)).mp c_104
            refine lv_goto (tgt := 76) hx hb dX11_answer_63 (by decide) ?_
            refine lv_iinc (v := I (v4q55 + 1)) (lv' := [(4, .int (I (v4q55 + 1))), (0, .ref a), (3, .int (I v3q55))]) hx hb dX11_answer_76 hl (k := 2) rfl (I_add _ _) (by decide) rfl (fun ls hl => ?_)
            refine lv_goto (tgt := 40) hx hb dX11_answer_79 (by decide) ?_
            exact ihJ_56 (v3q55, v4q55 + 1) σ_s_26 _ _ _ (by first | (dsimp only; omega) | omega) ⟨rfl, hH, hS, lv_sub hl [1, 2, 0] rfl, rv3q55, ⟨by first | (dsimp only; omega) | omega, by first | (dsimp only; omega) | omega⟩, by first | (dsimp only; omega) | omega, by first | (dsimp only; omega) | omega⟩
    · replace c_44 := (I_eq (a := j) (b := (-1)) rj (show rng (-1) from ⟨by decide, by decide⟩)).mp c_44
      refine lv_aload_n hx hb dX11_answer_30 rfl (lv_at hl 0 rfl) ?_
      obtain ⟨_, hc_106⟩ := hO.cell h_a (by decide) (ci := 11) rfl
      refine th_calli (va_runV (As := []) (rest := []) ⟨hx, hb, hml, hown, hts⟩ (m_inSet l G y b0 σ_s_26 E hO a h_a f1 e_27 (hw1) (by omega)) (cwV 0 hts gX11_answer_X11_inSet rfl rfl rfl (by decide +kernel) ⟨Nat.le_of_ble_eq_true rfl, Nat.le_of_ble_eq_true rfl⟩) (th_PV hK hH rfl hc_106) rfl rfl hl.1 rfl (lv_room (Nat.le_of_ble_eq_true rfl)) dX11_answer_31 ⟨Nat.le_of_ble_eq_true rfl, Nat.le_of_ble_eq_true rfl⟩) hS (fun z_109 σ_s_108 H locs rz_109 hw_107 hH hS => ?_)
      obtain ⟨e9, hw_107⟩ := hw_107
      replace e9 := e9.symm
      subst e9
      have hw_107 : 0 ≤ z_109 ∧ z_109 ≤ 60 := hw_107
      exact th_iret hx hb hr hlocks hH hS (z := z_109) rz_109 ⟨hO, hF, hM, by rw [show aF σ_s_26 (ad E a 1) = f1 from e_27, show aF σ_s_26 (ad E a 37) = f37 from e_28, show aF σ_s_26 (ad E a 61) = f61 from e_29, show aF σ_s_26 (ad E a 62) = f62 from e_30, show aF σ_s_26 (ad E a 39) = f39 from e_31, show aF σ_s_26 (ad E a 40) = f40 from e_32, show aF σ_s_26 (ad E a 42) = f42 from e_33, show aF σ_s_26 (ad E a 43) = f43 from e_34, show aF σ_s_26 (ad E a 44) = f44 from e_35, show aF σ_s_26 (ad E a 45) = f45 from e_36, show aF σ_s_26 (ad E a 46) = f46 from e_37]; exact ⟨hj.n (by omega) (by omega) (by omega), by omega⟩⟩ dX11_answer_34
  · replace c_23 := (I_eq (a := z_22) (b := 0) rz_22 (show rng 0 from ⟨by decide, by decide⟩)).mp c_23
    refine lv_aload_n hx hb dX11_answer_13 rfl (lv_at hl 0 rfl) ?_
    refine lv_iconst (v := I 1) hx hb dX11_answer_14 (by decide) ?_
    obtain ⟨_, hc_110⟩ := hO.cell h_a (by decide) (ci := 11) rfl
    refine th_calli (va_runV (As := [.int (I 1)]) (rest := []) ⟨hx, hb, hml, hown, hts⟩ (m_fail l G y b0 σ_s_1 E hO a h_a 1 (show rng 1 from (show rng 1 from ⟨by decide, by decide⟩))) (cwV 1 hts gX11_answer_X11_fail rfl rfl rfl (by decide +kernel) ⟨Nat.le_of_ble_eq_true rfl, Nat.le_of_ble_eq_true rfl⟩) (th_PV hK hH rfl hc_110) rfl rfl hl.1 rfl (lv_room (Nat.le_of_ble_eq_true rfl)) dX11_answer_15 ⟨Nat.le_of_ble_eq_true rfl, Nat.le_of_ble_eq_true rfl⟩) hS (fun z_113 σ_s_112 H locs rz_113 hw_111 hH hS => ?_)
    obtain ⟨hO9, hF9, hM9, hw_111⟩ := hw_111
    replace hM := hM.tu hM9 (by decide)
    replace hF := hF.tu hF9 (by decide)
    have e_114 : aF σ_s_112 (ad E a 1) = f1 := (hM9.a (by decide) (by decide)).trans e_2
    have e_115 : aF σ_s_112 (ad E a 37) = f37 := (hM9.a (by decide) (by decide)).trans e_3
    have e_116 : aF σ_s_112 (ad E a 61) = f61 := (hM9.a (by decide) (by decide)).trans e_4
    have e_117 : aF σ_s_112 (ad E a 62) = f62 := (hM9.a (by decide) (by decide)).trans e_5
    have e_118 : aF σ_s_112 (ad E a 39) = f39 := (hM9.a (by decide) (by decide)).trans e_6
    have e_119 : aF σ_s_112 (ad E a 40) = f40 := (hM9.a (by decide) (by decide)).trans e_7
    have e_120 : aF σ_s_112 (ad E a 42) = f42 := (hM9.a (by decide) (by decide)).trans e_8
    have e_121 : aF σ_s_112 (ad E a 43) = f43 := (hM9.a (by decide) (by decide)).trans e_9
    have e_122 : aF σ_s_112 (ad E a 44) = f44 := (hM9.a (by decide) (by decide)).trans e_10
    have e_123 : aF σ_s_112 (ad E a 45) = f45 := (hM9.a (by decide) (by decide)).trans e_11
    have e_124 : aF σ_s_112 (ad E a 46) = f46 := (hM9.a (by decide) (by decide)).trans e_12
    have e_125 : aF σ_s_112 (ad E a 8) = f8 := (hM9.a (by decide) (by decide)).trans e_13
    have e_126 : gI σ_s_112 a 36 = a360 := (hM9.i (by decide)).trans e_14
    have e_127 : gI σ_s_112 a 58 = a580 := (hM9.i (by decide)).trans e_15
    have e_128 : gI σ_s_112 a 59 = a590 := (hM9.i (by decide)).trans e_16
    have e_129 : gI σ_s_112 a 12 = a120 := (hM9.i (by decide)).trans e_17
    replace hO := hO9
    exact th_iret hx hb hr hlocks hH hS (z := z_113) rz_113 ⟨hO, hF, hM, by rw [show aF σ_s_112 (ad E a 1) = f1 from e_114, show aF σ_s_112 (ad E a 37) = f37 from e_115, show aF σ_s_112 (ad E a 61) = f61 from e_116, show aF σ_s_112 (ad E a 62) = f62 from e_117, show aF σ_s_112 (ad E a 39) = f39 from e_118, show aF σ_s_112 (ad E a 40) = f40 from e_119, show aF σ_s_112 (ad E a 42) = f42 from e_120, show aF σ_s_112 (ad E a 43) = f43 from e_121, show aF σ_s_112 (ad E a 44) = f44 from e_122, show aF σ_s_112 (ad E a 45) = f45 from e_123, show aF σ_s_112 (ad E a 46) = f46 from e_124]; exact ⟨hj.n (by omega) (by omega) (by omega), by omega⟩⟩ dX11_answer_18

set_option maxHeartbeats 4000000 in
set_option maxRecDepth 100000 in
theorem j_steps (l : Launch) (G : va_G) (y : Nat → ClassId) (b0 : Nat) (σ : th_M) (E : th_E) (hO : ok y E σ) (a : Nat) (h_a : kd E a = 13) (slot : Int) (rslot : rng slot) (j : Int) (rj : rng j) (f1 : Nat → Int32) (ef1 : aF σ (ad E a 1) = f1) (f37 : Nat → Int32) (ef37 : aF σ (ad E a 37) = f37) (f61 : Nat → Int32) (ef61 : aF σ (ad E a 61) = f61) (f62 : Nat → Int32) (ef62 : aF σ (ad E a 62) = f62) (f39 : Nat → Int32) (ef39 : aF σ (ad E a 39) = f39) (f40 : Nat → Int32) (ef40 : aF σ (ad E a 40) = f40) (f42 : Nat → Int32) (ef42 : aF σ (ad E a 42) = f42) (f43 : Nat → Int32) (ef43 : aF σ (ad E a 43) = f43) (f44 : Nat → Int32) (ef44 : aF σ (ad E a 44) = f44) (f45 : Nat → Int32) (ef45 : aF σ (ad E a 45) = f45) (f46 : Nat → Int32) (ef46 : aF σ (ad E a 46) = f46) (f8 : Nat → Int32) (ef8 : aF σ (ad E a 8) = f8) (hy0 : jw f1 f37 f61 f62 f39 f40 f42 f43 f44 f45 f46 (gI σ a 36) (gI σ a 58) (gI σ a 59)) : Met l yX11_steps wsX11_steps ({ frames := 51, cells := 0, slots := 0, locals := 1713 }) (th_P G y b0 σ [.ref a, .int (I slot), .int (I j)]) (th_Qi G b0 (fun r σ1 => ok y E σ1 ∧ fr [13] E σ σ1 ∧ fm [0, 9, 10, 11, 13, 14, 15, 16, 17, 18, 19, 20, 23, 24, 25, 26, 27, 28, 29, 30] E σ σ1 a ∧ (jw (aF σ1 (ad E a 1)) (aF σ1 (ad E a 37)) (aF σ1 (ad E a 61)) (aF σ1 (ad E a 62)) (aF σ1 (ad E a 39)) (aF σ1 (ad E a 40)) (aF σ1 (ad E a 42)) (aF σ1 (ad E a 43)) (aF σ1 (ad E a 44)) (aF σ1 (ad E a 45)) (aF σ1 (ad E a 46)) (gI σ1 a 36) (gI σ1 a 58) (gI σ1 a 59) ∧ gI σ1 a 12 = gI σ a 12))) 0 0 (th_A b0) := by
  refine Met.ofW (cc := cX11_steps) (maxL := 4) (ret := (some .int)) (by decide) rfl ?_
  intro p e s m args below meth c s₁ B hml hv
  obtain ⟨rfl, hH, hK⟩ := hv
  have hx := B.exec
  have hb := B.bytes
  have hr := B.returns
  have hts := atoms_spec (ws := wsX11_steps) B.pre
  have hown : s.vm.findClass RX11 = some m.cls := findClass_of_methodNamed B.named
  have hlocks := B.notSynchronized
  have h00 : b0 ≤ s.heap.size := hH.1
  have hS : va_S (th_A b0) s.heap s.heap [] := va_S.rf
  have hF : fr [13] E σ σ := fr.rf
  have hM : fm [0, 9, 10, 11, 13, 14, 15, 16, 17, 18, 19, 20, 23, 24, 25, 26, 27, 28, 29, 30] E σ σ a := fm.rf
  have hj := hy0
  have hw1 := hj.1.1.1
  have hm1 := hj.1.2.1
  have hm2 := hj.1.2.2.1
  have hm3 := hj.2.2.2.2.1
  have hm4 := hj.2.2.2.2.2.1
  have inX11 : ∀ w ∈ wsX110, w ∈ wsX11_steps := by decide +kernel
  have fl0 := hts (.fieldLink RX11 111 "NestQueryModel" "code" "I") (by decide +kernel)
  have fl1 := hts (.fieldLink RX11 273 "NestQueryModel" "stepsRead" "I") (by decide +kernel)
  have hl := lv_entry ([.ref a, .int (I slot), .int (I j)]) (n := 4) (Nat.le_of_ble_eq_true rfl)
  rw [lg_entry_eq]
  generalize (lg_sl ([.ref a, .int (I slot), .int (I j)]) ++ List.replicate (4 - (lg_sl ([.ref a, .int (I slot), .int (I j)])).length) Slot.unset).toArray = ls at hl ⊢
  have hl : lv_has ls 4 [(0, .ref a), (1, .int (I slot)), (2, .int (I j))] := hl
  obtain ⟨a360, ea360, ra360, la360, ua360⟩ := hO.gi h_a (by decide) k13_36
  obtain ⟨a580, ea580, ra580, la580, ua580⟩ := hO.gi h_a (by decide) k13_58
  obtain ⟨a590, ea590, ra590, la590, ua590⟩ := hO.gi h_a (by decide) k13_59
  obtain ⟨a120, ea120, ra120, la120, ua120⟩ := hO.gi h_a (by decide) k13_12
  refine lv_aload_n hx hb dX11_steps_0 rfl (lv_at hl 0 rfl) ?_
  refine lv_iconst (v := I 0) hx hb dX11_steps_1 (by decide) ?_
  refine ok.putJ hO h_a k13_0 (show rng 0 from ⟨by decide, by decide⟩) (by omega) (by omega) (fun _ he hl9 kk => th_put (ci := 11) (v := .int (I 0)) (ty := .int) (C := RX11) (T := TX11) (N := 66) hx hb hts inX11 tyX11 tyX11_ok nmX11 hown hK hH hS h00 he rfl 0 (by decide) fl0 rfl (by decide +kernel) rfl rfl hl9 dX11_steps_2 kk) (fun σ_s_1 H locs hO hF9 hM9 hg9 ha9 hH hS => ?_)
  replace hM := hM.tu hM9 (by decide)
  replace hF := hF.tu hF9 (by decide)
  have e_2 : aF σ_s_1 (ad E a 1) = f1 := (hM9.a (by decide) (by decide)).trans ef1
  have e_3 : aF σ_s_1 (ad E a 37) = f37 := (hM9.a (by decide) (by decide)).trans ef37
  have e_4 : aF σ_s_1 (ad E a 61) = f61 := (hM9.a (by decide) (by decide)).trans ef61
  have e_5 : aF σ_s_1 (ad E a 62) = f62 := (hM9.a (by decide) (by decide)).trans ef62
  have e_6 : aF σ_s_1 (ad E a 39) = f39 := (hM9.a (by decide) (by decide)).trans ef39
  have e_7 : aF σ_s_1 (ad E a 40) = f40 := (hM9.a (by decide) (by decide)).trans ef40
  have e_8 : aF σ_s_1 (ad E a 42) = f42 := (hM9.a (by decide) (by decide)).trans ef42
  have e_9 : aF σ_s_1 (ad E a 43) = f43 := (hM9.a (by decide) (by decide)).trans ef43
  have e_10 : aF σ_s_1 (ad E a 44) = f44 := (hM9.a (by decide) (by decide)).trans ef44
  have e_11 : aF σ_s_1 (ad E a 45) = f45 := (hM9.a (by decide) (by decide)).trans ef45
  have e_12 : aF σ_s_1 (ad E a 46) = f46 := (hM9.a (by decide) (by decide)).trans ef46
  have e_13 : aF σ_s_1 (ad E a 8) = f8 := (hM9.a (by decide) (by decide)).trans ef8
  have e_14 : gI σ_s_1 a 36 = a360 := (hM9.i (by decide)).trans ea360
  have e_15 : gI σ_s_1 a 58 = a580 := (hM9.i (by decide)).trans ea580
  have e_16 : gI σ_s_1 a 59 = a590 := (hM9.i (by decide)).trans ea590
  have e_17 : gI σ_s_1 a 12 = a120 := (hM9.i (by decide)).trans ea120
  have e_18 := hg9
  refine lv_aload_n hx hb dX11_steps_5 rfl (lv_at hl 0 rfl) ?_
  refine lv_iload_n hx hb dX11_steps_6 rfl (lv_at hl 1 rfl) ?_
  obtain ⟨_, hc_19⟩ := hO.cell h_a (by decide) (ci := 11) rfl
  refine th_calli (va_runV (As := [.int (I slot)]) (rest := []) ⟨hx, hb, hml, hown, hts⟩ (m_isPath l G y b0 σ_s_1 E hO a h_a slot (show rng slot from rslot) f8 e_13) (cwV 1 hts gX11_steps_X11_isPath rfl rfl rfl (by decide +kernel) ⟨Nat.le_of_ble_eq_true rfl, Nat.le_of_ble_eq_true rfl⟩) (th_PV hK hH rfl hc_19) rfl rfl hl.1 rfl (lv_room (Nat.le_of_ble_eq_true rfl)) dX11_steps_7 ⟨Nat.le_of_ble_eq_true rfl, Nat.le_of_ble_eq_true rfl⟩) hS (fun z_22 σ_s_21 H locs rz_22 hw_20 hH hS => ?_)
  obtain ⟨e9, bhw_20, hw_20⟩ := hw_20
  replace e9 := e9.symm
  subst e9
  have hw_20 : (z_22 = 1 ∧ 0 ≤ slot ∧ slot ≤ 3 ∧ 1 ≤ (f8 slot.toNat).toInt) ∨ z_22 = 0 := hw_20
  refine lv_if_ne (tgt := 19) hx hb dX11_steps_10 (by decide) (fun c_23 => ?_) (fun c_23 => ?_)
  · replace c_23 := mt (I_eq (a := z_22) (b := 0) rz_22 (show rng 0 from ⟨by decide, by decide⟩)).mpr c_23
    refine lv_aload_n hx hb dX11_steps_19 rfl (lv_at hl 0 rfl) ?_
    refine lv_iload_n hx hb dX11_steps_20 rfl (lv_at hl 1 rfl) ?_
    refine lv_iconst (v := I (-1)) hx hb dX11_steps_21 (by decide) ?_
    obtain ⟨_, hc_24⟩ := hO.cell h_a (by decide) (ci := 11) rfl
    refine th_callv (va_runV (As := [.int (I slot), .int (I (-1))]) (rest := []) ⟨hx, hb, hml, hown, hts⟩ (m_goes l G y b0 σ_s_1 E hO a h_a slot (show rng slot from rslot) (by omega) (by omega) (-1) (show rng (-1) from (show rng (-1) from ⟨by decide, by decide⟩)) f1 e_2 f8 e_13 (hw1) (by omega) (by omega)) (cwV 2 hts gX11_steps_X11_goes rfl rfl rfl (by decide +kernel) ⟨Nat.le_of_ble_eq_true rfl, Nat.le_of_ble_eq_true rfl⟩) (th_PV hK hH rfl hc_24) rfl rfl hl.1 rfl (lv_room (Nat.le_of_ble_eq_true rfl)) dX11_steps_22 ⟨Nat.le_of_ble_eq_true rfl, Nat.le_of_ble_eq_true rfl⟩) hS (fun σ_s_26 H locs hw_25 hH hS => ?_)
    obtain ⟨hO9, hF9, hM9, hw_25⟩ := hw_25
    replace hM := hM.tu hM9 (by decide)
    replace hF := hF.tu hF9 (by decide)
    have e_27 : aF σ_s_26 (ad E a 1) = f1 := (hM9.a (by decide) (by decide)).trans e_2
    have e_28 : aF σ_s_26 (ad E a 37) = f37 := (hM9.a (by decide) (by decide)).trans e_3
    have e_29 : aF σ_s_26 (ad E a 61) = f61 := (hM9.a (by decide) (by decide)).trans e_4
    have e_30 : aF σ_s_26 (ad E a 62) = f62 := (hM9.a (by decide) (by decide)).trans e_5
    have e_31 : aF σ_s_26 (ad E a 39) = f39 := (hM9.a (by decide) (by decide)).trans e_6
    have e_32 : aF σ_s_26 (ad E a 40) = f40 := (hM9.a (by decide) (by decide)).trans e_7
    have e_33 : aF σ_s_26 (ad E a 42) = f42 := (hM9.a (by decide) (by decide)).trans e_8
    have e_34 : aF σ_s_26 (ad E a 43) = f43 := (hM9.a (by decide) (by decide)).trans e_9
    have e_35 : aF σ_s_26 (ad E a 44) = f44 := (hM9.a (by decide) (by decide)).trans e_10
    have e_36 : aF σ_s_26 (ad E a 45) = f45 := (hM9.a (by decide) (by decide)).trans e_11
    have e_37 : aF σ_s_26 (ad E a 46) = f46 := (hM9.a (by decide) (by decide)).trans e_12
    have e_38 : aF σ_s_26 (ad E a 8) = f8 := (hM9.a (by decide) (by decide)).trans e_13
    have e_39 : gI σ_s_26 a 36 = a360 := (hM9.i (by decide)).trans e_14
    have e_40 : gI σ_s_26 a 58 = a580 := (hM9.i (by decide)).trans e_15
    have e_41 : gI σ_s_26 a 59 = a590 := (hM9.i (by decide)).trans e_16
    have e_42 : gI σ_s_26 a 12 = a120 := (hM9.i (by decide)).trans e_17
    have e_43 : gI σ_s_26 a 0 = 0 := (hM9.i (by decide)).trans e_18
    replace hO := hO9
    refine lv_aload_n hx hb dX11_steps_25 rfl (lv_at hl 0 rfl) ?_
    refine ok.getI hO h_a (by decide) k13_26 (fun _ _ he hv kk => th_get (ci := 11) (C := RX11) (T := TX11) (N := 66) hx hb hts inX11 hown hK hH he rfl 26 (by decide) fl1 hv dX11_steps_26 kk) (fun z_44 e_45 rz_44 lz_44 uz_44 => ?_)
    refine lv_istore_n (lv' := [(3, .int (I z_44)), (0, .ref a), (1, .int (I slot)), (2, .int (I j))]) hx hb dX11_steps_29 rfl hl (by decide) rfl (fun ls hl => ?_)
    refine lv_iload_n hx hb dX11_steps_30 rfl (lv_at hl 3 rfl) ?_
    refine lv_iconst (v := I (-1)) hx hb dX11_steps_31 (by decide) ?_
    refine lv_icmp_ne (tgt := 37) hx hb dX11_steps_32 (by decide) (fun c_46 => ?_) (fun c_46 => ?_)
    · replace c_46 := mt (I_eq (a := j) (b := (-1)) rj (show rng (-1) from ⟨by decide, by decide⟩)).mpr c_46
      refine lv_iload_n hx hb dX11_steps_37 rfl (lv_at hl 3 rfl) ?_
      refine lv_iconst (v := I 0) hx hb dX11_steps_38 (by decide) ?_
      refine lv_iload_n hx hb dX11_steps_39 rfl (lv_at hl 0 rfl) ?_
      refine lv_iconst (v := I 1) hx hb dX11_steps_40 (by decide) ?_
      refine lv_isub hx hb dX11_steps_41 ?_
      refine th_subo (fun z_47 rz_47 hz_47 => ?_)
      refine th_calli (va_runS (As := [.int (I j), .int (I 0), .int (I z_47)]) (rest := []) ⟨hx, hb, hml, hown, hts⟩ (w_isIn l G y b0 σ_s_26 E hO j (show rng j from rj) 0 (show rng 0 from (show rng 0 from ⟨by decide, by decide⟩)) z_47 (show rng z_47 from rz_47)) (va_cwS 3 hts gX11_steps_X11_isIn rfl rfl rfl (by decide +kernel) ⟨Nat.le_of_ble_eq_true rfl, Nat.le_of_ble_eq_true rfl⟩) (th_PS hK hH) rfl rfl hl.1 rfl (lv_room (Nat.le_of_ble_eq_true rfl)) dX11_steps_42 ⟨Nat.le_of_ble_eq_true rfl, Nat.le_of_ble_eq_true rfl⟩) hS (fun z_50 σ_s_49 H locs rz_50 hw_48 hH hS => ?_)
      obtain ⟨e9, bhw_48, hw_48⟩ := hw_48
      replace e9 := e9.symm
      subst e9
      have hw_48 : (z_50 = 1 ∧ 0 ≤ j ∧ j ≤ z_47) ∨ (z_50 = 0 ∧ ¬ (0 ≤ j ∧ j ≤ z_47)) := hw_48
      refine lv_if_ne (tgt := 54) hx hb dX11_steps_45 (by decide) (fun c_51 => ?_) (fun c_51 => ?_)
      · replace c_51 := mt (I_eq (a := z_50) (b := 0) rz_50 (show rng 0 from ⟨by decide, by decide⟩)).mpr c_51
        refine lv_aload_n hx hb dX11_steps_54 rfl (lv_at hl 1 rfl) ?_
        refine lv_iload_n hx hb dX11_steps_55 rfl (lv_at hl 2 rfl) ?_
        refine lv_iload_n hx hb dX11_steps_56 rfl (lv_at hl 3 rfl) ?_
        refine lv_iconst (v := I 1) hx hb dX11_steps_57 (by decide) ?_
        refine lv_iadd hx hb dX11_steps_58 ?_
        refine th_addo (fun z_52 rz_52 hz_52 => ?_)
        obtain ⟨_, hc_53⟩ := hO.cell h_a (by decide) (ci := 11) rfl
        refine th_callv (va_runV (As := [.int (I slot), .int (I z_52)]) (rest := []) ⟨hx, hb, hml, hown, hts⟩ (m_goes l G y b0 σ_s_26 E hO a h_a slot (show rng slot from rslot) (by omega) (by omega) z_52 (show rng z_52 from rz_52) f1 e_27 f8 e_38 (hw1) (by omega) (by omega)) (cwV 2 hts gX11_steps_X11_goes rfl rfl rfl (by decide +kernel) ⟨Nat.le_of_ble_eq_true rfl, Nat.le_of_ble_eq_true rfl⟩) (th_PV hK hH rfl hc_53) rfl rfl hl.1 rfl (lv_room (Nat.le_of_ble_eq_true rfl)) dX11_steps_59 ⟨Nat.le_of_ble_eq_true rfl, Nat.le_of_ble_eq_true rfl⟩) hS (fun σ_s_55 H locs hw_54 hH hS => ?_)
        obtain ⟨hO9, hF9, hM9, hw_54⟩ := hw_54
        replace hM := hM.tu hM9 (by decide)
        replace hF := hF.tu hF9 (by decide)
        have e_56 : aF σ_s_55 (ad E a 1) = f1 := (hM9.a (by decide) (by decide)).trans e_27
        have e_57 : aF σ_s_55 (ad E a 37) = f37 := (hM9.a (by decide) (by decide)).trans e_28
        have e_58 : aF σ_s_55 (ad E a 61) = f61 := (hM9.a (by decide) (by decide)).trans e_29
        have e_59 : aF σ_s_55 (ad E a 62) = f62 := (hM9.a (by decide) (by decide)).trans e_30
        have e_60 : aF σ_s_55 (ad E a 39) = f39 := (hM9.a (by decide) (by decide)).trans e_31
        have e_61 : aF σ_s_55 (ad E a 40) = f40 := (hM9.a (by decide) (by decide)).trans e_32
        have e_62 : aF σ_s_55 (ad E a 42) = f42 := (hM9.a (by decide) (by decide)).trans e_33
        have e_63 : aF σ_s_55 (ad E a 43) = f43 := (hM9.a (by decide) (by decide)).trans e_34
        have e_64 : aF σ_s_55 (ad E a 44) = f44 := (hM9.a (by decide) (by decide)).trans e_35
        have e_65 : aF σ_s_55 (ad E a 45) = f45 := (hM9.a (by decide) (by decide)).trans e_36
        have e_66 : aF σ_s_55 (ad E a 46) = f46 := (hM9.a (by decide) (by decide)).trans e_37
        have e_67 : aF σ_s_55 (ad E a 8) = f8 := (hM9.a (by decide) (by decide)).trans e_38
        have e_68 : gI σ_s_55 a 36 = a360 := (hM9.i (by decide)).trans e_39
        have e_69 : gI σ_s_55 a 58 = a580 := (hM9.i (by decide)).trans e_40
        have e_70 : gI σ_s_55 a 59 = a590 := (hM9.i (by decide)).trans e_41
        have e_71 : gI σ_s_55 a 12 = a120 := (hM9.i (by decide)).trans e_42
        have e_72 : gI σ_s_55 a 0 = 0 := (hM9.i (by decide)).trans e_43
        replace hO := hO9
        refine lv_aload_n hx hb dX11_steps_62 rfl (lv_at hl 1 rfl) ?_
        obtain ⟨_, hc_73⟩ := hO.cell h_a (by decide) (ci := 11) rfl
        refine th_calli (va_runV (As := []) (rest := []) ⟨hx, hb, hml, hown, hts⟩ (m_inSet l G y b0 σ_s_55 E hO a h_a f1 e_56 (hw1) (by omega)) (cwV 0 hts gX11_steps_X11_inSet rfl rfl rfl (by decide +kernel) ⟨Nat.le_of_ble_eq_true rfl, Nat.le_of_ble_eq_true rfl⟩) (th_PV hK hH rfl hc_73) rfl rfl hl.1 rfl (lv_room (Nat.le_of_ble_eq_true rfl)) dX11_steps_63 ⟨Nat.le_of_ble_eq_true rfl, Nat.le_of_ble_eq_true rfl⟩) hS (fun z_76 σ_s_75 H locs rz_76 hw_74 hH hS => ?_)
        obtain ⟨e9, hw_74⟩ := hw_74
        replace e9 := e9.symm
        subst e9
        have hw_74 : 0 ≤ z_76 ∧ z_76 ≤ 60 := hw_74
        exact th_iret hx hb hr hlocks hH hS (z := z_76) rz_76 ⟨hO, hF, hM, by rw [show aF σ_s_55 (ad E a 1) = f1 from e_56, show aF σ_s_55 (ad E a 37) = f37 from e_57, show aF σ_s_55 (ad E a 61) = f61 from e_58, show aF σ_s_55 (ad E a 62) = f62 from e_59, show aF σ_s_55 (ad E a 39) = f39 from e_60, show aF σ_s_55 (ad E a 40) = f40 from e_61, show aF σ_s_55 (ad E a 42) = f42 from e_62, show aF σ_s_55 (ad E a 43) = f43 from e_63, show aF σ_s_55 (ad E a 44) = f44 from e_64, show aF σ_s_55 (ad E a 45) = f45 from e_65, show aF σ_s_55 (ad E a 46) = f46 from e_66]; exact ⟨hj.n (by omega) (by omega) (by omega), by omega⟩⟩ dX11_steps_66
      · replace c_51 := (I_eq (a := z_50) (b := 0) rz_50 (show rng 0 from ⟨by decide, by decide⟩)).mp c_51
        refine lv_aload_n hx hb dX11_steps_48 rfl (lv_at hl 1 rfl) ?_
        refine lv_iconst (v := I 1) hx hb dX11_steps_49 (by decide) ?_
        obtain ⟨_, hc_77⟩ := hO.cell h_a (by decide) (ci := 11) rfl
        refine th_calli (va_runV (As := [.int (I 1)]) (rest := []) ⟨hx, hb, hml, hown, hts⟩ (m_fail l G y b0 σ_s_26 E hO a h_a 1 (show rng 1 from (show rng 1 from ⟨by decide, by decide⟩))) (cwV 1 hts gX11_steps_X11_fail rfl rfl rfl (by decide +kernel) ⟨Nat.le_of_ble_eq_true rfl, Nat.le_of_ble_eq_true rfl⟩) (th_PV hK hH rfl hc_77) rfl rfl hl.1 rfl (lv_room (Nat.le_of_ble_eq_true rfl)) dX11_steps_50 ⟨Nat.le_of_ble_eq_true rfl, Nat.le_of_ble_eq_true rfl⟩) hS (fun z_80 σ_s_79 H locs rz_80 hw_78 hH hS => ?_)
        obtain ⟨hO9, hF9, hM9, hw_78⟩ := hw_78
        replace hM := hM.tu hM9 (by decide)
        replace hF := hF.tu hF9 (by decide)
        have e_81 : aF σ_s_79 (ad E a 1) = f1 := (hM9.a (by decide) (by decide)).trans e_27
        have e_82 : aF σ_s_79 (ad E a 37) = f37 := (hM9.a (by decide) (by decide)).trans e_28
        have e_83 : aF σ_s_79 (ad E a 61) = f61 := (hM9.a (by decide) (by decide)).trans e_29
        have e_84 : aF σ_s_79 (ad E a 62) = f62 := (hM9.a (by decide) (by decide)).trans e_30
        have e_85 : aF σ_s_79 (ad E a 39) = f39 := (hM9.a (by decide) (by decide)).trans e_31
        have e_86 : aF σ_s_79 (ad E a 40) = f40 := (hM9.a (by decide) (by decide)).trans e_32
        have e_87 : aF σ_s_79 (ad E a 42) = f42 := (hM9.a (by decide) (by decide)).trans e_33
        have e_88 : aF σ_s_79 (ad E a 43) = f43 := (hM9.a (by decide) (by decide)).trans e_34
        have e_89 : aF σ_s_79 (ad E a 44) = f44 := (hM9.a (by decide) (by decide)).trans e_35
        have e_90 : aF σ_s_79 (ad E a 45) = f45 := (hM9.a (by decide) (by decide)).trans e_36
        have e_91 : aF σ_s_79 (ad E a 46) = f46 := (hM9.a (by decide) (by decide)).trans e_37
        have e_92 : aF σ_s_79 (ad E a 8) = f8 := (hM9.a (by decide) (by decide)).trans e_38
        have e_93 : gI σ_s_79 a 36 = a360 := (hM9.i (by decide)).trans e_39
        have e_94 : gI σ_s_79 a 58 = a580 := (hM9.i (by decide)).trans e_40
        have e_95 : gI σ_s_79 a 59 = a590 := (hM9.i (by decide)).trans e_41
        have e_96 : gI σ_s_79 a 12 = a120 := (hM9.i (by decide)).trans e_42
        have e_97 : gI σ_s_79 a 26 = z_44 := (hM9.i (by decide)).trans e_45
        replace hO := hO9
        exact th_iret hx hb hr hlocks hH hS (z := z_80) rz_80 ⟨hO, hF, hM, by rw [show aF σ_s_79 (ad E a 1) = f1 from e_81, show aF σ_s_79 (ad E a 37) = f37 from e_82, show aF σ_s_79 (ad E a 61) = f61 from e_83, show aF σ_s_79 (ad E a 62) = f62 from e_84, show aF σ_s_79 (ad E a 39) = f39 from e_85, show aF σ_s_79 (ad E a 40) = f40 from e_86, show aF σ_s_79 (ad E a 42) = f42 from e_87, show aF σ_s_79 (ad E a 43) = f43 from e_88, show aF σ_s_79 (ad E a 44) = f44 from e_89, show aF σ_s_79 (ad E a 45) = f45 from e_90, show aF σ_s_79 (ad E a 46) = f46 from e_91]; exact ⟨hj.n (by omega) (by omega) (by omega), by omega⟩⟩ dX11_steps_53
    · replace c_46 := (I_eq (a := j) (b := (-1)) rj (show rng (-1) from ⟨by decide, by decide⟩)).mp c_46
      refine lv_iload_n hx hb dX11_steps_35 rfl (lv_at hl 0 rfl) ?_
      exact th_iret hx hb hr hlocks hH hS (z := z_44) rz_44 ⟨hO, hF, hM, by rw [show aF σ_s_26 (ad E a 1) = f1 from e_27, show aF σ_s_26 (ad E a 37) = f37 from e_28, show aF σ_s_26 (ad E a 61) = f61 from e_29, show aF σ_s_26 (ad E a 62) = f62 from e_30, show aF σ_s_26 (ad E a 39) = f39 from e_31, show aF σ_s_26 (ad E a 40) = f40 from e_32, show aF σ_s_26 (ad E a 42) = f42 from e_33, show aF σ_s_26 (ad E a 43) = f43 from e_34, show aF σ_s_26 (ad E a 44) = f44 from e_35, show aF σ_s_26 (ad E a 45) = f45 from e_36, show aF σ_s_26 (ad E a 46) = f46 from e_37]; exact ⟨hj.n (by omega) (by omega) (by omega), by omega⟩⟩ dX11_steps_36
  · replace c_23 := (I_eq (a := z_22) (b := 0) rz_22 (show rng 0 from ⟨by decide, by decide⟩)).mp c_23
    refine lv_aload_n hx hb dX11_steps_13 rfl (lv_at hl 0 rfl) ?_
    refine lv_iconst (v := I 1) hx hb dX11_steps_14 (by decide) ?_
    obtain ⟨_, hc_98⟩ := hO.cell h_a (by decide) (ci := 11) rfl
    refine th_calli (va_runV (As := [.int (I 1)]) (rest := []) ⟨hx, hb, hml, hown, hts⟩ (m_fail l G y b0 σ_s_1 E hO a h_a 1 (show rng 1 from (show rng 1 from ⟨by decide, by decide⟩))) (cwV 1 hts gX11_steps_X11_fail rfl rfl rfl (by decide +kernel) ⟨Nat.le_of_ble_eq_true rfl, Nat.le_of_ble_eq_true rfl⟩) (th_PV hK hH rfl hc_98) rfl rfl hl.1 rfl (lv_room (Nat.le_of_ble_eq_true rfl)) dX11_steps_15 ⟨Nat.le_of_ble_eq_true rfl, Nat.le_of_ble_eq_true rfl⟩) hS (fun z_101 σ_s_100 H locs rz_101 hw_99 hH hS => ?_)
    obtain ⟨hO9, hF9, hM9, hw_99⟩ := hw_99
    replace hM := hM.tu hM9 (by decide)
    replace hF := hF.tu hF9 (by decide)
    have e_102 : aF σ_s_100 (ad E a 1) = f1 := (hM9.a (by decide) (by decide)).trans e_2
    have e_103 : aF σ_s_100 (ad E a 37) = f37 := (hM9.a (by decide) (by decide)).trans e_3
    have e_104 : aF σ_s_100 (ad E a 61) = f61 := (hM9.a (by decide) (by decide)).trans e_4
    have e_105 : aF σ_s_100 (ad E a 62) = f62 := (hM9.a (by decide) (by decide)).trans e_5
    have e_106 : aF σ_s_100 (ad E a 39) = f39 := (hM9.a (by decide) (by decide)).trans e_6
    have e_107 : aF σ_s_100 (ad E a 40) = f40 := (hM9.a (by decide) (by decide)).trans e_7
    have e_108 : aF σ_s_100 (ad E a 42) = f42 := (hM9.a (by decide) (by decide)).trans e_8
    have e_109 : aF σ_s_100 (ad E a 43) = f43 := (hM9.a (by decide) (by decide)).trans e_9
    have e_110 : aF σ_s_100 (ad E a 44) = f44 := (hM9.a (by decide) (by decide)).trans e_10
    have e_111 : aF σ_s_100 (ad E a 45) = f45 := (hM9.a (by decide) (by decide)).trans e_11
    have e_112 : aF σ_s_100 (ad E a 46) = f46 := (hM9.a (by decide) (by decide)).trans e_12
    have e_113 : aF σ_s_100 (ad E a 8) = f8 := (hM9.a (by decide) (by decide)).trans e_13
    have e_114 : gI σ_s_100 a 36 = a360 := (hM9.i (by decide)).trans e_14
    have e_115 : gI σ_s_100 a 58 = a580 := (hM9.i (by decide)).trans e_15
    have e_116 : gI σ_s_100 a 59 = a590 := (hM9.i (by decide)).trans e_16
    have e_117 : gI σ_s_100 a 12 = a120 := (hM9.i (by decide)).trans e_17
    replace hO := hO9
    exact th_iret hx hb hr hlocks hH hS (z := z_101) rz_101 ⟨hO, hF, hM, by rw [show aF σ_s_100 (ad E a 1) = f1 from e_102, show aF σ_s_100 (ad E a 37) = f37 from e_103, show aF σ_s_100 (ad E a 61) = f61 from e_104, show aF σ_s_100 (ad E a 62) = f62 from e_105, show aF σ_s_100 (ad E a 39) = f39 from e_106, show aF σ_s_100 (ad E a 40) = f40 from e_107, show aF σ_s_100 (ad E a 42) = f42 from e_108, show aF σ_s_100 (ad E a 43) = f43 from e_109, show aF σ_s_100 (ad E a 44) = f44 from e_110, show aF σ_s_100 (ad E a 45) = f45 from e_111, show aF σ_s_100 (ad E a 46) = f46 from e_112]; exact ⟨hj.n (by omega) (by omega) (by omega), by omega⟩⟩ dX11_steps_18
