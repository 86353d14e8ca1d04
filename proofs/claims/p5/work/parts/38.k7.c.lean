set_option maxHeartbeats 4000000 in
set_option maxRecDepth 100000 in
theorem j_keep (l : Launch) (G : va_G) (y : Nat → ClassId) (b0 : Nat) (σ : th_M) (E : th_E) (hO : ok y E σ) (a : Nat) (h_a : kd E a = 13) (f1 : Nat → Int32) (ef1 : aF σ (ad E a 1) = f1) (f37 : Nat → Int32) (ef37 : aF σ (ad E a 37) = f37) (f61 : Nat → Int32) (ef61 : aF σ (ad E a 61) = f61) (f62 : Nat → Int32) (ef62 : aF σ (ad E a 62) = f62) (f39 : Nat → Int32) (ef39 : aF σ (ad E a 39) = f39) (f40 : Nat → Int32) (ef40 : aF σ (ad E a 40) = f40) (f42 : Nat → Int32) (ef42 : aF σ (ad E a 42) = f42) (f43 : Nat → Int32) (ef43 : aF σ (ad E a 43) = f43) (f44 : Nat → Int32) (ef44 : aF σ (ad E a 44) = f44) (f45 : Nat → Int32) (ef45 : aF σ (ad E a 45) = f45) (f46 : Nat → Int32) (ef46 : aF σ (ad E a 46) = f46) (hy0 : jw f1 f37 f61 f62 f39 f40 f42 f43 f44 f45 f46 (gI σ a 36) (gI σ a 58) (gI σ a 59)) : Met l yX11_keep wsX11_keep ({ frames := 386, cells := 0, slots := 0, locals := 14016 }) (th_P G y b0 σ [.ref a]) (th_Qi G b0 (fun r σ1 => ok y E σ1 ∧ fr [13] E σ σ1 ∧ fm [0, 39, 40, 41, 42, 43, 44, 45, 46, 47, 48] E σ σ1 a ∧ (jw (aF σ1 (ad E a 1)) (aF σ1 (ad E a 37)) (aF σ1 (ad E a 61)) (aF σ1 (ad E a 62)) (aF σ1 (ad E a 39)) (aF σ1 (ad E a 40)) (aF σ1 (ad E a 42)) (aF σ1 (ad E a 43)) (aF σ1 (ad E a 44)) (aF σ1 (ad E a 45)) (aF σ1 (ad E a 46)) (gI σ1 a 36) (gI σ1 a 58) (gI σ1 a 59) ∧ gI σ1 a 12 = gI σ a 12))) 0 0 (th_A b0) := by
  refine Met.ofW (cc := cX11_keep) (maxL := 1) (ret := (some .int)) (by decide) rfl ?_
  intro p e s m args below meth c s₁ B hml hv
  obtain ⟨rfl, hH, hK⟩ := hv
  have hx := B.exec
  have hb := B.bytes
  have hr := B.returns
  have hts := atoms_spec (ws := wsX11_keep) B.pre
  have hown : s.vm.findClass RX11 = some m.cls := findClass_of_methodNamed B.named
  have hlocks := B.notSynchronized
  have h00 : b0 ≤ s.heap.size := hH.1
  have hS : va_S (th_A b0) s.heap s.heap [] := va_S.rf
  have hF : fr [13] E σ σ := fr.rf
  have hM : fm [0, 39, 40, 41, 42, 43, 44, 45, 46, 47, 48] E σ σ a := fm.rf
  have hj := hy0
  have hw1 := hj.1.1.1
  have hm1 := hj.1.2.1
  have hm2 := hj.1.2.2.1
  have hm3 := hj.2.2.2.2.1
  have hm4 := hj.2.2.2.2.2.1
  have inX11 : ∀ w ∈ wsX110, w ∈ wsX11_keep := by decide +kernel
  have fl0 := hts (.fieldLink RX11 111 "NestQueryModel" "code" "I") (by decide +kernel)
  have fl1 := hts (.fieldLink RX11 238 "NestQueryModel" "hasImage" "Z") (by decide +kernel)
  have hl := lv_entry ([.ref a]) (n := 1) (Nat.le_of_ble_eq_true rfl)
  rw [lg_entry_eq]
  generalize (lg_sl ([.ref a]) ++ List.replicate (1 - (lg_sl ([.ref a])).length) Slot.unset).toArray = ls at hl ⊢
  have hl : lv_has ls 1 [(0, .ref a)] := hl
  obtain ⟨a360, ea360, ra360, la360, ua360⟩ := hO.gi h_a (by decide) k13_36
  obtain ⟨a580, ea580, ra580, la580, ua580⟩ := hO.gi h_a (by decide) k13_58
  obtain ⟨a590, ea590, ra590, la590, ua590⟩ := hO.gi h_a (by decide) k13_59
  obtain ⟨a120, ea120, ra120, la120, ua120⟩ := hO.gi h_a (by decide) k13_12
  refine lv_aload_n hx hb dX11_keep_0 rfl (lv_at hl 0 rfl) ?_
  refine lv_iconst (v := I 0) hx hb dX11_keep_1 (by decide) ?_
  refine ok.putJ hO h_a k13_0 (show rng 0 from ⟨by decide, by decide⟩) (by omega) (by omega) (fun _ he hl9 kk => th_put (ci := 11) (v := .int (I 0)) (ty := .int) (C := RX11) (T := TX11) (N := 66) hx hb hts inX11 tyX11 tyX11_ok nmX11 hown hK hH hS h00 he rfl 0 (by decide) fl0 rfl (by decide +kernel) rfl rfl hl9 dX11_keep_2 kk) (fun σ_s_1 H locs hO hF9 hM9 hg9 ha9 hH hS => ?_)
  replace hM := hM.tu hM9 (by decide)
  replace hF := hF.tu hF9 (by decide)
  have e_2 : aF σ_s_1 (ad E a 1) = f1 := (hM9.a (by decide) (by decide)).trans ef1
  have e_3 : aF σ_s_1 (ad E a 37) = f37 := (hM9.a (by decide) (by decide)).trans ef37
  have e_4 : aF σ_s_1 (ad E a 61) = f61 := (hM9.a (by decide) (by decide)).trans ef61
  have e_5 : aF σ_s_1 (ad E a 62) = f62 := (hM9.a (by decide) (by decide)).trans ef62
  have e_6 : aF σ_s_1 (ad E a 39) = f39 := (hM9.a (by decide) (by decide)).trans ef39
  have e_7 : aF σ_s_1 (ad E a 40) = f40 := (hM9.a (by decide) (by decide)).trans ef40
  have e_8 : aF σ_s_1 (ad E a 42) = f42 := (hM9.a (by decide) (by decide)).trans ef42
  have e_9 : aF σ_s_1 (ad E a 43) = f43 := (hM9.a (by decide) (by decide)).trans ef43
  have e_10 : aF σ_s_1 (ad E a 44) = f44 := (hM9.a (by decide) (by decide)).trans ef44
  have e_11 : aF σ_s_1 (ad E a 45) = f45 := (hM9.a (by decide) (by decide)).trans ef45
  have e_12 : aF σ_s_1 (ad E a 46) = f46 := (hM9.a (by decide) (by decide)).trans ef46
  have e_13 : gI σ_s_1 a 36 = a360 := (hM9.i (by decide)).trans ea360
  have e_14 : gI σ_s_1 a 58 = a580 := (hM9.i (by decide)).trans ea580
  have e_15 : gI σ_s_1 a 59 = a590 := (hM9.i (by decide)).trans ea590
  have e_16 : gI σ_s_1 a 12 = a120 := (hM9.i (by decide)).trans ea120
  have e_17 := hg9
  refine lv_aload_n hx hb dX11_keep_5 rfl (lv_at hl 0 rfl) ?_
  refine ok.getIc hO h_a (by decide) k13_58 e_14 (fun _ _ he hv kk => th_get (ci := 11) (C := RX11) (T := TX11) (N := 66) hx hb hts inX11 hown hK hH he rfl 58 (by decide) fl1 hv dX11_keep_6 kk) ?_
  refine lv_if_eq (tgt := 20) hx hb dX11_keep_9 (by decide) (fun c_18 => ?_) (fun c_18 => ?_)
  · replace c_18 := (I_eq (a := a580) (b := 0) ra580 (show rng 0 from ⟨by decide, by decide⟩)).mp c_18
    refine lv_iconst (v := I (-1)) hx hb dX11_keep_20 (by decide) ?_
    exact th_iret hx hb hr hlocks hH hS (z := (-1)) (show rng (-1) from ⟨by decide, by decide⟩) ⟨hO, hF, hM, by rw [show aF σ_s_1 (ad E a 1) = f1 from e_2, show aF σ_s_1 (ad E a 37) = f37 from e_3, show aF σ_s_1 (ad E a 61) = f61 from e_4, show aF σ_s_1 (ad E a 62) = f62 from e_5, show aF σ_s_1 (ad E a 39) = f39 from e_6, show aF σ_s_1 (ad E a 40) = f40 from e_7, show aF σ_s_1 (ad E a 42) = f42 from e_8, show aF σ_s_1 (ad E a 43) = f43 from e_9, show aF σ_s_1 (ad E a 44) = f44 from e_10, show aF σ_s_1 (ad E a 45) = f45 from e_11, show aF σ_s_1 (ad E a 46) = f46 from e_12]; exact ⟨hj.n (by omega) (by omega) (by omega), by omega⟩⟩ dX11_keep_21
  · replace c_18 := mt (I_eq (a := a580) (b := 0) ra580 (show rng 0 from ⟨by decide, by decide⟩)).mpr c_18
    refine lv_aload_n hx hb dX11_keep_12 rfl (lv_at hl 0 rfl) ?_
    refine lv_iconst (v := I 1) hx hb dX11_keep_13 (by decide) ?_
    obtain ⟨_, hc_19⟩ := hO.cell h_a (by decide) (ci := 11) rfl
    refine th_calli (va_runV (As := [.int (I 1)]) (rest := []) ⟨hx, hb, hml, hown, hts⟩ (m_tellPatch l G y b0 σ_s_1 E hO a h_a 1 (show rng 1 from (show rng 1 from ⟨by decide, by decide⟩)) (by omega) (by omega) f1 e_2 f61 e_4 f39 e_6 f40 e_7 f42 e_8 f43 e_9 f44 e_10 f45 e_11 f46 e_12 (((hj.2.2.1.resolve_left (by omega)).1)) (hj.1)) (cwV 1 hts gX11_keep_X11_tellPatch rfl rfl rfl (by decide +kernel) ⟨Nat.le_of_ble_eq_true rfl, Nat.le_of_ble_eq_true rfl⟩) (th_PV hK hH rfl hc_19) rfl rfl hl.1 rfl (lv_room (Nat.le_of_ble_eq_true rfl)) dX11_keep_14 ⟨Nat.le_of_ble_eq_true rfl, Nat.le_of_ble_eq_true rfl⟩) hS (fun z_22 σ_s_21 H locs rz_22 hw_20 hH hS => ?_)
    obtain ⟨hO9, hF9, hM9, hw_20⟩ := hw_20
    replace hM := hM.tu hM9 (by decide)
    replace hF := hF.tu hF9 (by decide)
    have e_23 : aF σ_s_21 (ad E a 1) = f1 := (hM9.a (by decide) (by decide)).trans e_2
    have e_24 : aF σ_s_21 (ad E a 37) = f37 := (hM9.a (by decide) (by decide)).trans e_3
    have e_25 : aF σ_s_21 (ad E a 61) = f61 := (hM9.a (by decide) (by decide)).trans e_4
    have e_26 : aF σ_s_21 (ad E a 62) = f62 := (hM9.a (by decide) (by decide)).trans e_5
    have e_27 : gI σ_s_21 a 36 = a360 := (hM9.i (by decide)).trans e_13
    have e_28 : gI σ_s_21 a 58 = a580 := (hM9.i (by decide)).trans e_14
    have e_29 : gI σ_s_21 a 59 = a590 := (hM9.i (by decide)).trans e_15
    have e_30 : gI σ_s_21 a 12 = a120 := (hM9.i (by decide)).trans e_16
    have e_31 : gI σ_s_21 a 0 = 0 := (hM9.i (by decide)).trans e_17
    replace hO := hO9
    generalize ef_33 : aF σ_s_21 (ad E a 39) = g_32 at hw_20
    generalize ef_35 : aF σ_s_21 (ad E a 40) = g_34 at hw_20
    generalize ef_37 : aF σ_s_21 (ad E a 42) = g_36 at hw_20
    generalize ef_39 : aF σ_s_21 (ad E a 43) = g_38 at hw_20
    generalize ef_41 : aF σ_s_21 (ad E a 44) = g_40 at hw_20
    generalize ef_43 : aF σ_s_21 (ad E a 45) = g_42 at hw_20
    generalize ef_45 : aF σ_s_21 (ad E a 46) = g_44 at hw_20
    have hw_20 : rws 1 g_32 g_34 g_36 g_38 g_40 (g_42 (1 : Int).toNat).toInt (g_44 (1 : Int).toNat).toInt ∧ 0 ≤ (g_42 (1 : Int).toNat).toInt ∧ (g_42 (1 : Int).toNat).toInt ≤ 130 ∧ 0 ≤ (g_44 (1 : Int).toNat).toInt ∧ (g_44 (1 : Int).toNat).toInt ≤ 150 ∧ hall 1 f39 f40 f42 f43 f44 f45 f46 g_32 g_34 g_36 g_38 g_40 g_42 g_44 := hw_20
    refine lv_goto (tgt := 21) hx hb dX11_keep_17 (by decide) ?_
    exact th_iret hx hb hr hlocks hH hS (z := z_22) rz_22 ⟨hO, hF, hM, by rw [show aF σ_s_21 (ad E a 1) = f1 from e_23, show aF σ_s_21 (ad E a 37) = f37 from e_24, show aF σ_s_21 (ad E a 61) = f61 from e_25, show aF σ_s_21 (ad E a 62) = f62 from e_26, show aF σ_s_21 (ad E a 39) = g_32 from ef_33, show aF σ_s_21 (ad E a 40) = g_34 from ef_35, show aF σ_s_21 (ad E a 42) = g_36 from ef_37, show aF σ_s_21 (ad E a 43) = g_38 from ef_39, show aF σ_s_21 (ad E a 44) = g_40 from ef_41, show aF σ_s_21 (ad E a 45) = g_42 from ef_43, show aF σ_s_21 (ad E a 46) = g_44 from ef_45]; exact ⟨hj.rows ⟨hw_20.1, hw_20.2.1, hw_20.2.2.1, hw_20.2.2.2.1, hw_20.2.2.2.2.1⟩ (by omega) (by omega) (by omega), by omega⟩⟩ dX11_keep_21

set_option maxHeartbeats 4000000 in
set_option maxRecDepth 100000 in
theorem j_apply (l : Launch) (G : va_G) (y : Nat → ClassId) (b0 : Nat) (σ : th_M) (E : th_E) (hO : ok y E σ) (a : Nat) (h_a : kd E a = 13) (tu : Int) (rtu : rng tu) (l_tu : 0 ≤ tu) (u_tu : tu ≤ 1) (f1 : Nat → Int32) (ef1 : aF σ (ad E a 1) = f1) (f37 : Nat → Int32) (ef37 : aF σ (ad E a 37) = f37) (f61 : Nat → Int32) (ef61 : aF σ (ad E a 61) = f61) (f62 : Nat → Int32) (ef62 : aF σ (ad E a 62) = f62) (f39 : Nat → Int32) (ef39 : aF σ (ad E a 39) = f39) (f40 : Nat → Int32) (ef40 : aF σ (ad E a 40) = f40) (f42 : Nat → Int32) (ef42 : aF σ (ad E a 42) = f42) (f43 : Nat → Int32) (ef43 : aF σ (ad E a 43) = f43) (f44 : Nat → Int32) (ef44 : aF σ (ad E a 44) = f44) (f45 : Nat → Int32) (ef45 : aF σ (ad E a 45) = f45) (f46 : Nat → Int32) (ef46 : aF σ (ad E a 46) = f46) (f3 : Nat → Int32) (ef3 : aF σ (ad E a 3) = f3) (f41 : Nat → Int32) (ef41 : aF σ (ad E a 41) = f41) (hy0 : jw f1 f37 f61 f62 f39 f40 f42 f43 f44 f45 f46 (gI σ a 36) (gI σ a 58) (gI σ a 59)) : Met l yX11_apply wsX11_apply ({ frames := 132, cells := 0, slots := 0, locals := 3925 }) (th_P G y b0 σ [.ref a, .int (I tu)]) (th_Qi G b0 (fun r σ1 => ok y E σ1 ∧ fr [13] E σ σ1 ∧ fm [0, 1, 3, 4, 5, 31, 36, 37] E σ σ1 a ∧ (jw (aF σ1 (ad E a 1)) (aF σ1 (ad E a 37)) (aF σ1 (ad E a 61)) (aF σ1 (ad E a 62)) (aF σ1 (ad E a 39)) (aF σ1 (ad E a 40)) (aF σ1 (ad E a 42)) (aF σ1 (ad E a 43)) (aF σ1 (ad E a 44)) (aF σ1 (ad E a 45)) (aF σ1 (ad E a 46)) (gI σ1 a 36) (gI σ1 a 58) (gI σ1 a 59) ∧ gI σ1 a 12 = gI σ a 12))) 0 0 (th_A b0) := by
  refine Met.ofW (cc := cX11_apply) (maxL := 5) (ret := (some .int)) (by decide) rfl ?_
  intro p e s m args below meth c s₁ B hml hv
  obtain ⟨rfl, hH, hK⟩ := hv
  have hx := B.exec
  have hb := B.bytes
  have hr := B.returns
  have hts := atoms_spec (ws := wsX11_apply) B.pre
  have hown : s.vm.findClass RX11 = some m.cls := findClass_of_methodNamed B.named
  have hlocks := B.notSynchronized
  have h00 : b0 ≤ s.heap.size := hH.1
  have hS : va_S (th_A b0) s.heap s.heap [] := va_S.rf
  have hF : fr [13] E σ σ := fr.rf
  have hM : fm [0, 1, 3, 4, 5, 31, 36, 37] E σ σ a := fm.rf
  have hj := hy0
  have hw1 := hj.1.1.1
  have hm1 := hj.1.2.1
  have hm2 := hj.1.2.2.1
  have hm3 := hj.2.2.2.2.1
  have hm4 := hj.2.2.2.2.2.1
  have inX11 : ∀ w ∈ wsX110, w ∈ wsX11_apply := by decide +kernel
  have fl0 := hts (.fieldLink RX11 111 "NestQueryModel" "code" "I") (by decide +kernel)
  have fl1 := hts (.fieldLink RX11 69 "NestQueryModel" "rowsMany" "[I") (by decide +kernel)
  have hl := lv_entry ([.ref a, .int (I tu)]) (n := 5) (Nat.le_of_ble_eq_true rfl)
  rw [lg_entry_eq]
  generalize (lg_sl ([.ref a, .int (I tu)]) ++ List.replicate (5 - (lg_sl ([.ref a, .int (I tu)])).length) Slot.unset).toArray = ls at hl ⊢
  have hl : lv_has ls 5 [(0, .ref a), (1, .int (I tu))] := hl
  obtain ⟨a360, ea360, ra360, la360, ua360⟩ := hO.gi h_a (by decide) k13_36
  obtain ⟨a580, ea580, ra580, la580, ua580⟩ := hO.gi h_a (by decide) k13_58
  obtain ⟨a590, ea590, ra590, la590, ua590⟩ := hO.gi h_a (by decide) k13_59
  obtain ⟨a120, ea120, ra120, la120, ua120⟩ := hO.gi h_a (by decide) k13_12
  refine lv_aload_n hx hb dX11_apply_0 rfl (lv_at hl 0 rfl) ?_
  refine lv_iconst (v := I 0) hx hb dX11_apply_1 (by decide) ?_
  refine ok.putJ hO h_a k13_0 (show rng 0 from ⟨by decide, by decide⟩) (by omega) (by omega) (fun _ he hl9 kk => th_put (ci := 11) (v := .int (I 0)) (ty := .int) (C := RX11) (T := TX11) (N := 66) hx hb hts inX11 tyX11 tyX11_ok nmX11 hown hK hH hS h00 he rfl 0 (by decide) fl0 rfl (by decide +kernel) rfl rfl hl9 dX11_apply_2 kk) (fun σ_s_1 H locs hO hF9 hM9 hg9 ha9 hH hS => ?_)
  replace hM := hM.tu hM9 (by decide)
  replace hF := hF.tu hF9 (by decide)
  have e_2 : aF σ_s_1 (ad E a 1) = f1 := (hM9.a (by decide) (by decide)).trans ef1
  have e_3 : aF σ_s_1 (ad E a 37) = f37 := (hM9.a (by decide) (by decide)).trans ef37
  have e_4 : aF σ_s_1 (ad E a 61) = f61 := (hM9.a (by decide) (by decide)).trans ef61
  have e_5 : aF σ_s_1 (ad E a 62) = f62 := (hM9.a (by decide) (by decide)).trans ef62
  have e_6 : aF σ_s_1 (ad E a 39) = f39 := (hM9.a (by decide) (by decide)).trans ef39
  have e_7 : aF σ_s_1 (ad E a 40) = f40 := (hM9.a (by decide) (by decide)).trans ef40
  have e_8 : aF σ_s_1 (ad E a 42) = f42 := (hM9.a (by decide) (by decide)).trans ef42
  have e_9 : aF σ_s_1 (ad E a 43) = f43 := (hM9.a (by decide) (by decide)).trans ef43
  have e_10 : aF σ_s_1 (ad E a 44) = f44 := (hM9.a (by decide) (by decide)).trans ef44
  have e_11 : aF σ_s_1 (ad E a 45) = f45 := (hM9.a (by decide) (by decide)).trans ef45
  have e_12 : aF σ_s_1 (ad E a 46) = f46 := (hM9.a (by decide) (by decide)).trans ef46
  have e_13 : aF σ_s_1 (ad E a 3) = f3 := (hM9.a (by decide) (by decide)).trans ef3
  have e_14 : aF σ_s_1 (ad E a 41) = f41 := (hM9.a (by decide) (by decide)).trans ef41
  have e_15 : gI σ_s_1 a 36 = a360 := (hM9.i (by decide)).trans ea360
  have e_16 : gI σ_s_1 a 58 = a580 := (hM9.i (by decide)).trans ea580
  have e_17 : gI σ_s_1 a 59 = a590 := (hM9.i (by decide)).trans ea590
  have e_18 : gI σ_s_1 a 12 = a120 := (hM9.i (by decide)).trans ea120
  have e_19 := hg9
  refine lv_aload_n hx hb dX11_apply_5 rfl (lv_at hl 0 rfl) ?_
  refine ok.getR hO h_a (by decide) k13_45 (by decide) (fun _ _ he hv kk => th_get (ci := 11) (C := RX11) (T := TX11) (N := 66) hx hb hts inX11 hown hK hH he rfl 45 (by decide) fl1 hv dX11_apply_6 kk) ?_
  refine lv_iconst (v := I 1) hx hb dX11_apply_9 (by decide) ?_
  refine m_iald hx hb hK hH hO h_a k13_45 isA1 e_11 (show rng 1 from ⟨by decide, by decide⟩) (by omega) (by omega) dX11_apply_10 (fun z_20 ez_20 rz_20 elx9 => ?_)
  refine lv_istore_n (lv' := [(2, .int (I z_20)), (0, .ref a), (1, .int (I tu))]) hx hb dX11_apply_11 rfl hl (by decide) rfl (fun ls hl => ?_)
  refine lv_iload_n hx hb dX11_apply_12 rfl (lv_at hl 0 rfl) ?_
  refine lv_if_ne (tgt := 22) hx hb dX11_apply_13 (by decide) (fun c_21 => ?_) (fun c_21 => ?_)
  · replace c_21 := mt (I_eq (a := z_20) (b := 0) rz_20 (show rng 0 from ⟨by decide, by decide⟩)).mpr c_21
    refine lv_aload_n hx hb dX11_apply_22 rfl (lv_at hl 1 rfl) ?_
    obtain ⟨_, hc_22⟩ := hO.cell h_a (by decide) (ci := 11) rfl
    refine th_callv (va_runV (As := []) (rest := []) ⟨hx, hb, hml, hown, hts⟩ (m_takeTree l G y b0 σ_s_1 E hO a h_a f1 e_2 (by omega)) (cwV 0 hts gX11_apply_X11_takeTree rfl rfl rfl (by decide +kernel) ⟨Nat.le_of_ble_eq_true rfl, Nat.le_of_ble_eq_true rfl⟩) (th_PV hK hH rfl hc_22) rfl rfl hl.1 rfl (lv_room (Nat.le_of_ble_eq_true rfl)) dX11_apply_23 ⟨Nat.le_of_ble_eq_true rfl, Nat.le_of_ble_eq_true rfl⟩) hS (fun σ_s_24 H locs hw_23 hH hS => ?_)
    obtain ⟨hO9, hF9, hM9, hw_23⟩ := hw_23
    replace hM := hM.tu hM9 (by decide)
    replace hF := hF.tu hF9 (by decide)
    have e_25 : aF σ_s_24 (ad E a 1) = f1 := (hM9.a (by decide) (by decide)).trans e_2
    have e_26 : aF σ_s_24 (ad E a 37) = f37 := (hM9.a (by decide) (by decide)).trans e_3
    have e_27 : aF σ_s_24 (ad E a 61) = f61 := (hM9.a (by decide) (by decide)).trans e_4
    have e_28 : aF σ_s_24 (ad E a 62) = f62 := (hM9.a (by decide) (by decide)).trans e_5
    have e_29 : aF σ_s_24 (ad E a 39) = f39 := (hM9.a (by decide) (by decide)).trans e_6
    have e_30 : aF σ_s_24 (ad E a 40) = f40 := (hM9.a (by decide) (by decide)).trans e_7
    have e_31 : aF σ_s_24 (ad E a 42) = f42 := (hM9.a (by decide) (by decide)).trans e_8
    have e_32 : aF σ_s_24 (ad E a 43) = f43 := (hM9.a (by decide) (by decide)).trans e_9
    have e_33 : aF σ_s_24 (ad E a 44) = f44 := (hM9.a (by decide) (by decide)).trans e_10
    have e_34 : aF σ_s_24 (ad E a 45) = f45 := (hM9.a (by decide) (by decide)).trans e_11
    have e_35 : aF σ_s_24 (ad E a 46) = f46 := (hM9.a (by decide) (by decide)).trans e_12
    have e_36 : aF σ_s_24 (ad E a 41) = f41 := (hM9.a (by decide) (by decide)).trans e_14
    have e_37 : gI σ_s_24 a 36 = a360 := (hM9.i (by decide)).trans e_15
    have e_38 : gI σ_s_24 a 58 = a580 := (hM9.i (by decide)).trans e_16
    have e_39 : gI σ_s_24 a 59 = a590 := (hM9.i (by decide)).trans e_17
    have e_40 : gI σ_s_24 a 12 = a120 := (hM9.i (by decide)).trans e_18
    have e_41 : gI σ_s_24 a 0 = 0 := (hM9.i (by decide)).trans e_19
    replace hO := hO9
    generalize ef_43 : aF σ_s_24 (ad E a 3) = g_42 at hw_23
    have hw_23 : same f1 g_42 0 (mS f1 0) 0 ∧ gI σ_s_24 a 5 = mS f1 0 := hw_23
    refine lv_iconst (v := I 1) hx hb dX11_apply_26 (by decide) ?_
    refine lv_istore_n (lv' := [(3, .int (I 1)), (2, .int (I z_20)), (0, .ref a), (1, .int (I tu))]) hx hb dX11_apply_27 rfl hl (by decide) rfl (fun ls hl => ?_)
    refine lv_iconst (v := I 0) hx hb dX11_apply_28 (by decide) ?_
    refine lv_istore (lv' := [(4, .int (I 0)), (3, .int (I 1)), (2, .int (I z_20)), (0, .ref a), (1, .int (I tu))]) hx hb dX11_apply_29 hl (by decide) rfl (fun ls hl => ?_)
    refine th_loop (α := Int × Int × (Nat → Int32)) (pc := 31) (fun x9 => (z_20 - x9.2.1).toNat) (fun x9 σ9 H9 l9 ls9 => ok y E σ9 ∧ fr [13] E σ σ9 ∧ fm [0, 1, 3, 4, 5, 31, 36, 37] E σ σ9 a ∧ th_H G b0 σ9 H9 ∧ va_S (th_A b0) s.heap H9 l9 ∧ lv_has ls9 5 [(0, .ref a), (1, .int (I tu)), (2, .int (I z_20)), (3, .int (I x9.1)), (4, .int (I x9.2.1))] ∧ rng x9.1 ∧ rng x9.2.1 ∧ (0 ≤ x9.2.1) ∧ (x9.2.1 ≤ z_20) ∧ (0 ≤ x9.1) ∧ (x9.1 ≤ 1) ∧ (1 ≤ gI σ9 a 5) ∧ (ap f42 f43 f44 tu z_20 x9.2.1 (gI σ9 a 5)) ∧ (mT x9.2.2 0 (gI σ9 a 5) ∧ mS x9.2.2 0 = gI σ9 a 5) ∧ (gI σ9 a 36 = a360) ∧ (gI σ9 a 58 = a580) ∧ (gI σ9 a 59 = a590) ∧ (gI σ9 a 12 = a120) ∧ (gI σ9 a 0 = 0) ∧ (aF σ9 (ad E a 1) = f1) ∧ (aF σ9 (ad E a 37) = f37) ∧ (aF σ9 (ad E a 61) = f61) ∧ (aF σ9 (ad E a 62) = f62) ∧ (aF σ9 (ad E a 39) = f39) ∧ (aF σ9 (ad E a 40) = f40) ∧ (aF σ9 (ad E a 42) = f42) ∧ (aF σ9 (ad E a 43) = f43) ∧ (aF σ9 (ad E a 44) = f44) ∧ (aF σ9 (ad E a 45) = f45) ∧ (aF σ9 (ad E a 46) = f46) ∧ (aF σ9 (ad E a 41) = f41) ∧ (aF σ9 (ad E a 3) = x9.2.2)) ?_ (1, 0, g_42) σ_s_24 _ _ _ ⟨hO, hF, hM, hH, hS, lv_sub hl [3, 4, 2, 1, 0] rfl, (show rng 1 from ⟨by decide, by decide⟩), (show rng 0 from ⟨by decide, by decide⟩), by first | (dsimp only; omega) | omega, by first | (dsimp only; omega) | omega, by first | (dsimp only; omega) | omega, by first | (dsimp only; omega) | omega, by first | (dsimp only; omega) | omega, (ap.zero (by omega)), ⟨by rw [show gI σ_s_24 a 5 = mS f1 0 by omega]; exact hj.1.1.to hw_23.1, by rw [(hw_23.1.all (Int.le_refl 0) (by omega)).1]; omega⟩, e_37, e_38, e_39, e_40, e_41, e_25, e_26, e_27, e_28, e_29, e_30, e_31, e_32, e_33, e_34, e_35, e_36, ef_43⟩
    intro x9 σ_J_152 H locs ls hI9 ihJ_152
    obtain ⟨v3q151, v4q151, F3q150⟩ := x9
    obtain ⟨hO, hF, hM, hH, hS, hl, rv3q151, rv4q151, J_152_0, J_152_1, J_152_2, J_152_3, J_152_4, J_152_5, J_152_6, J_152_7, J_152_8, J_152_9, J_152_10, J_152_11, J_152_12, J_152_13, J_152_14, J_152_15, J_152_16, J_152_17, J_152_18, J_152_19, J_152_20, J_152_21, J_152_22, J_152_23, J_152_24⟩ := hI9
    have hl : lv_has ls 5 [(0, .ref a), (1, .int (I tu)), (2, .int (I z_20)), (3, .int (I v3q151)), (4, .int (I v4q151))] := hl
    have rv3q151 : rng v3q151 := rv3q151
    have rv4q151 : rng v4q151 := rv4q151
    have J_152_0 : 0 ≤ v4q151 := J_152_0
    have J_152_1 : v4q151 ≤ z_20 := J_152_1
    have J_152_2 : 0 ≤ v3q151 := J_152_2
    have J_152_3 : v3q151 ≤ 1 := J_152_3
    have J_152_4 : 1 ≤ gI σ_J_152 a 5 := J_152_4
    have J_152_5 : ap f42 f43 f44 tu z_20 v4q151 (gI σ_J_152 a 5) := J_152_5
    have J_152_6 : mT F3q150 0 (gI σ_J_152 a 5) ∧ mS F3q150 0 = gI σ_J_152 a 5 := J_152_6
    have J_152_7 : gI σ_J_152 a 36 = a360 := J_152_7
    have J_152_8 : gI σ_J_152 a 58 = a580 := J_152_8
    have J_152_9 : gI σ_J_152 a 59 = a590 := J_152_9
    have J_152_10 : gI σ_J_152 a 12 = a120 := J_152_10
    have J_152_11 : gI σ_J_152 a 0 = 0 := J_152_11
    have J_152_12 : aF σ_J_152 (ad E a 1) = f1 := J_152_12
    have J_152_13 : aF σ_J_152 (ad E a 37) = f37 := J_152_13
    have J_152_14 : aF σ_J_152 (ad E a 61) = f61 := J_152_14
    have J_152_15 : aF σ_J_152 (ad E a 62) = f62 := J_152_15
    have J_152_16 : aF σ_J_152 (ad E a 39) = f39 := J_152_16
    have J_152_17 : aF σ_J_152 (ad E a 40) = f40 := J_152_17
    have J_152_18 : aF σ_J_152 (ad E a 42) = f42 := J_152_18
    have J_152_19 : aF σ_J_152 (ad E a 43) = f43 := J_152_19
    have J_152_20 : aF σ_J_152 (ad E a 44) = f44 := J_152_20
    have J_152_21 : aF σ_J_152 (ad E a 45) = f45 := J_152_21
    have J_152_22 : aF σ_J_152 (ad E a 46) = f46 := J_152_22
    have J_152_23 : aF σ_J_152 (ad E a 41) = f41 := J_152_23
    have J_152_24 : aF σ_J_152 (ad E a 3) = F3q150 := J_152_24
    refine lv_iload hx hb dX11_apply_31 (lv_at hl 4 rfl) ?_
    refine lv_iload_n hx hb dX11_apply_33 rfl (lv_at hl 2 rfl) ?_
    refine lv_icmp_ge (tgt := 72) hx hb dX11_apply_34 (by decide) (fun c_153 => ?_) (fun c_153 => ?_)
    · replace c_153 := (I_le (a := z_20) (b := v4q151) rz_20 rv4q151).mp c_153
      refine lv_iload_n hx hb dX11_apply_72 rfl (lv_at hl 3 rfl) ?_
      refine lv_if_eq (tgt := 87) hx hb dX11_apply_73 (by decide) (fun c_154 => ?_) (fun c_154 => ?_)
      · replace c_154 := (I_eq (a := v3q151) (b := 0) rv3q151 (show rng 0 from ⟨by decide, by decide⟩)).mp c_154
        refine lv_aload_n hx hb dX11_apply_87 rfl (lv_at hl 0 rfl) ?_
        refine lv_iconst (v := I 1) hx hb dX11_apply_88 (by decide) ?_
        obtain ⟨_, hc_155⟩ := hO.cell h_a (by decide) (ci := 11) rfl
        refine th_calli (va_runV (As := [.int (I 1)]) (rest := []) ⟨hx, hb, hml, hown, hts⟩ (m_refuse l G y b0 σ_J_152 E hO a h_a 1 (show rng 1 from (show rng 1 from ⟨by decide, by decide⟩)) (by omega) (by omega)) (cwV 1 hts gX11_apply_X11_refuse rfl rfl rfl (by decide +kernel) ⟨Nat.le_of_ble_eq_true rfl, Nat.le_of_ble_eq_true rfl⟩) (th_PV hK hH rfl hc_155) rfl rfl hl.1 rfl (lv_room (Nat.le_of_ble_eq_true rfl)) dX11_apply_89 ⟨Nat.le_of_ble_eq_true rfl, Nat.le_of_ble_eq_true rfl⟩) hS (fun z_158 σ_s_157 H locs rz_158 hw_156 hH hS => ?_)
        obtain ⟨hO9, hF9, hM9, hw_156⟩ := hw_156
        replace hM := hM.tu hM9 (by decide)
        replace hF := hF.tu hF9 (by decide)
        have e_159 : gI σ_s_157 a 36 = a360 := (hM9.i (by decide)).trans J_152_7
        have e_160 : gI σ_s_157 a 58 = a580 := (hM9.i (by decide)).trans J_152_8
        have e_161 : gI σ_s_157 a 59 = a590 := (hM9.i (by decide)).trans J_152_9
        have e_162 : gI σ_s_157 a 12 = a120 := (hM9.i (by decide)).trans J_152_10
        have e_163 : gI σ_s_157 a 0 = 0 := (hM9.i (by decide)).trans J_152_11
        have e_164 : aF σ_s_157 (ad E a 1) = f1 := (hM9.a (by decide) (by decide)).trans J_152_12
        have e_165 : aF σ_s_157 (ad E a 37) = f37 := (hM9.a (by decide) (by decide)).trans J_152_13
        have e_166 : aF σ_s_157 (ad E a 61) = f61 := (hM9.a (by decide) (by decide)).trans J_152_14
        have e_167 : aF σ_s_157 (ad E a 62) = f62 := (hM9.a (by decide) (by decide)).trans J_152_15
        have e_168 : aF σ_s_157 (ad E a 39) = f39 := (hM9.a (by decide) (by decide)).trans J_152_16
        have e_169 : aF σ_s_157 (ad E a 40) = f40 := (hM9.a (by decide) (by decide)).trans J_152_17
        have e_170 : aF σ_s_157 (ad E a 42) = f42 := (hM9.a (by decide) (by decide)).trans J_152_18
        have e_171 : aF σ_s_157 (ad E a 43) = f43 := (hM9.a (by decide) (by decide)).trans J_152_19
        have e_172 : aF σ_s_157 (ad E a 44) = f44 := (hM9.a (by decide) (by decide)).trans J_152_20
        have e_173 : aF σ_s_157 (ad E a 45) = f45 := (hM9.a (by decide) (by decide)).trans J_152_21
        have e_174 : aF σ_s_157 (ad E a 46) = f46 := (hM9.a (by decide) (by decide)).trans J_152_22
        have e_175 : aF σ_s_157 (ad E a 41) = f41 := (hM9.a (by decide) (by decide)).trans J_152_23
        have e_176 : aF σ_s_157 (ad E a 3) = F3q150 := (hM9.a (by decide) (by decide)).trans J_152_24
        replace hO := hO9
        have hw_156 : z_158 = -1 := hw_156
        exact th_iret hx hb hr hlocks hH hS (z := z_158) rz_158 ⟨hO, hF, hM, by rw [show aF σ_s_157 (ad E a 1) = f1 from e_164, show aF σ_s_157 (ad E a 37) = f37 from e_165, show aF σ_s_157 (ad E a 61) = f61 from e_166, show aF σ_s_157 (ad E a 62) = f62 from e_167, show aF σ_s_157 (ad E a 39) = f39 from e_168, show aF σ_s_157 (ad E a 40) = f40 from e_169, show aF σ_s_157 (ad E a 42) = f42 from e_170, show aF σ_s_157 (ad E a 43) = f43 from e_171, show aF σ_s_157 (ad E a 44) = f44 from e_172, show aF σ_s_157 (ad E a 45) = f45 from e_173, show aF σ_s_157 (ad E a 46) = f46 from e_174]; exact ⟨hj.n (by omega) (by omega) (by omega), by omega⟩⟩ dX11_apply_92
      · replace c_154 := mt (I_eq (a := v3q151) (b := 0) rv3q151 (show rng 0 from ⟨by decide, by decide⟩)).mpr c_154
        have hq9 := J_152_6.2
        refine lv_aload_n hx hb dX11_apply_76 rfl (lv_at hl 0 rfl) ?_
        obtain ⟨_, hc_177⟩ := hO.cell h_a (by decide) (ci := 11) rfl
        refine th_calli (va_runV (As := []) (rest := []) ⟨hx, hb, hml, hown, hts⟩ (m_becomesTree l G y b0 σ_J_152 E hO a h_a f1 J_152_12 F3q150 J_152_24 f37 J_152_13 (hj.1) ((hj.2.1.le (by omega))) ((by exact J_152_6.1)) (by omega) (by omega)) (cwV 0 hts gX11_apply_X11_becomesTree rfl rfl rfl (by decide +kernel) ⟨Nat.le_of_ble_eq_true rfl, Nat.le_of_ble_eq_true rfl⟩) (th_PV hK hH rfl hc_177) rfl rfl hl.1 rfl (lv_room (Nat.le_of_ble_eq_true rfl)) dX11_apply_77 ⟨Nat.le_of_ble_eq_true rfl, Nat.le_of_ble_eq_true rfl⟩) hS (fun z_180 σ_s_179 H locs rz_180 hw_178 hH hS => ?_)
        obtain ⟨hO9, hF9, hM9, bhw_178, hw_178⟩ := hw_178
        replace hM := hM.tu hM9 (by decide)
        replace hF := hF.tu hF9 (by decide)
        have e_181 : gI σ_s_179 a 58 = a580 := (hM9.i (by decide)).trans J_152_8
        have e_182 : gI σ_s_179 a 59 = a590 := (hM9.i (by decide)).trans J_152_9
        have e_183 : gI σ_s_179 a 12 = a120 := (hM9.i (by decide)).trans J_152_10
        have e_184 : gI σ_s_179 a 0 = 0 := (hM9.i (by decide)).trans J_152_11
        have e_185 : aF σ_s_179 (ad E a 61) = f61 := (hM9.a (by decide) (by decide)).trans J_152_14
        have e_186 : aF σ_s_179 (ad E a 62) = f62 := (hM9.a (by decide) (by decide)).trans J_152_15
        have e_187 : aF σ_s_179 (ad E a 39) = f39 := (hM9.a (by decide) (by decide)).trans J_152_16
        have e_188 : aF σ_s_179 (ad E a 40) = f40 := (hM9.a (by decide) (by decide)).trans J_152_17
        have e_189 : aF σ_s_179 (ad E a 42) = f42 := (hM9.a (by decide) (by decide)).trans J_152_18
        have e_190 : aF σ_s_179 (ad E a 43) = f43 := (hM9.a (by decide) (by decide)).trans J_152_19
        have e_191 : aF σ_s_179 (ad E a 44) = f44 := (hM9.a (by decide) (by decide)).trans J_152_20
        have e_192 : aF σ_s_179 (ad E a 45) = f45 := (hM9.a (by decide) (by decide)).trans J_152_21
        have e_193 : aF σ_s_179 (ad E a 46) = f46 := (hM9.a (by decide) (by decide)).trans J_152_22
        have e_194 : aF σ_s_179 (ad E a 41) = f41 := (hM9.a (by decide) (by decide)).trans J_152_23
        have e_195 : aF σ_s_179 (ad E a 3) = F3q150 := (hM9.a (by decide) (by decide)).trans J_152_24
        replace hO := hO9
        generalize ef_197 : aF σ_s_179 (ad E a 1) = g_196 at hw_178
        generalize ef_199 : aF σ_s_179 (ad E a 37) = g_198 at hw_178
        have hw_178 : tr g_196 ∧ trs g_198 (gI σ_s_179 a 36) := hw_178
        refine lv_if_eq (tgt := 87) hx hb dX11_apply_80 (by decide) (fun c_200 => ?_) (fun c_200 => ?_)
        · replace c_200 := (I_eq (a := z_180) (b := 0) rz_180 (show rng 0 from ⟨by decide, by decide⟩)).mp c_200
          refine lv_aload_n hx hb dX11_apply_87 rfl (lv_at hl 0 rfl) ?_
          refine lv_iconst (v := I 1) hx hb dX11_apply_88 (by decide) ?_
          obtain ⟨z_201, e_202, rz_201, lz_201, uz_201⟩ := hO.gi h_a (by decide) k13_36
          obtain ⟨_, hc_203⟩ := hO.cell h_a (by decide) (ci := 11) rfl
          refine th_calli (va_runV (As := [.int (I 1)]) (rest := []) ⟨hx, hb, hml, hown, hts⟩ (m_refuse l G y b0 σ_s_179 E hO a h_a 1 (show rng 1 from (show rng 1 from ⟨by decide, by decide⟩)) (by omega) (by omega)) (cwV 1 hts gX11_apply_X11_refuse rfl rfl rfl (by decide +kernel) ⟨Nat.le_of_ble_eq_true rfl, Nat.le_of_ble_eq_true rfl⟩) (th_PV hK hH rfl hc_203) rfl rfl hl.1 rfl (lv_room (Nat.le_of_ble_eq_true rfl)) dX11_apply_89 ⟨Nat.le_of_ble_eq_true rfl, Nat.le_of_ble_eq_true rfl⟩) hS (fun z_206 σ_s_205 H locs rz_206 hw_204 hH hS => ?_)
          obtain ⟨hO9, hF9, hM9, hw_204⟩ := hw_204
          replace hM := hM.tu hM9 (by decide)
          replace hF := hF.tu hF9 (by decide)
          have e_207 : gI σ_s_205 a 58 = a580 := (hM9.i (by decide)).trans e_181
          have e_208 : gI σ_s_205 a 59 = a590 := (hM9.i (by decide)).trans e_182
          have e_209 : gI σ_s_205 a 12 = a120 := (hM9.i (by decide)).trans e_183
          have e_210 : gI σ_s_205 a 0 = 0 := (hM9.i (by decide)).trans e_184
          have e_211 : aF σ_s_205 (ad E a 61) = f61 := (hM9.a (by decide) (by decide)).trans e_185
          have e_212 : aF σ_s_205 (ad E a 62) = f62 := (hM9.a (by decide) (by decide)).trans e_186
          have e_213 : aF σ_s_205 (ad E a 39) = f39 := (hM9.a (by decide) (by decide)).trans e_187
          have e_214 : aF σ_s_205 (ad E a 40) = f40 := (hM9.a (by decide) (by decide)).trans e_188
          have e_215 : aF σ_s_205 (ad E a 42) = f42 := (hM9.a (by decide) (by decide)).trans e_189
          have e_216 : aF σ_s_205 (ad E a 43) = f43 := (hM9.a (by decide) (by decide)).trans e_190
          have e_217 : aF σ_s_205 (ad E a 44) = f44 := (hM9.a (by decide) (by decide)).trans e_191
          have e_218 : aF σ_s_205 (ad E a 45) = f45 := (hM9.a (by decide) (by decide)).trans e_192
          have e_219 : aF σ_s_205 (ad E a 46) = f46 := (hM9.a (by decide) (by decide)).trans e_193
          have e_220 : aF σ_s_205 (ad E a 41) = f41 := (hM9.a (by decide) (by decide)).trans e_194
          have e_221 : aF σ_s_205 (ad E a 3) = F3q150 := (hM9.a (by decide) (by decide)).trans e_195
          have e_222 : aF σ_s_205 (ad E a 1) = g_196 := (hM9.a (by decide) (by decide)).trans ef_197
          have e_223 : aF σ_s_205 (ad E a 37) = g_198 := (hM9.a (by decide) (by decide)).trans ef_199
          have e_224 : gI σ_s_205 a 36 = z_201 := (hM9.i (by decide)).trans e_202
          replace hO := hO9
          have hw_204 : z_206 = -1 := hw_204
          exact th_iret hx hb hr hlocks hH hS (z := z_206) rz_206 ⟨hO, hF, hM, by rw [show aF σ_s_205 (ad E a 1) = g_196 from e_222, show aF σ_s_205 (ad E a 37) = g_198 from e_223, show aF σ_s_205 (ad E a 61) = f61 from e_211, show aF σ_s_205 (ad E a 62) = f62 from e_212, show aF σ_s_205 (ad E a 39) = f39 from e_213, show aF σ_s_205 (ad E a 40) = f40 from e_214, show aF σ_s_205 (ad E a 42) = f42 from e_215, show aF σ_s_205 (ad E a 43) = f43 from e_216, show aF σ_s_205 (ad E a 44) = f44 from e_217, show aF σ_s_205 (ad E a 45) = f45 from e_218, show aF σ_s_205 (ad E a 46) = f46 from e_219]; exact ⟨hj.tree hw_178.1 (hw_178.2.le (by omega)) (by omega) (by omega), by omega⟩⟩ dX11_apply_92
        · replace c_200 := mt (I_eq (a := z_180) (b := 0) rz_180 (show rng 0 from ⟨by decide, by decide⟩)).mpr c_200
          refine lv_iload_n hx hb dX11_apply_83 rfl (lv_at hl 2 rfl) ?_
          refine lv_goto (tgt := 92) hx hb dX11_apply_84 (by decide) ?_
          exact th_iret hx hb hr hlocks hH hS (z := z_20) rz_20 ⟨hO, hF, hM, by rw [show aF σ_s_179 (ad E a 1) = g_196 from ef_197, show aF σ_s_179 (ad E a 37) = g_198 from ef_199, show aF σ_s_179 (ad E a 61) = f61 from e_185, show aF σ_s_179 (ad E a 62) = f62 from e_186, show aF σ_s_179 (ad E a 39) = f39 from e_187, show aF σ_s_179 (ad E a 40) = f40 from e_188, show aF σ_s_179 (ad E a 42) = f42 from e_189, show aF σ_s_179 (ad E a 43) = f43 from e_190, show aF σ_s_179 (ad E a 44) = f44 from e_191, show aF σ_s_179 (ad E a 45) = f45 from e_192, show aF σ_s_179 (ad E a 46) = f46 from e_193]; exact ⟨hj.tree hw_178.1 (hw_178.2.le (by omega)) (by omega) (by omega), by omega⟩⟩ dX11_apply_92
    · replace c_153 := mt (I_le (a := z_20) (b := v4q151) rz_20 rv4q151).mpr c_153
      refine lv_iload_n hx hb dX11_apply_37 rfl (lv_at hl 3 rfl) ?_
      refine lv_if_eq (tgt := 72) hx hb dX11_apply_38 (by decide) (fun c_225 => ?_) (fun c_225 => ?_)
      · replace c_225 := (I_eq (a := v3q151) (b := 0) rv3q151 (show rng 0 from ⟨by decide, by decide⟩)).mp c_225
        refine lv_iload_n hx hb dX11_apply_72 rfl (lv_at hl 3 rfl) ?_
        refine lv_if_eq (tgt := 87) hx hb dX11_apply_73 (by decide) (fun c_226 => ?_) (fun c_226 => ?_)
        · replace c_226 := (I_eq (a := v3q151) (b := 0) rv3q151 (show rng 0 from ⟨by decide, by decide⟩)).mp c_226
          refine lv_aload_n hx hb dX11_apply_87 rfl (lv_at hl 0 rfl) ?_
          refine lv_iconst (v := I 1) hx hb dX11_apply_88 (by decide) ?_
          obtain ⟨_, hc_227⟩ := hO.cell h_a (by decide) (ci := 11) rfl
          refine th_calli (va_runV (As := [.int (I 1)]) (rest := []) ⟨hx, hb, hml, hown, hts⟩ (m_refuse l G y b0 σ_J_152 E hO a h_a 1 (show rng 1 from (show rng 1 from ⟨by decide, by decide⟩)) (by omega) (by omega)) (cwV 1 hts gX11_apply_X11_refuse rfl rfl rfl (by decide +kernel) ⟨Nat.le_of_ble_eq_true rfl, Nat.le_of_ble_eq_true rfl⟩) (th_PV hK hH rfl hc_227) rfl rfl hl.1 rfl (lv_room (Nat.le_of_ble_eq_true rfl)) dX11_apply_89 ⟨Nat.le_of_ble_eq_true rfl, Nat.le_of_ble_eq_true rfl⟩) hS (fun z_230 σ_s_229 H locs rz_230 hw_228 hH hS => ?_)
          obtain ⟨hO9, hF9, hM9, hw_228⟩ := hw_228
          replace hM := hM.tu hM9 (by decide)
          replace hF := hF.tu hF9 (by decide)
          have e_231 : gI σ_s_229 a 36 = a360 := (hM9.i (by decide)).trans J_152_7
          have e_232 : gI σ_s_229 a 58 = a580 := (hM9.i (by decide)).trans J_152_8
          have e_233 : gI σ_s_229 a 59 = a590 := (hM9.i (by decide)).trans J_152_9
          have e_234 : gI σ_s_229 a 12 = a120 := (hM9.i (by decide)).trans J_152_10
          have e_235 : gI σ_s_229 a 0 = 0 := (hM9.i (by decide)).trans J_152_11
          have e_236 : aF σ_s_229 (ad E a 1) = f1 := (hM9.a (by decide) (by decide)).trans J_152_12
          have e_237 : aF σ_s_229 (ad E a 37) = f37 := (hM9.a (by decide) (by decide)).trans J_152_13
          have e_238 : aF σ_s_229 (ad E a 61) = f61 := (hM9.a (by decide) (by decide)).trans J_152_14
          have e_239 : aF σ_s_229 (ad E a 62) = f62 := (hM9.a (by decide) (by decide)).trans J_152_15
          have e_240 : aF σ_s_229 (ad E a 39) = f39 := (hM9.a (by decide) (by decide)).trans J_152_16
          have e_241 : aF σ_s_229 (ad E a 40) = f40 := (hM9.a (by decide) (by decide)).trans J_152_17
          have e_242 : aF σ_s_229 (ad E a 42) = f42 := (hM9.a (by decide) (by decide)).trans J_152_18
          have e_243 : aF σ_s_229 (ad E a 43) = f43 := (hM9.a (by decide) (by decide)).trans J_152_19
          have e_244 : aF σ_s_229 (ad E a 44) = f44 := (hM9.a (by decide) (by decide)).trans J_152_20
          have e_245 : aF σ_s_229 (ad E a 45) = f45 := (hM9.a (by decide) (by decide)).trans J_152_21
          have e_246 : aF σ_s_229 (ad E a 46) = f46 := (hM9.a (by decide) (by decide)).trans J_152_22
          have e_247 : aF σ_s_229 (ad E a 41) = f41 := (hM9.a (by decide) (by decide)).trans J_152_23
          have e_248 : aF σ_s_229 (ad E a 3) = F3q150 := (hM9.a (by decide) (by decide)).trans J_152_24
          replace hO := hO9
          have hw_228 : z_230 = -1 := hw_228
          exact th_iret hx hb hr hlocks hH hS (z := z_230) rz_230 ⟨hO, hF, hM, by rw [show aF σ_s_229 (ad E a 1) = f1 from e_236, show aF σ_s_229 (ad E a 37) = f37 from e_237, show aF σ_s_229 (ad E a 61) = f61 from e_238, show aF σ_s_229 (ad E a 62) = f62 from e_239, show aF σ_s_229 (ad E a 39) = f39 from e_240, show aF σ_s_229 (ad E a 40) = f40 from e_241, show aF σ_s_229 (ad E a 42) = f42 from e_242, show aF σ_s_229 (ad E a 43) = f43 from e_243, show aF σ_s_229 (ad E a 44) = f44 from e_244, show aF σ_s_229 (ad E a 45) = f45 from e_245, show aF σ_s_229 (ad E a 46) = f46 from e_246]; exact ⟨hj.n (by omega) (by omega) (by omega), by omega⟩⟩ dX11_apply_92
        · replace c_226 := mt (I_eq (a := v3q151) (b := 0) rv3q151 (show rng 0 from ⟨by decide, by decide⟩)).mpr c_226
          have hq9 := J_152_6.2
          refine lv_aload_n hx hb dX11_apply_76 rfl (lv_at hl 0 rfl) ?_
          obtain ⟨_, hc_249⟩ := hO.cell h_a (by decide) (ci := 11) rfl
          refine th_calli (va_runV (As := []) (rest := []) ⟨hx, hb, hml, hown, hts⟩ (m_becomesTree l G y b0 σ_J_152 E hO a h_a f1 J_152_12 F3q150 J_152_24 f37 J_152_13 (hj.1) ((hj.2.1.le (by omega))) ((by exact J_152_6.1)) (by omega) (by omega)) (cwV 0 hts gX11_apply_X11_becomesTree rfl rfl rfl (by decide +kernel) ⟨Nat.le_of_ble_eq_true rfl, Nat.le_of_ble_eq_true rfl⟩) (th_PV hK hH rfl hc_249) rfl rfl hl.1 rfl (lv_room (Nat.le_of_ble_eq_true rfl)) dX11_apply_77 ⟨Nat.le_of_ble_eq_true rfl, Nat.le_of_ble_eq_true rfl⟩) hS (fun z_252 σ_s_251 H locs rz_252 hw_250 hH hS => ?_)
          obtain ⟨hO9, hF9, hM9, bhw_250, hw_250⟩ := hw_250
          replace hM := hM.tu hM9 (by decide)
          replace hF := hF.tu hF9 (by decide)
          have e_253 : gI σ_s_251 a 58 = a580 := (hM9.i (by decide)).trans J_152_8
          have e_254 : gI σ_s_251 a 59 = a590 := (hM9.i (by decide)).trans J_152_9
          have e_255 : gI σ_s_251 a 12 = a120 := (hM9.i (by decide)).trans J_152_10
          have e_256 : gI σ_s_251 a 0 = 0 := (hM9.i (by decide)).trans J_152_11
          have e_257 : aF σ_s_251 (ad E a 61) = f61 := (hM9.a (by decide) (by decide)).trans J_152_14
          have e_258 : aF σ_s_251 (ad E a 62) = f62 := (hM9.a (by decide) (by decide)).trans J_152_15
          have e_259 : aF σ_s_251 (ad E a 39) = f39 := (hM9.a (by decide) (by decide)).trans J_152_16
          have e_260 : aF σ_s_251 (ad E a 40) = f40 := (hM9.a (by decide) (by decide)).trans J_152_17
          have e_261 : aF σ_s_251 (ad E a 42) = f42 := (hM9.a (by decide) (by decide)).trans J_152_18
          have e_262 : aF σ_s_251 (ad E a 43) = f43 := (hM9.a (by decide) (by decide)).trans J_152_19
          have e_263 : aF σ_s_251 (ad E a 44) = f44 := (hM9.a (by decide) (by decide)).trans J_152_20
          have e_264 : aF σ_s_251 (ad E a 45) = f45 := (hM9.a (by decide) (by decide)).trans J_152_21
          have e_265 : aF σ_s_251 (ad E a 46) = f46 := (hM9.a (by decide) (by decide)).trans J_152_22
          have e_266 : aF σ_s_251 (ad E a 41) = f41 := (hM9.a (by decide) (by decide)).trans J_152_23
          have e_267 : aF σ_s_251 (ad E a 3) = F3q150 := (hM9.a (by decide) (by decide)).trans J_152_24
          replace hO := hO9
          generalize ef_269 : aF σ_s_251 (ad E a 1) = g_268 at hw_250
          generalize ef_271 : aF σ_s_251 (ad E a 37) = g_270 at hw_250
          have hw_250 : tr g_268 ∧ trs g_270 (gI σ_s_251 a 36) := hw_250
          refine lv_if_eq (tgt := 87) hx hb dX11_apply_80 (by decide) (fun c_272 => ?_) (fun c_272 => ?_)
          · replace c_272 := (I_eq (a := z_252) (b := 0) rz_252 (show rng 0 from ⟨by decide, by decide⟩)).mp c_272
            refine lv_aload_n hx hb dX11_apply_87 rfl (lv_at hl 0 rfl) ?_
            refine lv_iconst (v := I 1) hx hb dX11_apply_88 (by decide) ?_
            obtain ⟨z_273, e_274, rz_273, lz_273, uz_273⟩ := hO.gi h_a (by decide) k13_36
            obtain ⟨_, hc_275⟩ := hO.cell h_a (by decide) (ci := 11) rfl
            refine th_calli (va_runV (As := [.int (I 1)]) (rest := []) ⟨hx, hb, hml, hown, hts⟩ (m_refuse l G y b0 σ_s_251 E hO a h_a 1 (show rng 1 from (show rng 1 from ⟨by decide, by decide⟩)) (by omega) (by omega)) (cwV 1 hts gX11_apply_X11_refuse rfl rfl rfl (by decide +kernel) ⟨Nat.le_of_ble_eq_true rfl, Nat.le_of_ble_eq_true rfl⟩) (th_PV hK hH rfl hc_275) rfl rfl hl.1 rfl (lv_room (Nat.le_of_ble_eq_true rfl)) dX11_apply_89 ⟨Nat.le_of_ble_eq_true rfl, Nat.le_of_ble_eq_true rfl⟩) hS (fun z_278 σ_s_277 H locs rz_278 hw_276 hH hS => ?_)
            obtain ⟨hO9, hF9, hM9, hw_276⟩ := hw_276
            replace hM := hM.tu hM9 (by decide)
            replace hF := hF.tu hF9 (by decide)
            have e_279 : gI σ_s_277 a 58 = a580 := (hM9.i (by decide)).trans e_253
            have e_280 : gI σ_s_277 a 59 = a590 := (hM9.i (by decide)).trans e_254
            have e_281 : gI σ_s_277 a 12 = a120 := (hM9.i (by decide)).trans e_255
            have e_282 : gI σ_s_277 a 0 = 0 := (hM9.i (by decide)).trans e_256
            have e_283 : aF σ_s_277 (ad E a 61) = f61 := (hM9.a (by decide) (by decide)).trans e_257
            have e_284 : aF σ_s_277 (ad E a 62) = f62 := (hM9.a (by decide) (by decide)).trans e_258
            have e_285 : aF σ_s_277 (ad E a 39) = f39 := (hM9.a (by decide) (by decide)).trans e_259
            have e_286 : aF σ_s_277 (ad E a 40) = f40 := (hM9.a (by decide) (by decide)).trans e_260
            have e_287 : aF σ_s_277 (ad E a 42) = f42 := (hM9.a (by decide) (by decide)).trans e_261
            have e_288 : aF σ_s_277 (ad E a 43) = f43 := (hM9.a (by decide) (by decide)).trans e_262
            have e_289 : aF σ_s_277 (ad E a 44) = f44 := (hM9.a (by decide) (by decide)).trans e_263
            have e_290 : aF σ_s_277 (ad E a 45) = f45 := (hM9.a (by decide) (by decide)).trans e_264
            have e_291 : aF σ_s_277 (ad E a 46) = f46 := (hM9.a (by decide) (by decide)).trans e_265
            have e_292 : aF σ_s_277 (ad E a 41) = f41 := (hM9.a (by decide) (by decide)).trans e_266
            have e_293 : aF σ_s_277 (ad E a 3) = F3q150 := (hM9.a (by decide) (by decide)).trans e_267
            have e_294 : aF σ_s_277 (ad E a 1) = g_268 := (hM9.a (by decide) (by decide)).trans ef_269
            have e_295 : aF σ_s_277 (ad E a 37) = g_270 := (hM9.a (by decide) (by decide)).trans ef_271
            have e_296 : gI σ_s_277 a 36 = z_273 := (hM9.i (by decide)).trans e_274
            replace hO := hO9
            have hw_276 : z_278 = -1 := hw_276
            exact th_iret hx hb hr hlocks hH hS (z := z_278) rz_278 ⟨hO, hF, hM, by rw [show aF σ_s_277 (ad E a 1) = g_268 from e_294, show aF σ_s_277 (ad E a 37) = g_270 from e_295, show aF σ_s_277 (ad E a 61) = f61 from e_283, show aF σ_s_277 (ad E a 62) = f62 from e_284, show aF σ_s_277 (ad E a 39) = f39 from e_285, show aF σ_s_277 (ad E a 40) = f40 from e_286, show aF σ_s_277 (ad E a 42) = f42 from e_287, show aF σ_s_277 (ad E a 43) = f43 from e_288, show aF σ_s_277 (ad E a 44) = f44 from e_289, show aF σ_s_277 (ad E a 45) = f45 from e_290, show aF σ_s_277 (ad E a 46) = f46 from e_291]; exact ⟨hj.tree hw_250.1 (hw_250.2.le (by omega)) (by omega) (by omega), by omega⟩⟩ dX11_apply_92
          · replace c_272 := mt (I_eq (a := z_252) (b := 0) rz_252 (show rng 0 from ⟨by decide, by decide⟩)).mpr c_272
            refine lv_iload_n hx hb dX11_apply_83 rfl (lv_at hl 2 rfl) ?_
            refine lv_goto (tgt := 92) hx hb dX11_apply_84 (by decide) ?_
            exact th_iret hx hb hr hlocks hH hS (z := z_20) rz_20 ⟨hO, hF, hM, by rw [show aF σ_s_251 (ad E a 1) = g_268 from ef_269, show aF σ_s_251 (ad E a 37) = g_270 from ef_271, show aF σ_s_251 (ad E a 61) = f61 from e_257, show aF σ_s_251 (ad E a 62) = f62 from e_258, show aF σ_s_251 (ad E a 39) = f39 from e_259, show aF σ_s_251 (ad E a 40) = f40 from e_260, show aF σ_s_251 (ad E a 42) = f42 from e_261, show aF σ_s_251 (ad E a 43) = f43 from e_262, show aF σ_s_251 (ad E a 44) = f44 from e_263, show aF σ_s_251 (ad E a 45) = f45 from e_264, show aF σ_s_251 (ad E a 46) = f46 from e_265]; exact ⟨hj.tree hw_250.1 (hw_250.2.le (by omega)) (by omega) (by omega), by omega⟩⟩ dX11_apply_92
      · replace c_225 := mt (I_eq (a := v3q151) (b := 0) rv3q151 (show rng 0 from ⟨by decide, by decide⟩)).mpr c_225
        refine lv_aload_n hx hb dX11_apply_41 rfl (lv_at hl 0 rfl) ?_
        refine lv_sipush (v := I 130) hx hb dX11_apply_42 (by decide) ?_
        refine lv_iload_n hx hb dX11_apply_45 rfl (lv_at hl 1 rfl) ?_
        refine lv_if_eq (tgt := 58) hx hb dX11_apply_46 (by decide) (fun c_297 => ?_) (fun c_297 => ?_)
        · replace c_297 := (I_eq (a := tu) (b := 0) rtu (show rng 0 from ⟨by decide, by decide⟩)).mp c_297
          refine lv_iload hx hb dX11_apply_58 (lv_at hl 4 rfl) ?_
          have hrw := hj.2.2.2.row (j := v4q151) (by omega) (by omega)
          have hrm := J_152_5.room hj.2.2.2 (by omega) (by omega) (by omega) (by omega)
          have hwt := (hj.2.2.2.wts (j := v4q151) (n := z_20) (by omega) (by omega) (by omega)).2
          refine lv_iadd hx hb dX11_apply_60 ?_
          refine nq_top (I_add _ _) ?_
          refine lv_iload_n hx hb dX11_apply_61 rfl (lv_at hl 1 rfl) ?_
          obtain ⟨_, hc_298⟩ := hO.cell h_a (by decide) (ci := 11) rfl
          refine th_calli (va_runV (As := [.int (I (130 + v4q151)), .int (I tu)]) (rest := []) ⟨hx, hb, hml, hown, hts⟩ (m_lays l G y b0 σ_J_152 E hO a h_a (130 + v4q151) (show rng (130 + v4q151) from ⟨by omega, by omega⟩) (by omega) (by omega) tu (show rng tu from rtu) (by omega) (by omega) F3q150 J_152_24 f39 J_152_16 f40 J_152_17 f41 J_152_23 f42 J_152_18 f43 J_152_19 f44 J_152_20 ((by exact J_152_6.1)) (by omega) (by omega) (hrw) (by omega)) (cwV 2 hts gX11_apply_X11_lays rfl rfl rfl (by decide +kernel) ⟨Nat.le_of_ble_eq_true rfl, Nat.le_of_ble_eq_true rfl⟩) (th_PV hK hH rfl hc_298) rfl rfl hl.1 rfl (lv_room (Nat.le_of_ble_eq_true rfl)) dX11_apply_62 ⟨Nat.le_of_ble_eq_true rfl, Nat.le_of_ble_eq_true rfl⟩) hS (fun z_301 σ_s_300 H locs rz_301 hw_299 hH hS => ?_)
          obtain ⟨hO9, hF9, hM9, bhw_299, hw_299⟩ := hw_299
          replace hM := hM.tu hM9 (by decide)
          replace hF := hF.tu hF9 (by decide)
          have e_302 : gI σ_s_300 a 36 = a360 := (hM9.i (by decide)).trans J_152_7
          have e_303 : gI σ_s_300 a 58 = a580 := (hM9.i (by decide)).trans J_152_8
          have e_304 : gI σ_s_300 a 59 = a590 := (hM9.i (by decide)).trans J_152_9
          have e_305 : gI σ_s_300 a 12 = a120 := (hM9.i (by decide)).trans J_152_10
          have e_306 : gI σ_s_300 a 0 = 0 := (hM9.i (by decide)).trans J_152_11
          have e_307 : aF σ_s_300 (ad E a 1) = f1 := (hM9.a (by decide) (by decide)).trans J_152_12
          have e_308 : aF σ_s_300 (ad E a 37) = f37 := (hM9.a (by decide) (by decide)).trans J_152_13
          have e_309 : aF σ_s_300 (ad E a 61) = f61 := (hM9.a (by decide) (by decide)).trans J_152_14
          have e_310 : aF σ_s_300 (ad E a 62) = f62 := (hM9.a (by decide) (by decide)).trans J_152_15
          have e_311 : aF σ_s_300 (ad E a 39) = f39 := (hM9.a (by decide) (by decide)).trans J_152_16
          have e_312 : aF σ_s_300 (ad E a 40) = f40 := (hM9.a (by decide) (by decide)).trans J_152_17
          have e_313 : aF σ_s_300 (ad E a 42) = f42 := (hM9.a (by decide) (by decide)).trans J_152_18
          have e_314 : aF σ_s_300 (ad E a 43) = f43 := (hM9.a (by decide) (by decide)).trans J_152_19
          have e_315 : aF σ_s_300 (ad E a 44) = f44 := (hM9.a (by decide) (by decide)).trans J_152_20
          have e_316 : aF σ_s_300 (ad E a 45) = f45 := (hM9.a (by decide) (by decide)).trans J_152_21
          have e_317 : aF σ_s_300 (ad E a 46) = f46 := (hM9.a (by decide) (by decide)).trans J_152_22
          have e_318 : aF σ_s_300 (ad E a 41) = f41 := (hM9.a (by decide) (by decide)).trans J_152_23
          replace hO := hO9
          generalize ef_320 : aF σ_s_300 (ad E a 3) = g_319 at hw_299
          have hw_299 : mT g_319 0 (gI σ_s_300 a 5) ∧ mS g_319 0 = gI σ_s_300 a 5 ∧ 1 ≤ gI σ_s_300 a 5 ∧ gI σ_s_300 a 5 ≤ gI σ_J_152 a 5 + (wt f44 (f42 (130 + v4q151).toNat).toInt + wt f44 (f43 (130 + v4q151).toNat).toInt) := hw_299
          refine lv_istore_n (lv' := [(3, .int (I z_301)), (0, .ref a), (1, .int (I tu)), (2, .int (I z_20)), (4, .int (I v4q151))]) hx hb dX11_apply_65 rfl hl (by decide) rfl (fun ls hl => ?_)
          refine lv_iinc (v := I (v4q151 + 1)) (lv' := [(4, .int (I (v4q151 + 1))), (3, .int (I z_301)), (0, .ref a), (1, .int (I tu)), (2, .int (I z_20))]) hx hb dX11_apply_66 hl (k := 4) rfl (I_add _ _) (by decide) rfl (fun ls hl => ?_)
          refine lv_goto (tgt := 31) hx hb dX11_apply_69 (by decide) ?_
          exact ihJ_152 (z_301, v4q151 + 1, g_319) σ_s_300 _ _ _ (by first | (dsimp only; omega) | omega) ⟨hO, hF, hM, hH, hS, lv_sub hl [2, 3, 4, 1, 0] rfl, rz_301, ⟨by first | (dsimp only; omega) | omega, by first | (dsimp only; omega) | omega⟩, by first | (dsimp only; omega) | omega, by first | (dsimp only; omega) | omega, by first | (dsimp only; omega) | omega, by first | (dsimp only; omega) | omega, by first | (dsimp only; omega) | omega, (J_152_5.step hj.2.2.2 (by first | (dsimp only; omega) | omega) (by first | (dsimp only; omega) | omega) (by first | (dsimp only; omega) | omega) (by first | (dsimp only; omega) | omega) (j := v4q151) (by first | (dsimp only; omega) | omega) hw_299.2.2.2 (by first | rfl | (dsimp only; omega) | omega)), ⟨hw_299.1, hw_299.2.1⟩, e_302, e_303, e_304, e_305, e_306, e_307, e_308, e_309, e_310, e_311, e_312, e_313, e_314, e_315, e_316, e_317, e_318, ef_320⟩
        · replace c_297 := mt (I_eq (a := tu) (b := 0) rtu (show rng 0 from ⟨by decide, by decide⟩)).mpr c_297
          refine lv_iload_n hx hb dX11_apply_49 rfl (lv_at hl 2 rfl) ?_
          refine lv_iconst (v := I 1) hx hb dX11_apply_50 (by decide) ?_
          refine lv_isub hx hb dX11_apply_51 ?_
          refine nq_top (I_sub _ _) ?_
          refine lv_iload hx hb dX11_apply_52 (lv_at hl 4 rfl) ?_
          refine lv_isub hx hb dX11_apply_54 ?_
          refine nq_top (I_sub _ _) ?_
          refine lv_goto (tgt := 60) hx hb dX11_apply_55 (by decide) ?_
          have hrw := hj.2.2.2.row (j := z_20 - 1 - v4q151) (by omega) (by omega)
          have hrm := J_152_5.room hj.2.2.2 (by omega) (by omega) (by omega) (by omega)
          have hwt := (hj.2.2.2.wts (j := z_20 - 1 - v4q151) (n := z_20) (by omega) (by omega) (by omega)).2
          refine lv_iadd hx hb dX11_apply_60 ?_
          refine nq_top (I_add _ _) ?_
          refine lv_iload_n hx hb dX11_apply_61 rfl (lv_at hl 1 rfl) ?_
          obtain ⟨_, hc_321⟩ := hO.cell h_a (by decide) (ci := 11) rfl
          refine th_calli (va_runV (As := [.int (I (130 + (z_20 - 1 - v4q151))), .int (I tu)]) (rest := []) ⟨hx, hb, hml, hown, hts⟩ (m_lays l G y b0 σ_J_152 E hO a h_a (130 + (z_20 - 1 - v4q151)) (show rng (130 + (z_20 - 1 - v4q151)) from ⟨by omega, by omega⟩) (by omega) (by omega) tu (show rng tu from rtu) (by omega) (by omega) F3q150 J_152_24 f39 J_152_16 f40 J_152_17 f41 J_152_23 f42 J_152_18 f43 J_152_19 f44 J_152_20 ((by exact J_152_6.1)) (by omega) (by omega) (hrw) (by omega)) (cwV 2 hts gX11_apply_X11_lays rfl rfl rfl (by decide +kernel) ⟨Nat.le_of_ble_eq_true rfl, Nat.le_of_ble_eq_true rfl⟩) (th_PV hK hH rfl hc_321) rfl rfl hl.1 rfl (lv_room (Nat.le_of_ble_eq_true rfl)) dX11_apply_62 ⟨Nat.le_of_ble_eq_true rfl, Nat.le_of_ble_eq_true rfl⟩) hS (fun z_324 σ_s_323 H locs rz_324 hw_322 hH hS => ?_)
          obtain ⟨hO9, hF9, hM9, bhw_322, hw_322⟩ := hw_322
          replace hM := hM.tu hM9 (by decide)
          replace hF := hF.tu hF9 (by decide)
          have e_325 : gI σ_s_323 a 36 = a360 := (hM9.i (by decide)).trans J_152_7
          have e_326 : gI σ_s_323 a 58 = a580 := (hM9.i (by decide)).trans J_152_8
          have e_327 : gI σ_s_323 a 59 = a590 := (hM9.i (by decide)).trans J_152_9
          have e_328 : gI σ_s_323 a 12 = a120 := (hM9.i (by decide)).trans J_152_10
          have e_329 : gI σ_s_323 a 0 = 0 := (hM9.i (by decide)).trans J_152_11
          have e_330 : aF σ_s_323 (ad E a 1) = f1 := (hM9.a (by decide) (by decide)).trans J_152_12
          have e_331 : aF σ_s_323 (ad E a 37) = f37 := (hM9.a (by decide) (by decide)).trans J_152_13
          have e_332 : aF σ_s_323 (ad E a 61) = f61 := (hM9.a (by decide) (by decide)).trans J_152_14
          have e_333 : aF σ_s_323 (ad E a 62) = f62 := (hM9.a (by decide) (by decide)).trans J_152_15
          have e_334 : aF σ_s_323 (ad E a 39) = f39 := (hM9.a (by decide) (by decide)).trans J_152_16
          have e_335 : aF σ_s_323 (ad E a 40) = f40 := (hM9.a (by decide) (by decide)).trans J_152_17
          have e_336 : aF σ_s_323 (ad E a 42) = f42 := (hM9.a (by decide) (by decide)).trans J_152_18
          have e_337 : aF σ_s_323 (ad E a 43) = f43 := (hM9.a (by decide) (by decide)).trans J_152_19
          have e_338 : aF σ_s_323 (ad E a 44) = f44 := (hM9.a (by decide) (by decide)).trans J_152_20
          have e_339 : aF σ_s_323 (ad E a 45) = f45 := (hM9.a (by decide) (by decide)).trans J_152_21
          have e_340 : aF σ_s_323 (ad E a 46) = f46 := (hM9.a (by decide) (by decide)).trans J_152_22
          have e_341 : aF σ_s_323 (ad E a 41) = f41 := (hM9.a (by decide) (by decide)).trans J_152_23
          replace hO := hO9
          generalize ef_343 : aF σ_s_323 (ad E a 3) = g_342 at hw_322
          have hw_322 : mT g_342 0 (gI σ_s_323 a 5) ∧ mS g_342 0 = gI σ_s_323 a 5 ∧ 1 ≤ gI σ_s_323 a 5 ∧ gI σ_s_323 a 5 ≤ gI σ_J_152 a 5 + (wt f44 (f42 (130 + (z_20 - 1 - v4q151)).toNat).toInt + wt f44 (f43 (130 + (z_20 - 1 - v4q151)).toNat).toInt) := hw_322
          refine lv_istore_n (lv' := [(3, .int (I z_324)), (0, .ref a), (1, .int (I tu)), (2, .int (I z_20)), (4, .int (I v4q151))]) hx hb dX11_apply_65 rfl hl (by decide) rfl (fun ls hl => ?_)
          refine lv_iinc (v := I (v4q151 + 1)) (lv' := [(4, .int (I (v4q151 + 1))), (3, .int (I z_324)), (0, .ref a), (1, .int (I tu)), (2, .int (I z_20))]) hx hb dX11_apply_66 hl (k := 4) rfl (I_add _ _) (by decide) rfl (fun ls hl => ?_)
          refine lv_goto (tgt := 31) hx hb dX11_apply_69 (by decide) ?_
          exact ihJ_152 (z_324, v4q151 + 1, g_342) σ_s_323 _ _ _ (by first | (dsimp only; omega) | omega) ⟨hO, hF, hM, hH, hS, lv_sub hl [2, 3, 4, 1, 0] rfl, rz_324, ⟨by first | (dsimp only; omega) | omega, by first | (dsimp only; omega) | omega⟩, by first | (dsimp only; omega) | omega, by first | (dsimp only; omega) | omega, by first | (dsimp only; omega) | omega, by first | (dsimp only; omega) | omega, by first | (dsimp only; omega) | omega, (J_152_5.step hj.2.2.2 (by first | (dsimp only; omega) | omega) (by first | (dsimp only; omega) | omega) (by first | (dsimp only; omega) | omega) (by first | (dsimp only; omega) | omega) (j := z_20 - 1 - v4q151) (by first | (dsimp only; omega) | omega) hw_322.2.2.2 (by first | rfl | (dsimp only; omega) | omega)), ⟨hw_322.1, hw_322.2.1⟩, e_325, e_326, e_327, e_328, e_329, e_330, e_331, e_332, e_333, e_334, e_335, e_336, e_337, e_338, e_339, e_340, e_341, ef_343⟩
  · replace c_21 := (I_eq (a := z_20) (b := 0) rz_20 (show rng 0 from ⟨by decide, by decide⟩)).mp c_21
    refine lv_aload_n hx hb dX11_apply_16 rfl (lv_at hl 1 rfl) ?_
    refine lv_iconst (v := I 1) hx hb dX11_apply_17 (by decide) ?_
    obtain ⟨_, hc_344⟩ := hO.cell h_a (by decide) (ci := 11) rfl
    refine th_calli (va_runV (As := [.int (I 1)]) (rest := []) ⟨hx, hb, hml, hown, hts⟩ (m_refuse l G y b0 σ_s_1 E hO a h_a 1 (show rng 1 from (show rng 1 from ⟨by decide, by decide⟩)) (by omega) (by omega)) (cwV 1 hts gX11_apply_X11_refuse rfl rfl rfl (by decide +kernel) ⟨Nat.le_of_ble_eq_true rfl, Nat.le_of_ble_eq_true rfl⟩) (th_PV hK hH rfl hc_344) rfl rfl hl.1 rfl (lv_room (Nat.le_of_ble_eq_true rfl)) dX11_apply_18 ⟨Nat.le_of_ble_eq_true rfl, Nat.le_of_ble_eq_true rfl⟩) hS (fun z_347 σ_s_346 H locs rz_347 hw_345 hH hS => ?_)
    obtain ⟨hO9, hF9, hM9, hw_345⟩ := hw_345
    replace hM := hM.tu hM9 (by decide)
    replace hF := hF.tu hF9 (by decide)
    have e_348 : aF σ_s_346 (ad E a 1) = f1 := (hM9.a (by decide) (by decide)).trans e_2
    have e_349 : aF σ_s_346 (ad E a 37) = f37 := (hM9.a (by decide) (by decide)).trans e_3
    have e_350 : aF σ_s_346 (ad E a 61) = f61 := (hM9.a (by decide) (by decide)).trans e_4
    have e_351 : aF σ_s_346 (ad E a 62) = f62 := (hM9.a (by decide) (by decide)).trans e_5
    have e_352 : aF σ_s_346 (ad E a 39) = f39 := (hM9.a (by decide) (by decide)).trans e_6
    have e_353 : aF σ_s_346 (ad E a 40) = f40 := (hM9.a (by decide) (by decide)).trans e_7
    have e_354 : aF σ_s_346 (ad E a 42) = f42 := (hM9.a (by decide) (by decide)).trans e_8
    have e_355 : aF σ_s_346 (ad E a 43) = f43 := (hM9.a (by decide) (by decide)).trans e_9
    have e_356 : aF σ_s_346 (ad E a 44) = f44 := (hM9.a (by decide) (by decide)).trans e_10
    have e_357 : aF σ_s_346 (ad E a 45) = f45 := (hM9.a (by decide) (by decide)).trans e_11
    have e_358 : aF σ_s_346 (ad E a 46) = f46 := (hM9.a (by decide) (by decide)).trans e_12
    have e_359 : aF σ_s_346 (ad E a 3) = f3 := (hM9.a (by decide) (by decide)).trans e_13
    have e_360 : aF σ_s_346 (ad E a 41) = f41 := (hM9.a (by decide) (by decide)).trans e_14
    have e_361 : gI σ_s_346 a 36 = a360 := (hM9.i (by decide)).trans e_15
    have e_362 : gI σ_s_346 a 58 = a580 := (hM9.i (by decide)).trans e_16
    have e_363 : gI σ_s_346 a 59 = a590 := (hM9.i (by decide)).trans e_17
    have e_364 : gI σ_s_346 a 12 = a120 := (hM9.i (by decide)).trans e_18
    have e_365 : gI σ_s_346 a 0 = 0 := (hM9.i (by decide)).trans e_19
    replace hO := hO9
    have hw_345 : z_347 = -1 := hw_345
    exact th_iret hx hb hr hlocks hH hS (z := z_347) rz_347 ⟨hO, hF, hM, by rw [show aF σ_s_346 (ad E a 1) = f1 from e_348, show aF σ_s_346 (ad E a 37) = f37 from e_349, show aF σ_s_346 (ad E a 61) = f61 from e_350, show aF σ_s_346 (ad E a 62) = f62 from e_351, show aF σ_s_346 (ad E a 39) = f39 from e_352, show aF σ_s_346 (ad E a 40) = f40 from e_353, show aF σ_s_346 (ad E a 42) = f42 from e_354, show aF σ_s_346 (ad E a 43) = f43 from e_355, show aF σ_s_346 (ad E a 44) = f44 from e_356, show aF σ_s_346 (ad E a 45) = f45 from e_357, show aF σ_s_346 (ad E a 46) = f46 from e_358]; exact ⟨hj.n (by omega) (by omega) (by omega), by omega⟩⟩ dX11_apply_21

set_option maxHeartbeats 4000000 in
set_option maxRecDepth 100000 in
theorem j_undo (l : Launch) (G : va_G) (y : Nat → ClassId) (b0 : Nat) (σ : th_M) (E : th_E) (hO : ok y E σ) (a : Nat) (h_a : kd E a = 13) (f1 : Nat → Int32) (ef1 : aF σ (ad E a 1) = f1) (f37 : Nat → Int32) (ef37 : aF σ (ad E a 37) = f37) (f61 : Nat → Int32) (ef61 : aF σ (ad E a 61) = f61) (f62 : Nat → Int32) (ef62 : aF σ (ad E a 62) = f62) (f39 : Nat → Int32) (ef39 : aF σ (ad E a 39) = f39) (f40 : Nat → Int32) (ef40 : aF σ (ad E a 40) = f40) (f42 : Nat → Int32) (ef42 : aF σ (ad E a 42) = f42) (f43 : Nat → Int32) (ef43 : aF σ (ad E a 43) = f43) (f44 : Nat → Int32) (ef44 : aF σ (ad E a 44) = f44) (f45 : Nat → Int32) (ef45 : aF σ (ad E a 45) = f45) (f46 : Nat → Int32) (ef46 : aF σ (ad E a 46) = f46) (hy0 : jw f1 f37 f61 f62 f39 f40 f42 f43 f44 f45 f46 (gI σ a 36) (gI σ a 58) (gI σ a 59)) : Met l yX11_undo wsX11_undo ({ frames := 0, cells := 0, slots := 0, locals := 0 }) (th_P G y b0 σ [.ref a]) (th_Qi G b0 (fun r σ1 => ok y E σ1 ∧ fr [13] E σ σ1 ∧ fm [0, 1, 36] E σ σ1 a ∧ (jw (aF σ1 (ad E a 1)) (aF σ1 (ad E a 37)) (aF σ1 (ad E a 61)) (aF σ1 (ad E a 62)) (aF σ1 (ad E a 39)) (aF σ1 (ad E a 40)) (aF σ1 (ad E a 42)) (aF σ1 (ad E a 43)) (aF σ1 (ad E a 44)) (aF σ1 (ad E a 45)) (aF σ1 (ad E a 46)) (gI σ1 a 36) (gI σ1 a 58) (gI σ1 a 59) ∧ gI σ1 a 12 = gI σ a 12))) 0 0 (th_A b0) := by
  refine Met.ofW (cc := cX11_undo) (maxL := 2) (ret := (some .int)) (by decide) rfl ?_
  intro p e s m args below meth c s₁ B hml hv
  obtain ⟨rfl, hH, hK⟩ := hv
  have hx := B.exec
  have hb := B.bytes
  have hr := B.returns
  have hts := atoms_spec (ws := wsX11_undo) B.pre
  have hown : s.vm.findClass RX11 = some m.cls := findClass_of_methodNamed B.named
  have hlocks := B.notSynchronized
  have h00 : b0 ≤ s.heap.size := hH.1
  have hS : va_S (th_A b0) s.heap s.heap [] := va_S.rf
  have hF : fr [13] E σ σ := fr.rf
  have hM : fm [0, 1, 36] E σ σ a := fm.rf
  have hj := hy0
  have hw1 := hj.1.1.1
  have hm1 := hj.1.2.1
  have hm2 := hj.1.2.2.1
  have hm3 := hj.2.2.2.2.1
  have hm4 := hj.2.2.2.2.2.1
  have inX11 : ∀ w ∈ wsX110, w ∈ wsX11_undo := by decide +kernel
  have fl0 := hts (.fieldLink RX11 111 "NestQueryModel" "code" "I") (by decide +kernel)
  have fl1 := hts (.fieldLink RX11 232 "NestQueryModel" "acts" "I") (by decide +kernel)
  have fl2 := hts (.fieldLink RX11 9 "NestQueryModel" "tree" "[I") (by decide +kernel)
  have fl3 := hts (.fieldLink RX11 48 "NestQueryModel" "past" "[I") (by decide +kernel)
  have hl := lv_entry ([.ref a]) (n := 2) (Nat.le_of_ble_eq_true rfl)
  rw [lg_entry_eq]
  generalize (lg_sl ([.ref a]) ++ List.replicate (2 - (lg_sl ([.ref a])).length) Slot.unset).toArray = ls at hl ⊢
  have hl : lv_has ls 2 [(0, .ref a)] := hl
  obtain ⟨a360, ea360, ra360, la360, ua360⟩ := hO.gi h_a (by decide) k13_36
  obtain ⟨a580, ea580, ra580, la580, ua580⟩ := hO.gi h_a (by decide) k13_58
  obtain ⟨a590, ea590, ra590, la590, ua590⟩ := hO.gi h_a (by decide) k13_59
  obtain ⟨a120, ea120, ra120, la120, ua120⟩ := hO.gi h_a (by decide) k13_12
  refine lv_aload_n hx hb dX11_undo_0 rfl (lv_at hl 0 rfl) ?_
  refine lv_iconst (v := I 0) hx hb dX11_undo_1 (by decide) ?_
  refine ok.putJ hO h_a k13_0 (show rng 0 from ⟨by decide, by decide⟩) (by omega) (by omega) (fun _ he hl9 kk => th_put (ci := 11) (v := .int (I 0)) (ty := .int) (C := RX11) (T := TX11) (N := 66) hx hb hts inX11 tyX11 tyX11_ok nmX11 hown hK hH hS h00 he rfl 0 (by decide) fl0 rfl (by decide +kernel) rfl rfl hl9 dX11_undo_2 kk) (fun σ_s_1 H locs hO hF9 hM9 hg9 ha9 hH hS => ?_)
  replace hM := hM.tu hM9 (by decide)
  replace hF := hF.tu hF9 (by decide)
  have e_2 : aF σ_s_1 (ad E a 1) = f1 := (hM9.a (by decide) (by decide)).trans ef1
  have e_3 : aF σ_s_1 (ad E a 37) = f37 := (hM9.a (by decide) (by decide)).trans ef37
  have e_4 : aF σ_s_1 (ad E a 61) = f61 := (hM9.a (by decide) (by decide)).trans ef61
  have e_5 : aF σ_s_1 (ad E a 62) = f62 := (hM9.a (by decide) (by decide)).trans ef62
  have e_6 : aF σ_s_1 (ad E a 39) = f39 := (hM9.a (by decide) (by decide)).trans ef39
  have e_7 : aF σ_s_1 (ad E a 40) = f40 := (hM9.a (by decide) (by decide)).trans ef40
  have e_8 : aF σ_s_1 (ad E a 42) = f42 := (hM9.a (by decide) (by decide)).trans ef42
  have e_9 : aF σ_s_1 (ad E a 43) = f43 := (hM9.a (by decide) (by decide)).trans ef43
  have e_10 : aF σ_s_1 (ad E a 44) = f44 := (hM9.a (by decide) (by decide)).trans ef44
  have e_11 : aF σ_s_1 (ad E a 45) = f45 := (hM9.a (by decide) (by decide)).trans ef45
  have e_12 : aF σ_s_1 (ad E a 46) = f46 := (hM9.a (by decide) (by decide)).trans ef46
  have e_13 : gI σ_s_1 a 36 = a360 := (hM9.i (by decide)).trans ea360
  have e_14 : gI σ_s_1 a 58 = a580 := (hM9.i (by decide)).trans ea580
  have e_15 : gI σ_s_1 a 59 = a590 := (hM9.i (by decide)).trans ea590
  have e_16 : gI σ_s_1 a 12 = a120 := (hM9.i (by decide)).trans ea120
  have e_17 := hg9
  refine lv_aload_n hx hb dX11_undo_5 rfl (lv_at hl 0 rfl) ?_
  refine ok.getIc hO h_a (by decide) k13_36 e_13 (fun _ _ he hv kk => th_get (ci := 11) (C := RX11) (T := TX11) (N := 66) hx hb hts inX11 hown hK hH he rfl 36 (by decide) fl1 hv dX11_undo_6 kk) ?_
  refine lv_if_ne (tgt := 14) hx hb dX11_undo_9 (by decide) (fun c_18 => ?_) (fun c_18 => ?_)
  · replace c_18 := mt (I_eq (a := a360) (b := 0) ra360 (show rng 0 from ⟨by decide, by decide⟩)).mpr c_18
    refine lv_aload_n hx hb dX11_undo_14 rfl (lv_at hl 0 rfl) ?_
    refine lv_dup hx hb dX11_undo_15 rfl ?_
    refine ok.getIc hO h_a (by decide) k13_36 e_13 (fun _ _ he hv kk => th_get (ci := 11) (C := RX11) (T := TX11) (N := 66) hx hb hts inX11 hown hK hH he rfl 36 (by decide) fl1 hv dX11_undo_16 kk) ?_
    refine lv_iconst (v := I 1) hx hb dX11_undo_19 (by decide) ?_
    refine lv_isub hx hb dX11_undo_20 ?_
    refine nq_top (I_sub _ _) ?_
    refine ok.putJ hO h_a k13_36 ⟨by omega, by omega⟩ (by omega) (by omega) (fun _ he hl9 kk => th_put (ci := 11) (v := .int (I (a360 - 1))) (ty := .int) (C := RX11) (T := TX11) (N := 66) hx hb hts inX11 tyX11 tyX11_ok nmX11 hown hK hH hS h00 he rfl 36 (by decide) fl1 rfl (by decide +kernel) rfl rfl hl9 dX11_undo_21 kk) (fun σ_s_19 H locs hO hF9 hM9 hg9 ha9 hH hS => ?_)
    replace hM := hM.tu hM9 (by decide)
    replace hF := hF.tu hF9 (by decide)
    have e_20 : aF σ_s_19 (ad E a 1) = f1 := (hM9.a (by decide) (by decide)).trans e_2
    have e_21 : aF σ_s_19 (ad E a 37) = f37 := (hM9.a (by decide) (by decide)).trans e_3
    have e_22 : aF σ_s_19 (ad E a 61) = f61 := (hM9.a (by decide) (by decide)).trans e_4
    have e_23 : aF σ_s_19 (ad E a 62) = f62 := (hM9.a (by decide) (by decide)).trans e_5
    have e_24 : aF σ_s_19 (ad E a 39) = f39 := (hM9.a (by decide) (by decide)).trans e_6
    have e_25 : aF σ_s_19 (ad E a 40) = f40 := (hM9.a (by decide) (by decide)).trans e_7
    have e_26 : aF σ_s_19 (ad E a 42) = f42 := (hM9.a (by decide) (by decide)).trans e_8
    have e_27 : aF σ_s_19 (ad E a 43) = f43 := (hM9.a (by decide) (by decide)).trans e_9
    have e_28 : aF σ_s_19 (ad E a 44) = f44 := (hM9.a (by decide) (by decide)).trans e_10
    have e_29 : aF σ_s_19 (ad E a 45) = f45 := (hM9.a (by decide) (by decide)).trans e_11
    have e_30 : aF σ_s_19 (ad E a 46) = f46 := (hM9.a (by decide) (by decide)).trans e_12
    have e_31 : gI σ_s_19 a 58 = a580 := (hM9.i (by decide)).trans e_14
    have e_32 : gI σ_s_19 a 59 = a590 := (hM9.i (by decide)).trans e_15
    have e_33 : gI σ_s_19 a 12 = a120 := (hM9.i (by decide)).trans e_16
    have e_34 : gI σ_s_19 a 0 = 0 := (hM9.i (by decide)).trans e_17
    have e_35 := hg9
    refine lv_iconst (v := I 0) hx hb dX11_undo_24 (by decide) ?_
    refine lv_istore_n (lv' := [(1, .int (I 0)), (0, .ref a)]) hx hb dX11_undo_25 rfl hl (by decide) rfl (fun ls hl => ?_)
    refine th_loop (α := Int × (Nat → Int32)) (pc := 26) (fun x9 => (240 - x9.1).toNat) (fun x9 σ9 H9 l9 ls9 => ok y E σ9 ∧ fr [13] E σ σ9 ∧ fm [0, 1, 36] E σ σ9 a ∧ th_H G b0 σ9 H9 ∧ va_S (th_A b0) s.heap H9 l9 ∧ lv_has ls9 2 [(0, .ref a), (1, .int (I x9.1))] ∧ rng x9.1 ∧ (0 ≤ x9.1) ∧ (x9.1 ≤ 240) ∧ (cpd f1 x9.2 f37 0 (60 * (a360 - 1)) x9.1) ∧ (gI σ9 a 58 = a580) ∧ (gI σ9 a 59 = a590) ∧ (gI σ9 a 12 = a120) ∧ (gI σ9 a 0 = 0) ∧ (gI σ9 a 36 = a360 - 1) ∧ (aF σ9 (ad E a 37) = f37) ∧ (aF σ9 (ad E a 61) = f61) ∧ (aF σ9 (ad E a 62) = f62) ∧ (aF σ9 (ad E a 39) = f39) ∧ (aF σ9 (ad E a 40) = f40) ∧ (aF σ9 (ad E a 42) = f42) ∧ (aF σ9 (ad E a 43) = f43) ∧ (aF σ9 (ad E a 44) = f44) ∧ (aF σ9 (ad E a 45) = f45) ∧ (aF σ9 (ad E a 46) = f46) ∧ (aF σ9 (ad E a 1) = x9.2)) ?_ (0, f1) σ_s_19 _ _ _ ⟨hO, hF, hM, hH, hS, lv_sub hl [1, 0] rfl, (show rng 0 from ⟨by decide, by decide⟩), by first | (dsimp only; omega) | omega, by first | (dsimp only; omega) | omega, cpd.zero, e_31, e_32, e_33, e_34, e_35, e_21, e_22, e_23, e_24, e_25, e_26, e_27, e_28, e_29, e_30, e_20⟩
    intro x9 σ_J_84 H locs ls hI9 ihJ_84
    obtain ⟨v1q83, F1q82⟩ := x9
    obtain ⟨hO, hF, hM, hH, hS, hl, rv1q83, J_84_0, J_84_1, J_84_2, J_84_3, J_84_4, J_84_5, J_84_6, J_84_7, J_84_8, J_84_9, J_84_10, J_84_11, J_84_12, J_84_13, J_84_14, J_84_15, J_84_16, J_84_17, J_84_18⟩ := hI9
    have hl : lv_has ls 2 [(0, .ref a), (1, .int (I v1q83))] := hl
    have rv1q83 : rng v1q83 := rv1q83
    have J_84_0 : 0 ≤ v1q83 := J_84_0
    have J_84_1 : v1q83 ≤ 240 := J_84_1
    have J_84_2 : cpd f1 F1q82 f37 0 (60 * (a360 - 1)) v1q83 := J_84_2
    have J_84_3 : gI σ_J_84 a 58 = a580 := J_84_3
    have J_84_4 : gI σ_J_84 a 59 = a590 := J_84_4
    have J_84_5 : gI σ_J_84 a 12 = a120 := J_84_5
    have J_84_6 : gI σ_J_84 a 0 = 0 := J_84_6
    have J_84_7 : gI σ_J_84 a 36 = a360 - 1 := J_84_7
    have J_84_8 : aF σ_J_84 (ad E a 37) = f37 := J_84_8
    have J_84_9 : aF σ_J_84 (ad E a 61) = f61 := J_84_9
    have J_84_10 : aF σ_J_84 (ad E a 62) = f62 := J_84_10
    have J_84_11 : aF σ_J_84 (ad E a 39) = f39 := J_84_11
    have J_84_12 : aF σ_J_84 (ad E a 40) = f40 := J_84_12
    have J_84_13 : aF σ_J_84 (ad E a 42) = f42 := J_84_13
    have J_84_14 : aF σ_J_84 (ad E a 43) = f43 := J_84_14
    have J_84_15 : aF σ_J_84 (ad E a 44) = f44 := J_84_15
    have J_84_16 : aF σ_J_84 (ad E a 45) = f45 := J_84_16
    have J_84_17 : aF σ_J_84 (ad E a 46) = f46 := J_84_17
    have J_84_18 : aF σ_J_84 (ad E a 1) = F1q82 := J_84_18
    refine lv_iload_n hx hb dX11_undo_26 rfl (lv_at hl 1 rfl) ?_
    refine lv_sipush (v := I 240) hx hb dX11_undo_27 (by decide) ?_
    refine lv_icmp_ge (tgt := 60) hx hb dX11_undo_30 (by decide) (fun c_85 => ?_) (fun c_85 => ?_)
    · replace c_85 := (I_le (a := 240) (b := v1q83) (show rng 240 from ⟨by decide, by decide⟩) rv1q83).mp c_85
      refine lv_aload_n hx hb dX11_undo_60 rfl (lv_at hl 0 rfl) ?_
      refine ok.getIc hO h_a (by decide) k13_36 J_84_7 (fun _ _ he hv kk => th_get (ci := 11) (C := RX11) (T := TX11) (N := 66) hx hb hts inX11 hown hK hH he rfl 36 (by decide) fl1 hv dX11_undo_61 kk) ?_
      exact th_iret hx hb hr hlocks hH hS (z := (a360 - 1)) ⟨by omega, by omega⟩ ⟨hO, hF, hM, by rw [show aF σ_J_84 (ad E a 1) = F1q82 from J_84_18, show aF σ_J_84 (ad E a 37) = f37 from J_84_8, show aF σ_J_84 (ad E a 61) = f61 from J_84_9, show aF σ_J_84 (ad E a 62) = f62 from J_84_10, show aF σ_J_84 (ad E a 39) = f39 from J_84_11, show aF σ_J_84 (ad E a 40) = f40 from J_84_12, show aF σ_J_84 (ad E a 42) = f42 from J_84_13, show aF σ_J_84 (ad E a 43) = f43 from J_84_14, show aF σ_J_84 (ad E a 44) = f44 from J_84_15, show aF σ_J_84 (ad E a 45) = f45 from J_84_16, show aF σ_J_84 (ad E a 46) = f46 from J_84_17]; exact ⟨hj.tree (hj.2.1.row (j := a360 - 1) (by omega) (by omega) (by have h9 := J_84_2.2; exact fun x hx => (by have h8 := h9 (x : Int) (by omega) (by omega); rw [Int.mul_zero, Int.zero_add] at h8; rw [show ((x : Int)).toNat = x by omega] at h8; rw [h8]; congr 1; omega))) (hj.2.1.le (by omega)) (by omega) (by omega), by omega⟩⟩ dX11_undo_64
    · replace c_85 := mt (I_le (a := 240) (b := v1q83) (show rng 240 from ⟨by decide, by decide⟩) rv1q83).mpr c_85
      refine lv_aload_n hx hb dX11_undo_33 rfl (lv_at hl 0 rfl) ?_
      refine ok.getR hO h_a (by decide) k13_1 (by decide) (fun _ _ he hv kk => th_get (ci := 11) (C := RX11) (T := TX11) (N := 66) hx hb hts inX11 hown hK hH he rfl 1 (by decide) fl2 hv dX11_undo_34 kk) ?_
      refine lv_iload_n hx hb dX11_undo_37 rfl (lv_at hl 1 rfl) ?_
      refine lv_aload_n hx hb dX11_undo_38 rfl (lv_at hl 0 rfl) ?_
      refine ok.getR hO h_a (by decide) k13_37 (by decide) (fun _ _ he hv kk => th_get (ci := 11) (C := RX11) (T := TX11) (N := 66) hx hb hts inX11 hown hK hH he rfl 37 (by decide) fl3 hv dX11_undo_39 kk) ?_
      refine lv_sipush (v := I 240) hx hb dX11_undo_42 (by decide) ?_
      refine lv_aload_n hx hb dX11_undo_45 rfl (lv_at hl 0 rfl) ?_
      refine ok.getIc hO h_a (by decide) k13_36 J_84_7 (fun _ _ he hv kk => th_get (ci := 11) (C := RX11) (T := TX11) (N := 66) hx hb hts inX11 hown hK hH he rfl 36 (by decide) fl1 hv dX11_undo_46 kk) ?_
      refine lv_imul hx hb dX11_undo_49 ?_
      refine nq_top (I_mul _ _) ?_
      refine lv_iload_n hx hb dX11_undo_50 rfl (lv_at hl 1 rfl) ?_
      refine lv_iadd hx hb dX11_undo_51 ?_
      refine nq_top (I_add _ _) ?_
      refine m_iald hx hb hK hH hO h_a k13_37 isA1 J_84_8 ⟨by omega, by omega⟩ (by omega) (by omega) dX11_undo_52 (fun z_86 ez_86 rz_86 elx9 => ?_)
      refine m_iast hx hb hK hH hS h00 hO h_a k13_1 isA1 (by decide) J_84_18 rv1q83 (by omega) (by omega) rz_86 el1 dX11_undo_53 (fun σ_s_87 H locs hO hF9 hM9 ha9 hH hS => ?_)
      replace hM := hM.tu hM9 (by decide)
      replace hF := hF.tu hF9 (by decide)
      have e_88 : gI σ_s_87 a 58 = a580 := (hM9.i (by decide)).trans J_84_3
      have e_89 : gI σ_s_87 a 59 = a590 := (hM9.i (by decide)).trans J_84_4
      have e_90 : gI σ_s_87 a 12 = a120 := (hM9.i (by decide)).trans J_84_5
      have e_91 : gI σ_s_87 a 0 = 0 := (hM9.i (by decide)).trans J_84_6
      have e_92 : gI σ_s_87 a 36 = a360 - 1 := (hM9.i (by decide)).trans J_84_7
      have e_93 : aF σ_s_87 (ad E a 37) = f37 := (hM9.a (by decide) (by decide)).trans J_84_8
      have e_94 : aF σ_s_87 (ad E a 61) = f61 := (hM9.a (by decide) (by decide)).trans J_84_9
      have e_95 : aF σ_s_87 (ad E a 62) = f62 := (hM9.a (by decide) (by decide)).trans J_84_10
      have e_96 : aF σ_s_87 (ad E a 39) = f39 := (hM9.a (by decide) (by decide)).trans J_84_11
      have e_97 : aF σ_s_87 (ad E a 40) = f40 := (hM9.a (by decide) (by decide)).trans J_84_12
      have e_98 : aF σ_s_87 (ad E a 42) = f42 := (hM9.a (by decide) (by decide)).trans J_84_13
      have e_99 : aF σ_s_87 (ad E a 43) = f43 := (hM9.a (by decide) (by decide)).trans J_84_14
      have e_100 : aF σ_s_87 (ad E a 44) = f44 := (hM9.a (by decide) (by decide)).trans J_84_15
      have e_101 : aF σ_s_87 (ad E a 45) = f45 := (hM9.a (by decide) (by decide)).trans J_84_16
      have e_102 : aF σ_s_87 (ad E a 46) = f46 := (hM9.a (by decide) (by decide)).trans J_84_17
      obtain ⟨g_103, dg_103⟩ : ∃ g9, g9 = upd F1q82 (v1q83).toNat (I z_86) := ⟨_, rfl⟩
      rw [← dg_103] at ha9
      have ef_104 := ha9
      refine lv_iinc (v := I (v1q83 + 1)) (lv' := [(1, .int (I (v1q83 + 1))), (0, .ref a)]) hx hb dX11_undo_54 hl (k := 1) rfl (I_add _ _) (by decide) rfl (fun ls hl => ?_)
      refine lv_goto (tgt := 26) hx hb dX11_undo_57 (by decide) ?_
      exact ihJ_84 (v1q83 + 1, g_103) σ_s_87 _ _ _ (by first | (dsimp only; omega) | omega) ⟨hO, hF, hM, hH, hS, lv_sub hl [1, 0] rfl, ⟨by first | (dsimp only; omega) | omega, by first | (dsimp only; omega) | omega⟩, by first | (dsimp only; omega) | omega, by first | (dsimp only; omega) | omega, (J_84_2.step dg_103 (by first | (dsimp only; omega) | omega) ez_86 (by first | (dsimp only; omega) | omega) (by first | (dsimp only; omega) | omega) (by first | (dsimp only; omega) | omega)), e_88, e_89, e_90, e_91, e_92, e_93, e_94, e_95, e_96, e_97, e_98, e_99, e_100, e_101, e_102, ef_104⟩
  · replace c_18 := (I_eq (a := a360) (b := 0) ra360 (show rng 0 from ⟨by decide, by decide⟩)).mp c_18
    refine lv_iconst (v := I (-1)) hx hb dX11_undo_12 (by decide) ?_
    exact th_iret hx hb hr hlocks hH hS (z := (-1)) (show rng (-1) from ⟨by decide, by decide⟩) ⟨hO, hF, hM, by rw [show aF σ_s_1 (ad E a 1) = f1 from e_2, show aF σ_s_1 (ad E a 37) = f37 from e_3, show aF σ_s_1 (ad E a 61) = f61 from e_4, show aF σ_s_1 (ad E a 62) = f62 from e_5, show aF σ_s_1 (ad E a 39) = f39 from e_6, show aF σ_s_1 (ad E a 40) = f40 from e_7, show aF σ_s_1 (ad E a 42) = f42 from e_8, show aF σ_s_1 (ad E a 43) = f43 from e_9, show aF σ_s_1 (ad E a 44) = f44 from e_10, show aF σ_s_1 (ad E a 45) = f45 from e_11, show aF σ_s_1 (ad E a 46) = f46 from e_12]; exact ⟨hj.n (by omega) (by omega) (by omega), by omega⟩⟩ dX11_undo_13
