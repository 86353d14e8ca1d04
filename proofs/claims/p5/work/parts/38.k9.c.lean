set_option maxHeartbeats 4000000 in
set_option maxRecDepth 100000 in
theorem j_image (l : Launch) (G : va_G) (y : Nat → ClassId) (b0 : Nat) (σ : th_M) (E : th_E) (hO : ok y E σ) (a : Nat) (h_a : kd E a = 13) (f1 : Nat → Int32) (ef1 : aF σ (ad E a 1) = f1) (f37 : Nat → Int32) (ef37 : aF σ (ad E a 37) = f37) (f61 : Nat → Int32) (ef61 : aF σ (ad E a 61) = f61) (f62 : Nat → Int32) (ef62 : aF σ (ad E a 62) = f62) (f39 : Nat → Int32) (ef39 : aF σ (ad E a 39) = f39) (f40 : Nat → Int32) (ef40 : aF σ (ad E a 40) = f40) (f42 : Nat → Int32) (ef42 : aF σ (ad E a 42) = f42) (f43 : Nat → Int32) (ef43 : aF σ (ad E a 43) = f43) (f44 : Nat → Int32) (ef44 : aF σ (ad E a 44) = f44) (f45 : Nat → Int32) (ef45 : aF σ (ad E a 45) = f45) (f46 : Nat → Int32) (ef46 : aF σ (ad E a 46) = f46) (f52 : Nat → Int32) (ef52 : aF σ (ad E a 52) = f52) (f53 : Nat → Int32) (ef53 : aF σ (ad E a 53) = f53) (f4 : Nat → Int32) (ef4 : aF σ (ad E a 4) = f4) (f63 : Nat → Int32) (ef63 : aF σ (ad E a 63) = f63) (f64 : Nat → Int32) (ef64 : aF σ (ad E a 64) = f64) (f65 : Nat → Int32) (ef65 : aF σ (ad E a 65) = f65) (hy0 : jw f1 f37 f61 f62 f39 f40 f42 f43 f44 f45 f46 (gI σ a 36) (gI σ a 58) (gI σ a 59)) : Met l yX11_image wsX11_image ({ frames := 1, cells := 0, slots := 0, locals := 26 }) (th_P G y b0 σ [.ref a]) (th_Qv G b0 (fun σ1 => ok y E σ1 ∧ fr [13] E σ σ1 ∧ fm [0, 58, 59, 60, 61, 62, 63, 64, 65] E σ σ1 a ∧ (jw (aF σ1 (ad E a 1)) (aF σ1 (ad E a 37)) (aF σ1 (ad E a 61)) (aF σ1 (ad E a 62)) (aF σ1 (ad E a 39)) (aF σ1 (ad E a 40)) (aF σ1 (ad E a 42)) (aF σ1 (ad E a 43)) (aF σ1 (ad E a 44)) (aF σ1 (ad E a 45)) (aF σ1 (ad E a 46)) (gI σ1 a 36) (gI σ1 a 58) (gI σ1 a 59) ∧ gI σ1 a 12 = gI σ a 12 ∧ gI σ1 a 58 = 1))) 0 0 (th_A b0) := by
  refine Met.ofW (cc := cX11_image) (maxL := 1) (ret := none) (by decide) rfl ?_
  intro p e s m args below meth c s₁ B hml hv
  obtain ⟨rfl, hH, hK⟩ := hv
  have hx := B.exec
  have hb := B.bytes
  have hr := B.returns
  have hts := atoms_spec (ws := wsX11_image) B.pre
  have hown : s.vm.findClass RX11 = some m.cls := findClass_of_methodNamed B.named
  have hlocks := B.notSynchronized
  have h00 : b0 ≤ s.heap.size := hH.1
  have hS : va_S (th_A b0) s.heap s.heap [] := va_S.rf
  have hF : fr [13] E σ σ := fr.rf
  have hM : fm [0, 58, 59, 60, 61, 62, 63, 64, 65] E σ σ a := fm.rf
  have hj := hy0
  have hw1 := hj.1.1.1
  have hm1 := hj.1.2.1
  have hm2 := hj.1.2.2.1
  have hm3 := hj.2.2.2.2.1
  have hm4 := hj.2.2.2.2.2.1
  have inX11 : ∀ w ∈ wsX110, w ∈ wsX11_image := by decide +kernel
  have fl0 := hts (.fieldLink RX11 111 "NestQueryModel" "code" "I") (by decide +kernel)
  have fl1 := hts (.fieldLink RX11 238 "NestQueryModel" "hasImage" "Z") (by decide +kernel)
  have fl2 := hts (.fieldLink RX11 232 "NestQueryModel" "acts" "I") (by decide +kernel)
  have fl3 := hts (.fieldLink RX11 539 "NestQueryModel" "actsThen" "I") (by decide +kernel)
  have fl4 := hts (.fieldLink RX11 235 "NestQueryModel" "noted" "I") (by decide +kernel)
  have fl5 := hts (.fieldLink RX11 542 "NestQueryModel" "notedThen" "I") (by decide +kernel)
  have fl6 := hts (.fieldLink RX11 93 "NestQueryModel" "imageTree" "[I") (by decide +kernel)
  have fl7 := hts (.fieldLink RX11 9 "NestQueryModel" "tree" "[I") (by decide +kernel)
  have fl8 := hts (.fieldLink RX11 96 "NestQueryModel" "pastThen" "[I") (by decide +kernel)
  have fl9 := hts (.fieldLink RX11 48 "NestQueryModel" "past" "[I") (by decide +kernel)
  have fl10 := hts (.fieldLink RX11 99 "NestQueryModel" "notedThingThen" "[I") (by decide +kernel)
  have fl11 := hts (.fieldLink RX11 81 "NestQueryModel" "notedThing" "[I") (by decide +kernel)
  have fl12 := hts (.fieldLink RX11 102 "NestQueryModel" "notedIsThen" "[I") (by decide +kernel)
  have fl13 := hts (.fieldLink RX11 84 "NestQueryModel" "notedIs" "[I") (by decide +kernel)
  have fl14 := hts (.fieldLink RX11 105 "NestQueryModel" "statusThen" "[I") (by decide +kernel)
  have fl15 := hts (.fieldLink RX11 19 "NestQueryModel" "status" "[I") (by decide +kernel)
  have hl := lv_entry ([.ref a]) (n := 1) (Nat.le_of_ble_eq_true rfl)
  rw [lg_entry_eq]
  generalize (lg_sl ([.ref a]) ++ List.replicate (1 - (lg_sl ([.ref a])).length) Slot.unset).toArray = ls at hl ⊢
  have hl : lv_has ls 1 [(0, .ref a)] := hl
  obtain ⟨a360, ea360, ra360, la360, ua360⟩ := hO.gi h_a (by decide) k13_36
  obtain ⟨a580, ea580, ra580, la580, ua580⟩ := hO.gi h_a (by decide) k13_58
  obtain ⟨a590, ea590, ra590, la590, ua590⟩ := hO.gi h_a (by decide) k13_59
  obtain ⟨a120, ea120, ra120, la120, ua120⟩ := hO.gi h_a (by decide) k13_12
  refine lv_aload_n hx hb dX11_image_0 rfl (lv_at hl 0 rfl) ?_
  refine lv_iconst (v := I 0) hx hb dX11_image_1 (by decide) ?_
  refine ok.putJ hO h_a k13_0 (show rng 0 from ⟨by decide, by decide⟩) (by omega) (by omega) (fun _ he hl9 kk => th_put (ci := 11) (v := .int (I 0)) (ty := .int) (C := RX11) (T := TX11) (N := 66) hx hb hts inX11 tyX11 tyX11_ok nmX11 hown hK hH hS h00 he rfl 0 (by decide) fl0 rfl (by decide +kernel) rfl rfl hl9 dX11_image_2 kk) (fun σ_s_1 H locs hO hF9 hM9 hg9 ha9 hH hS => ?_)
  replace hM := hM.tu hM9 (by decide)
  replace hF := hF.tu hF9 (by decide)
  have e_2 : aF σ_s_1 (ad E a 1) = f1 := (hM9.a (by decide) (by decide)).trans ef1
  have e_3 : aF σ_s_1 (ad E a 37) = f37 := (hM9.a (by decide) (by decide)).trans ef37
  have e_4 : aF σ_s_1 (ad E a 61) = f61 := (hM9.a (by decide) (by decide)).trans ef61
  have e_5 : aF σ_s_1 (ad E a 62) = f62 := (hM9.a (by decide) (by decide)).trans ef62
  have e_6 : aF σ_s_1 (ad E a 39) = f39 := (hM9.a (by decide) (by decide)).trans ef39
  have e_7 : aF σ_s_1 (ad E a 40) = f40 := (hM9.a (by decide) (by decide)).trans ef40
  have e_8 : aF σ_s_1 (ad E a 42) = f42 := (hM9.a (by decide) (by decide)).trans ef42
  have e_9 : aF σ_s_1 (ad E a 43) = f43 := (hM9.a (by decide) (by decide)).trans ef43
  have e_10 : aF σ_s_1 (ad E a 44) = f44 := (hM9.a (by decide) (by decide)).trans ef44
  have e_11 : aF σ_s_1 (ad E a 45) = f45 := (hM9.a (by decide) (by decide)).trans ef45
  have e_12 : aF σ_s_1 (ad E a 46) = f46 := (hM9.a (by decide) (by decide)).trans ef46
  have e_13 : aF σ_s_1 (ad E a 52) = f52 := (hM9.a (by decide) (by decide)).trans ef52
  have e_14 : aF σ_s_1 (ad E a 53) = f53 := (hM9.a (by decide) (by decide)).trans ef53
  have e_15 : aF σ_s_1 (ad E a 4) = f4 := (hM9.a (by decide) (by decide)).trans ef4
  have e_16 : aF σ_s_1 (ad E a 63) = f63 := (hM9.a (by decide) (by decide)).trans ef63
  have e_17 : aF σ_s_1 (ad E a 64) = f64 := (hM9.a (by decide) (by decide)).trans ef64
  have e_18 : aF σ_s_1 (ad E a 65) = f65 := (hM9.a (by decide) (by decide)).trans ef65
  have e_19 : gI σ_s_1 a 36 = a360 := (hM9.i (by decide)).trans ea360
  have e_20 : gI σ_s_1 a 58 = a580 := (hM9.i (by decide)).trans ea580
  have e_21 : gI σ_s_1 a 59 = a590 := (hM9.i (by decide)).trans ea590
  have e_22 : gI σ_s_1 a 12 = a120 := (hM9.i (by decide)).trans ea120
  have e_23 := hg9
  refine lv_aload_n hx hb dX11_image_5 rfl (lv_at hl 0 rfl) ?_
  refine lv_iconst (v := I 1) hx hb dX11_image_6 (by decide) ?_
  refine ok.putJ hO h_a k13_58 (show rng 1 from ⟨by decide, by decide⟩) (by omega) (by omega) (fun _ he hl9 kk => th_put (ci := 11) (v := .int (I 1)) (ty := .boolean) (C := RX11) (T := TX11) (N := 66) hx hb hts inX11 tyX11 tyX11_ok nmX11 hown hK hH hS h00 he rfl 58 (by decide) fl1 rfl (by decide +kernel) (nar_z (by omega)) rfl hl9 dX11_image_7 kk) (fun σ_s_24 H locs hO hF9 hM9 hg9 ha9 hH hS => ?_)
  replace hM := hM.tu hM9 (by decide)
  replace hF := hF.tu hF9 (by decide)
  have e_25 : aF σ_s_24 (ad E a 1) = f1 := (hM9.a (by decide) (by decide)).trans e_2
  have e_26 : aF σ_s_24 (ad E a 37) = f37 := (hM9.a (by decide) (by decide)).trans e_3
  have e_27 : aF σ_s_24 (ad E a 61) = f61 := (hM9.a (by decide) (by decide)).trans e_4
  have e_28 : aF σ_s_24 (ad E a 62) = f62 := (hM9.a (by decide) (by decide)).trans e_5
  have e_29 : aF σ_s_24 (ad E a 39) = f39 := (hM9.a (by decide) (by decide)).trans e_6
  have e_30 : aF σ_s_24 (ad E a 40) = f40 := (hM9.a (by decide) (by decide)).trans e_7
  have e_31 : aF σ_s_24 (ad E a 42) = f42 := (hM9.a (by decide) (by decide)).trans e_8
  have e_32 : aF σ_s_24 (ad E a 43) = f43 := (hM9.a (by decide) (by decide)).trans e_9
  have e_33 : aF σ_s_24 (ad E a 44) = f44 := (hM9.a (by decide) (by decide)).trans e_10
  have e_34 : aF σ_s_24 (ad E a 45) = f45 := (hM9.a (by decide) (by decide)).trans e_11
  have e_35 : aF σ_s_24 (ad E a 46) = f46 := (hM9.a (by decide) (by decide)).trans e_12
  have e_36 : aF σ_s_24 (ad E a 52) = f52 := (hM9.a (by decide) (by decide)).trans e_13
  have e_37 : aF σ_s_24 (ad E a 53) = f53 := (hM9.a (by decide) (by decide)).trans e_14
  have e_38 : aF σ_s_24 (ad E a 4) = f4 := (hM9.a (by decide) (by decide)).trans e_15
  have e_39 : aF σ_s_24 (ad E a 63) = f63 := (hM9.a (by decide) (by decide)).trans e_16
  have e_40 : aF σ_s_24 (ad E a 64) = f64 := (hM9.a (by decide) (by decide)).trans e_17
  have e_41 : aF σ_s_24 (ad E a 65) = f65 := (hM9.a (by decide) (by decide)).trans e_18
  have e_42 : gI σ_s_24 a 36 = a360 := (hM9.i (by decide)).trans e_19
  have e_43 : gI σ_s_24 a 59 = a590 := (hM9.i (by decide)).trans e_21
  have e_44 : gI σ_s_24 a 12 = a120 := (hM9.i (by decide)).trans e_22
  have e_45 : gI σ_s_24 a 0 = 0 := (hM9.i (by decide)).trans e_23
  have e_46 := hg9
  refine lv_aload_n hx hb dX11_image_10 rfl (lv_at hl 0 rfl) ?_
  refine lv_aload_n hx hb dX11_image_11 rfl (lv_at hl 0 rfl) ?_
  refine ok.getIc hO h_a (by decide) k13_36 e_42 (fun _ _ he hv kk => th_get (ci := 11) (C := RX11) (T := TX11) (N := 66) hx hb hts inX11 hown hK hH he rfl 36 (by decide) fl2 hv dX11_image_12 kk) ?_
  refine ok.putJ hO h_a k13_59 ra360 (by omega) (by omega) (fun _ he hl9 kk => th_put (ci := 11) (v := .int (I a360)) (ty := .int) (C := RX11) (T := TX11) (N := 66) hx hb hts inX11 tyX11 tyX11_ok nmX11 hown hK hH hS h00 he rfl 59 (by decide) fl3 rfl (by decide +kernel) rfl rfl hl9 dX11_image_15 kk) (fun σ_s_47 H locs hO hF9 hM9 hg9 ha9 hH hS => ?_)
  replace hM := hM.tu hM9 (by decide)
  replace hF := hF.tu hF9 (by decide)
  have e_48 : aF σ_s_47 (ad E a 1) = f1 := (hM9.a (by decide) (by decide)).trans e_25
  have e_49 : aF σ_s_47 (ad E a 37) = f37 := (hM9.a (by decide) (by decide)).trans e_26
  have e_50 : aF σ_s_47 (ad E a 61) = f61 := (hM9.a (by decide) (by decide)).trans e_27
  have e_51 : aF σ_s_47 (ad E a 62) = f62 := (hM9.a (by decide) (by decide)).trans e_28
  have e_52 : aF σ_s_47 (ad E a 39) = f39 := (hM9.a (by decide) (by decide)).trans e_29
  have e_53 : aF σ_s_47 (ad E a 40) = f40 := (hM9.a (by decide) (by decide)).trans e_30
  have e_54 : aF σ_s_47 (ad E a 42) = f42 := (hM9.a (by decide) (by decide)).trans e_31
  have e_55 : aF σ_s_47 (ad E a 43) = f43 := (hM9.a (by decide) (by decide)).trans e_32
  have e_56 : aF σ_s_47 (ad E a 44) = f44 := (hM9.a (by decide) (by decide)).trans e_33
  have e_57 : aF σ_s_47 (ad E a 45) = f45 := (hM9.a (by decide) (by decide)).trans e_34
  have e_58 : aF σ_s_47 (ad E a 46) = f46 := (hM9.a (by decide) (by decide)).trans e_35
  have e_59 : aF σ_s_47 (ad E a 52) = f52 := (hM9.a (by decide) (by decide)).trans e_36
  have e_60 : aF σ_s_47 (ad E a 53) = f53 := (hM9.a (by decide) (by decide)).trans e_37
  have e_61 : aF σ_s_47 (ad E a 4) = f4 := (hM9.a (by decide) (by decide)).trans e_38
  have e_62 : aF σ_s_47 (ad E a 63) = f63 := (hM9.a (by decide) (by decide)).trans e_39
  have e_63 : aF σ_s_47 (ad E a 64) = f64 := (hM9.a (by decide) (by decide)).trans e_40
  have e_64 : aF σ_s_47 (ad E a 65) = f65 := (hM9.a (by decide) (by decide)).trans e_41
  have e_65 : gI σ_s_47 a 36 = a360 := (hM9.i (by decide)).trans e_42
  have e_66 : gI σ_s_47 a 12 = a120 := (hM9.i (by decide)).trans e_44
  have e_67 : gI σ_s_47 a 0 = 0 := (hM9.i (by decide)).trans e_45
  have e_68 : gI σ_s_47 a 58 = 1 := (hM9.i (by decide)).trans e_46
  have e_69 := hg9
  refine lv_aload_n hx hb dX11_image_18 rfl (lv_at hl 0 rfl) ?_
  refine lv_aload_n hx hb dX11_image_19 rfl (lv_at hl 0 rfl) ?_
  refine ok.getI hO h_a (by decide) k13_51 (fun _ _ he hv kk => th_get (ci := 11) (C := RX11) (T := TX11) (N := 66) hx hb hts inX11 hown hK hH he rfl 51 (by decide) fl4 hv dX11_image_20 kk) (fun z_70 e_71 rz_70 lz_70 uz_70 => ?_)
  refine ok.putJ hO h_a k13_60 rz_70 (by omega) (by omega) (fun _ he hl9 kk => th_put (ci := 11) (v := .int (I z_70)) (ty := .int) (C := RX11) (T := TX11) (N := 66) hx hb hts inX11 tyX11 tyX11_ok nmX11 hown hK hH hS h00 he rfl 60 (by decide) fl5 rfl (by decide +kernel) rfl rfl hl9 dX11_image_23 kk) (fun σ_s_72 H locs hO hF9 hM9 hg9 ha9 hH hS => ?_)
  replace hM := hM.tu hM9 (by decide)
  replace hF := hF.tu hF9 (by decide)
  have e_73 : aF σ_s_72 (ad E a 1) = f1 := (hM9.a (by decide) (by decide)).trans e_48
  have e_74 : aF σ_s_72 (ad E a 37) = f37 := (hM9.a (by decide) (by decide)).trans e_49
  have e_75 : aF σ_s_72 (ad E a 61) = f61 := (hM9.a (by decide) (by decide)).trans e_50
  have e_76 : aF σ_s_72 (ad E a 62) = f62 := (hM9.a (by decide) (by decide)).trans e_51
  have e_77 : aF σ_s_72 (ad E a 39) = f39 := (hM9.a (by decide) (by decide)).trans e_52
  have e_78 : aF σ_s_72 (ad E a 40) = f40 := (hM9.a (by decide) (by decide)).trans e_53
  have e_79 : aF σ_s_72 (ad E a 42) = f42 := (hM9.a (by decide) (by decide)).trans e_54
  have e_80 : aF σ_s_72 (ad E a 43) = f43 := (hM9.a (by decide) (by decide)).trans e_55
  have e_81 : aF σ_s_72 (ad E a 44) = f44 := (hM9.a (by decide) (by decide)).trans e_56
  have e_82 : aF σ_s_72 (ad E a 45) = f45 := (hM9.a (by decide) (by decide)).trans e_57
  have e_83 : aF σ_s_72 (ad E a 46) = f46 := (hM9.a (by decide) (by decide)).trans e_58
  have e_84 : aF σ_s_72 (ad E a 52) = f52 := (hM9.a (by decide) (by decide)).trans e_59
  have e_85 : aF σ_s_72 (ad E a 53) = f53 := (hM9.a (by decide) (by decide)).trans e_60
  have e_86 : aF σ_s_72 (ad E a 4) = f4 := (hM9.a (by decide) (by decide)).trans e_61
  have e_87 : aF σ_s_72 (ad E a 63) = f63 := (hM9.a (by decide) (by decide)).trans e_62
  have e_88 : aF σ_s_72 (ad E a 64) = f64 := (hM9.a (by decide) (by decide)).trans e_63
  have e_89 : aF σ_s_72 (ad E a 65) = f65 := (hM9.a (by decide) (by decide)).trans e_64
  have e_90 : gI σ_s_72 a 36 = a360 := (hM9.i (by decide)).trans e_65
  have e_91 : gI σ_s_72 a 12 = a120 := (hM9.i (by decide)).trans e_66
  have e_92 : gI σ_s_72 a 0 = 0 := (hM9.i (by decide)).trans e_67
  have e_93 : gI σ_s_72 a 58 = 1 := (hM9.i (by decide)).trans e_68
  have e_94 : gI σ_s_72 a 59 = a360 := (hM9.i (by decide)).trans e_69
  have e_95 : gI σ_s_72 a 51 = z_70 := (hM9.i (by decide)).trans e_71
  have e_96 := hg9
  refine lv_aload_n hx hb dX11_image_26 rfl (lv_at hl 0 rfl) ?_
  refine ok.getR hO h_a (by decide) k13_61 (by decide) (fun _ _ he hv kk => th_get (ci := 11) (C := RX11) (T := TX11) (N := 66) hx hb hts inX11 hown hK hH he rfl 61 (by decide) fl6 hv dX11_image_27 kk) ?_
  refine lv_aload_n hx hb dX11_image_30 rfl (lv_at hl 0 rfl) ?_
  refine ok.getR hO h_a (by decide) k13_1 (by decide) (fun _ _ he hv kk => th_get (ci := 11) (C := RX11) (T := TX11) (N := 66) hx hb hts inX11 hown hK hH he rfl 1 (by decide) fl7 hv dX11_image_31 kk) ?_
  refine th_callv (va_runS (As := [.ref (ad E a 61), .ref (ad E a 1)]) (rest := []) ⟨hx, hb, hml, hown, hts⟩ (w_copy61_1 l G y b0 σ_s_72 E hO a h_a f61 e_75 f1 e_73) (va_cwS 2 hts gX11_image_X11_copyTo rfl rfl rfl (by decide +kernel) ⟨Nat.le_of_ble_eq_true rfl, Nat.le_of_ble_eq_true rfl⟩) (th_PS hK hH) rfl rfl hl.1 rfl (lv_room (Nat.le_of_ble_eq_true rfl)) dX11_image_34 ⟨Nat.le_of_ble_eq_true rfl, Nat.le_of_ble_eq_true rfl⟩) hS (fun σ_s_98 H locs hw_97 hH hS => ?_)
  obtain ⟨hO9, hF9, hM9, hw_97⟩ := hw_97
  replace hM := hM.tu hM9 (by decide)
  replace hF := hF.tu hF9 (by decide)
  have e_99 : aF σ_s_98 (ad E a 1) = f1 := (hM9.a (by decide) (by decide)).trans e_73
  have e_100 : aF σ_s_98 (ad E a 37) = f37 := (hM9.a (by decide) (by decide)).trans e_74
  have e_101 : aF σ_s_98 (ad E a 62) = f62 := (hM9.a (by decide) (by decide)).trans e_76
  have e_102 : aF σ_s_98 (ad E a 39) = f39 := (hM9.a (by decide) (by decide)).trans e_77
  have e_103 : aF σ_s_98 (ad E a 40) = f40 := (hM9.a (by decide) (by decide)).trans e_78
  have e_104 : aF σ_s_98 (ad E a 42) = f42 := (hM9.a (by decide) (by decide)).trans e_79
  have e_105 : aF σ_s_98 (ad E a 43) = f43 := (hM9.a (by decide) (by decide)).trans e_80
  have e_106 : aF σ_s_98 (ad E a 44) = f44 := (hM9.a (by decide) (by decide)).trans e_81
  have e_107 : aF σ_s_98 (ad E a 45) = f45 := (hM9.a (by decide) (by decide)).trans e_82
  have e_108 : aF σ_s_98 (ad E a 46) = f46 := (hM9.a (by decide) (by decide)).trans e_83
  have e_109 : aF σ_s_98 (ad E a 52) = f52 := (hM9.a (by decide) (by decide)).trans e_84
  have e_110 : aF σ_s_98 (ad E a 53) = f53 := (hM9.a (by decide) (by decide)).trans e_85
  have e_111 : aF σ_s_98 (ad E a 4) = f4 := (hM9.a (by decide) (by decide)).trans e_86
  have e_112 : aF σ_s_98 (ad E a 63) = f63 := (hM9.a (by decide) (by decide)).trans e_87
  have e_113 : aF σ_s_98 (ad E a 64) = f64 := (hM9.a (by decide) (by decide)).trans e_88
  have e_114 : aF σ_s_98 (ad E a 65) = f65 := (hM9.a (by decide) (by decide)).trans e_89
  have e_115 : gI σ_s_98 a 36 = a360 := (hM9.i (by decide)).trans e_90
  have e_116 : gI σ_s_98 a 12 = a120 := (hM9.i (by decide)).trans e_91
  have e_117 : gI σ_s_98 a 0 = 0 := (hM9.i (by decide)).trans e_92
  have e_118 : gI σ_s_98 a 58 = 1 := (hM9.i (by decide)).trans e_93
  have e_119 : gI σ_s_98 a 59 = a360 := (hM9.i (by decide)).trans e_94
  have e_120 : gI σ_s_98 a 51 = z_70 := (hM9.i (by decide)).trans e_95
  have e_121 : gI σ_s_98 a 60 = z_70 := (hM9.i (by decide)).trans e_96
  replace hO := hO9
  generalize ef_123 : aF σ_s_98 (ad E a 61) = g_122 at hw_97
  have hw_97 : cel 240 f1 g_122 := hw_97
  refine lv_aload_n hx hb dX11_image_37 rfl (lv_at hl 0 rfl) ?_
  refine ok.getR hO h_a (by decide) k13_62 (by decide) (fun _ _ he hv kk => th_get (ci := 11) (C := RX11) (T := TX11) (N := 66) hx hb hts inX11 hown hK hH he rfl 62 (by decide) fl8 hv dX11_image_38 kk) ?_
  refine lv_aload_n hx hb dX11_image_41 rfl (lv_at hl 0 rfl) ?_
  refine ok.getR hO h_a (by decide) k13_37 (by decide) (fun _ _ he hv kk => th_get (ci := 11) (C := RX11) (T := TX11) (N := 66) hx hb hts inX11 hown hK hH he rfl 37 (by decide) fl9 hv dX11_image_42 kk) ?_
  refine th_callv (va_runS (As := [.ref (ad E a 62), .ref (ad E a 37)]) (rest := []) ⟨hx, hb, hml, hown, hts⟩ (w_copy62_37 l G y b0 σ_s_98 E hO a h_a f62 e_101 f37 e_100) (va_cwS 2 hts gX11_image_X11_copyTo rfl rfl rfl (by decide +kernel) ⟨Nat.le_of_ble_eq_true rfl, Nat.le_of_ble_eq_true rfl⟩) (th_PS hK hH) rfl rfl hl.1 rfl (lv_room (Nat.le_of_ble_eq_true rfl)) dX11_image_45 ⟨Nat.le_of_ble_eq_true rfl, Nat.le_of_ble_eq_true rfl⟩) hS (fun σ_s_125 H locs hw_124 hH hS => ?_)
  obtain ⟨hO9, hF9, hM9, hw_124⟩ := hw_124
  replace hM := hM.tu hM9 (by decide)
  replace hF := hF.tu hF9 (by decide)
  have e_126 : aF σ_s_125 (ad E a 1) = f1 := (hM9.a (by decide) (by decide)).trans e_99
  have e_127 : aF σ_s_125 (ad E a 37) = f37 := (hM9.a (by decide) (by decide)).trans e_100
  have e_128 : aF σ_s_125 (ad E a 39) = f39 := (hM9.a (by decide) (by decide)).trans e_102
  have e_129 : aF σ_s_125 (ad E a 40) = f40 := (hM9.a (by decide) (by decide)).trans e_103
  have e_130 : aF σ_s_125 (ad E a 42) = f42 := (hM9.a (by decide) (by decide)).trans e_104
  have e_131 : aF σ_s_125 (ad E a 43) = f43 := (hM9.a (by decide) (by decide)).trans e_105
  have e_132 : aF σ_s_125 (ad E a 44) = f44 := (hM9.a (by decide) (by decide)).trans e_106
  have e_133 : aF σ_s_125 (ad E a 45) = f45 := (hM9.a (by decide) (by decide)).trans e_107
  have e_134 : aF σ_s_125 (ad E a 46) = f46 := (hM9.a (by decide) (by decide)).trans e_108
  have e_135 : aF σ_s_125 (ad E a 52) = f52 := (hM9.a (by decide) (by decide)).trans e_109
  have e_136 : aF σ_s_125 (ad E a 53) = f53 := (hM9.a (by decide) (by decide)).trans e_110
  have e_137 : aF σ_s_125 (ad E a 4) = f4 := (hM9.a (by decide) (by decide)).trans e_111
  have e_138 : aF σ_s_125 (ad E a 63) = f63 := (hM9.a (by decide) (by decide)).trans e_112
  have e_139 : aF σ_s_125 (ad E a 64) = f64 := (hM9.a (by decide) (by decide)).trans e_113
  have e_140 : aF σ_s_125 (ad E a 65) = f65 := (hM9.a (by decide) (by decide)).trans e_114
  have e_141 : gI σ_s_125 a 36 = a360 := (hM9.i (by decide)).trans e_115
  have e_142 : gI σ_s_125 a 12 = a120 := (hM9.i (by decide)).trans e_116
  have e_143 : gI σ_s_125 a 0 = 0 := (hM9.i (by decide)).trans e_117
  have e_144 : gI σ_s_125 a 58 = 1 := (hM9.i (by decide)).trans e_118
  have e_145 : gI σ_s_125 a 59 = a360 := (hM9.i (by decide)).trans e_119
  have e_146 : gI σ_s_125 a 51 = z_70 := (hM9.i (by decide)).trans e_120
  have e_147 : gI σ_s_125 a 60 = z_70 := (hM9.i (by decide)).trans e_121
  have e_148 : aF σ_s_125 (ad E a 61) = g_122 := (hM9.a (by decide) (by decide)).trans ef_123
  replace hO := hO9
  generalize ef_150 : aF σ_s_125 (ad E a 62) = g_149 at hw_124
  have hw_124 : cel 9600 f37 g_149 := hw_124
  refine lv_aload_n hx hb dX11_image_48 rfl (lv_at hl 0 rfl) ?_
  refine ok.getR hO h_a (by decide) k13_63 (by decide) (fun _ _ he hv kk => th_get (ci := 11) (C := RX11) (T := TX11) (N := 66) hx hb hts inX11 hown hK hH he rfl 63 (by decide) fl10 hv dX11_image_49 kk) ?_
  refine lv_aload_n hx hb dX11_image_52 rfl (lv_at hl 0 rfl) ?_
  refine ok.getR hO h_a (by decide) k13_52 (by decide) (fun _ _ he hv kk => th_get (ci := 11) (C := RX11) (T := TX11) (N := 66) hx hb hts inX11 hown hK hH he rfl 52 (by decide) fl11 hv dX11_image_53 kk) ?_
  refine th_callv (va_runS (As := [.ref (ad E a 63), .ref (ad E a 52)]) (rest := []) ⟨hx, hb, hml, hown, hts⟩ (w_copy63_52 l G y b0 σ_s_125 E hO a h_a f63 e_138 f52 e_135) (va_cwS 2 hts gX11_image_X11_copyTo rfl rfl rfl (by decide +kernel) ⟨Nat.le_of_ble_eq_true rfl, Nat.le_of_ble_eq_true rfl⟩) (th_PS hK hH) rfl rfl hl.1 rfl (lv_room (Nat.le_of_ble_eq_true rfl)) dX11_image_56 ⟨Nat.le_of_ble_eq_true rfl, Nat.le_of_ble_eq_true rfl⟩) hS (fun σ_s_152 H locs hw_151 hH hS => ?_)
  obtain ⟨hO9, hF9, hM9, hw_151⟩ := hw_151
  replace hM := hM.tu hM9 (by decide)
  replace hF := hF.tu hF9 (by decide)
  have e_153 : aF σ_s_152 (ad E a 1) = f1 := (hM9.a (by decide) (by decide)).trans e_126
  have e_154 : aF σ_s_152 (ad E a 37) = f37 := (hM9.a (by decide) (by decide)).trans e_127
  have e_155 : aF σ_s_152 (ad E a 39) = f39 := (hM9.a (by decide) (by decide)).trans e_128
  have e_156 : aF σ_s_152 (ad E a 40) = f40 := (hM9.a (by decide) (by decide)).trans e_129
  have e_157 : aF σ_s_152 (ad E a 42) = f42 := (hM9.a (by decide) (by decide)).trans e_130
  have e_158 : aF σ_s_152 (ad E a 43) = f43 := (hM9.a (by decide) (by decide)).trans e_131
  have e_159 : aF σ_s_152 (ad E a 44) = f44 := (hM9.a (by decide) (by decide)).trans e_132
  have e_160 : aF σ_s_152 (ad E a 45) = f45 := (hM9.a (by decide) (by decide)).trans e_133
  have e_161 : aF σ_s_152 (ad E a 46) = f46 := (hM9.a (by decide) (by decide)).trans e_134
  have e_162 : aF σ_s_152 (ad E a 52) = f52 := (hM9.a (by decide) (by decide)).trans e_135
  have e_163 : aF σ_s_152 (ad E a 53) = f53 := (hM9.a (by decide) (by decide)).trans e_136
  have e_164 : aF σ_s_152 (ad E a 4) = f4 := (hM9.a (by decide) (by decide)).trans e_137
  have e_165 : aF σ_s_152 (ad E a 64) = f64 := (hM9.a (by decide) (by decide)).trans e_139
  have e_166 : aF σ_s_152 (ad E a 65) = f65 := (hM9.a (by decide) (by decide)).trans e_140
  have e_167 : gI σ_s_152 a 36 = a360 := (hM9.i (by decide)).trans e_141
  have e_168 : gI σ_s_152 a 12 = a120 := (hM9.i (by decide)).trans e_142
  have e_169 : gI σ_s_152 a 0 = 0 := (hM9.i (by decide)).trans e_143
  have e_170 : gI σ_s_152 a 58 = 1 := (hM9.i (by decide)).trans e_144
  have e_171 : gI σ_s_152 a 59 = a360 := (hM9.i (by decide)).trans e_145
  have e_172 : gI σ_s_152 a 51 = z_70 := (hM9.i (by decide)).trans e_146
  have e_173 : gI σ_s_152 a 60 = z_70 := (hM9.i (by decide)).trans e_147
  have e_174 : aF σ_s_152 (ad E a 61) = g_122 := (hM9.a (by decide) (by decide)).trans e_148
  have e_175 : aF σ_s_152 (ad E a 62) = g_149 := (hM9.a (by decide) (by decide)).trans ef_150
  replace hO := hO9
  generalize ef_177 : aF σ_s_152 (ad E a 63) = g_176 at hw_151
  have hw_151 : cel 8 f52 g_176 := hw_151
  refine lv_aload_n hx hb dX11_image_59 rfl (lv_at hl 0 rfl) ?_
  refine ok.getR hO h_a (by decide) k13_64 (by decide) (fun _ _ he hv kk => th_get (ci := 11) (C := RX11) (T := TX11) (N := 66) hx hb hts inX11 hown hK hH he rfl 64 (by decide) fl12 hv dX11_image_60 kk) ?_
  refine lv_aload_n hx hb dX11_image_63 rfl (lv_at hl 0 rfl) ?_
  refine ok.getR hO h_a (by decide) k13_53 (by decide) (fun _ _ he hv kk => th_get (ci := 11) (C := RX11) (T := TX11) (N := 66) hx hb hts inX11 hown hK hH he rfl 53 (by decide) fl13 hv dX11_image_64 kk) ?_
  refine th_callv (va_runS (As := [.ref (ad E a 64), .ref (ad E a 53)]) (rest := []) ⟨hx, hb, hml, hown, hts⟩ (w_copy64_53 l G y b0 σ_s_152 E hO a h_a f64 e_165 f53 e_163) (va_cwS 2 hts gX11_image_X11_copyTo rfl rfl rfl (by decide +kernel) ⟨Nat.le_of_ble_eq_true rfl, Nat.le_of_ble_eq_true rfl⟩) (th_PS hK hH) rfl rfl hl.1 rfl (lv_room (Nat.le_of_ble_eq_true rfl)) dX11_image_67 ⟨Nat.le_of_ble_eq_true rfl, Nat.le_of_ble_eq_true rfl⟩) hS (fun σ_s_179 H locs hw_178 hH hS => ?_)
  obtain ⟨hO9, hF9, hM9, hw_178⟩ := hw_178
  replace hM := hM.tu hM9 (by decide)
  replace hF := hF.tu hF9 (by decide)
  have e_180 : aF σ_s_179 (ad E a 1) = f1 := (hM9.a (by decide) (by decide)).trans e_153
  have e_181 : aF σ_s_179 (ad E a 37) = f37 := (hM9.a (by decide) (by decide)).trans e_154
  have e_182 : aF σ_s_179 (ad E a 39) = f39 := (hM9.a (by decide) (by decide)).trans e_155
  have e_183 : aF σ_s_179 (ad E a 40) = f40 := (hM9.a (by decide) (by decide)).trans e_156
  have e_184 : aF σ_s_179 (ad E a 42) = f42 := (hM9.a (by decide) (by decide)).trans e_157
  have e_185 : aF σ_s_179 (ad E a 43) = f43 := (hM9.a (by decide) (by decide)).trans e_158
  have e_186 : aF σ_s_179 (ad E a 44) = f44 := (hM9.a (by decide) (by decide)).trans e_159
  have e_187 : aF σ_s_179 (ad E a 45) = f45 := (hM9.a (by decide) (by decide)).trans e_160
  have e_188 : aF σ_s_179 (ad E a 46) = f46 := (hM9.a (by decide) (by decide)).trans e_161
  have e_189 : aF σ_s_179 (ad E a 52) = f52 := (hM9.a (by decide) (by decide)).trans e_162
  have e_190 : aF σ_s_179 (ad E a 53) = f53 := (hM9.a (by decide) (by decide)).trans e_163
  have e_191 : aF σ_s_179 (ad E a 4) = f4 := (hM9.a (by decide) (by decide)).trans e_164
  have e_192 : aF σ_s_179 (ad E a 65) = f65 := (hM9.a (by decide) (by decide)).trans e_166
  have e_193 : gI σ_s_179 a 36 = a360 := (hM9.i (by decide)).trans e_167
  have e_194 : gI σ_s_179 a 12 = a120 := (hM9.i (by decide)).trans e_168
  have e_195 : gI σ_s_179 a 0 = 0 := (hM9.i (by decide)).trans e_169
  have e_196 : gI σ_s_179 a 58 = 1 := (hM9.i (by decide)).trans e_170
  have e_197 : gI σ_s_179 a 59 = a360 := (hM9.i (by decide)).trans e_171
  have e_198 : gI σ_s_179 a 51 = z_70 := (hM9.i (by decide)).trans e_172
  have e_199 : gI σ_s_179 a 60 = z_70 := (hM9.i (by decide)).trans e_173
  have e_200 : aF σ_s_179 (ad E a 61) = g_122 := (hM9.a (by decide) (by decide)).trans e_174
  have e_201 : aF σ_s_179 (ad E a 62) = g_149 := (hM9.a (by decide) (by decide)).trans e_175
  have e_202 : aF σ_s_179 (ad E a 63) = g_176 := (hM9.a (by decide) (by decide)).trans ef_177
  replace hO := hO9
  generalize ef_204 : aF σ_s_179 (ad E a 64) = g_203 at hw_178
  have hw_178 : cel 8 f53 g_203 := hw_178
  refine lv_aload_n hx hb dX11_image_70 rfl (lv_at hl 0 rfl) ?_
  refine ok.getR hO h_a (by decide) k13_65 (by decide) (fun _ _ he hv kk => th_get (ci := 11) (C := RX11) (T := TX11) (N := 66) hx hb hts inX11 hown hK hH he rfl 65 (by decide) fl14 hv dX11_image_71 kk) ?_
  refine lv_aload_n hx hb dX11_image_74 rfl (lv_at hl 0 rfl) ?_
  refine ok.getR hO h_a (by decide) k13_4 (by decide) (fun _ _ he hv kk => th_get (ci := 11) (C := RX11) (T := TX11) (N := 66) hx hb hts inX11 hown hK hH he rfl 4 (by decide) fl15 hv dX11_image_75 kk) ?_
  refine th_callv (va_runS (As := [.ref (ad E a 65), .ref (ad E a 4)]) (rest := []) ⟨hx, hb, hml, hown, hts⟩ (w_copy65_4 l G y b0 σ_s_179 E hO a h_a f65 e_192 f4 e_191) (va_cwS 2 hts gX11_image_X11_copyTo rfl rfl rfl (by decide +kernel) ⟨Nat.le_of_ble_eq_true rfl, Nat.le_of_ble_eq_true rfl⟩) (th_PS hK hH) rfl rfl hl.1 rfl (lv_room (Nat.le_of_ble_eq_true rfl)) dX11_image_78 ⟨Nat.le_of_ble_eq_true rfl, Nat.le_of_ble_eq_true rfl⟩) hS (fun σ_s_206 H locs hw_205 hH hS => ?_)
  obtain ⟨hO9, hF9, hM9, hw_205⟩ := hw_205
  replace hM := hM.tu hM9 (by decide)
  replace hF := hF.tu hF9 (by decide)
  have e_207 : aF σ_s_206 (ad E a 1) = f1 := (hM9.a (by decide) (by decide)).trans e_180
  have e_208 : aF σ_s_206 (ad E a 37) = f37 := (hM9.a (by decide) (by decide)).trans e_181
  have e_209 : aF σ_s_206 (ad E a 39) = f39 := (hM9.a (by decide) (by decide)).trans e_182
  have e_210 : aF σ_s_206 (ad E a 40) = f40 := (hM9.a (by decide) (by decide)).trans e_183
  have e_211 : aF σ_s_206 (ad E a 42) = f42 := (hM9.a (by decide) (by decide)).trans e_184
  have e_212 : aF σ_s_206 (ad E a 43) = f43 := (hM9.a (by decide) (by decide)).trans e_185
  have e_213 : aF σ_s_206 (ad E a 44) = f44 := (hM9.a (by decide) (by decide)).trans e_186
  have e_214 : aF σ_s_206 (ad E a 45) = f45 := (hM9.a (by decide) (by decide)).trans e_187
  have e_215 : aF σ_s_206 (ad E a 46) = f46 := (hM9.a (by decide) (by decide)).trans e_188
  have e_216 : aF σ_s_206 (ad E a 52) = f52 := (hM9.a (by decide) (by decide)).trans e_189
  have e_217 : aF σ_s_206 (ad E a 53) = f53 := (hM9.a (by decide) (by decide)).trans e_190
  have e_218 : aF σ_s_206 (ad E a 4) = f4 := (hM9.a (by decide) (by decide)).trans e_191
  have e_219 : gI σ_s_206 a 36 = a360 := (hM9.i (by decide)).trans e_193
  have e_220 : gI σ_s_206 a 12 = a120 := (hM9.i (by decide)).trans e_194
  have e_221 : gI σ_s_206 a 0 = 0 := (hM9.i (by decide)).trans e_195
  have e_222 : gI σ_s_206 a 58 = 1 := (hM9.i (by decide)).trans e_196
  have e_223 : gI σ_s_206 a 59 = a360 := (hM9.i (by decide)).trans e_197
  have e_224 : gI σ_s_206 a 51 = z_70 := (hM9.i (by decide)).trans e_198
  have e_225 : gI σ_s_206 a 60 = z_70 := (hM9.i (by decide)).trans e_199
  have e_226 : aF σ_s_206 (ad E a 61) = g_122 := (hM9.a (by decide) (by decide)).trans e_200
  have e_227 : aF σ_s_206 (ad E a 62) = g_149 := (hM9.a (by decide) (by decide)).trans e_201
  have e_228 : aF σ_s_206 (ad E a 63) = g_176 := (hM9.a (by decide) (by decide)).trans e_202
  have e_229 : aF σ_s_206 (ad E a 64) = g_203 := (hM9.a (by decide) (by decide)).trans ef_204
  replace hO := hO9
  generalize ef_231 : aF σ_s_206 (ad E a 65) = g_230 at hw_205
  have hw_205 : cel 3 f4 g_230 := hw_205
  exact th_vret hx hb hr hlocks hH hS ⟨hO, hF, hM, by rw [show aF σ_s_206 (ad E a 1) = f1 from e_207, show aF σ_s_206 (ad E a 37) = f37 from e_208, show aF σ_s_206 (ad E a 61) = g_122 from e_226, show aF σ_s_206 (ad E a 62) = g_149 from e_227, show aF σ_s_206 (ad E a 39) = f39 from e_209, show aF σ_s_206 (ad E a 40) = f40 from e_210, show aF σ_s_206 (ad E a 42) = f42 from e_211, show aF σ_s_206 (ad E a 43) = f43 from e_212, show aF σ_s_206 (ad E a 44) = f44 from e_213, show aF σ_s_206 (ad E a 45) = f45 from e_214, show aF σ_s_206 (ad E a 46) = f46 from e_215]; have h9 : ∀ x : Nat, x < 240 → _ := hw_97; have h8 := hw_124; exact ⟨⟨hj.1, hj.2.1.le (Int.le_of_eq (e_219.trans ea360.symm)), Or.inr ⟨hj.1.ext (same.of h9), ((hj.2.1.cells (by rw [ea360]; exact ua360) h8).le (Int.le_of_eq (e_223.trans ea360.symm)))⟩, hj.2.2.2⟩, (e_220.trans ea120.symm), e_222⟩⟩ dX11_image_81

set_option maxHeartbeats 4000000 in
set_option maxRecDepth 100000 in
theorem j_restore (l : Launch) (G : va_G) (y : Nat → ClassId) (b0 : Nat) (σ : th_M) (E : th_E) (hO : ok y E σ) (a : Nat) (h_a : kd E a = 13) (f1 : Nat → Int32) (ef1 : aF σ (ad E a 1) = f1) (f37 : Nat → Int32) (ef37 : aF σ (ad E a 37) = f37) (f61 : Nat → Int32) (ef61 : aF σ (ad E a 61) = f61) (f62 : Nat → Int32) (ef62 : aF σ (ad E a 62) = f62) (f39 : Nat → Int32) (ef39 : aF σ (ad E a 39) = f39) (f40 : Nat → Int32) (ef40 : aF σ (ad E a 40) = f40) (f42 : Nat → Int32) (ef42 : aF σ (ad E a 42) = f42) (f43 : Nat → Int32) (ef43 : aF σ (ad E a 43) = f43) (f44 : Nat → Int32) (ef44 : aF σ (ad E a 44) = f44) (f45 : Nat → Int32) (ef45 : aF σ (ad E a 45) = f45) (f46 : Nat → Int32) (ef46 : aF σ (ad E a 46) = f46) (f52 : Nat → Int32) (ef52 : aF σ (ad E a 52) = f52) (f53 : Nat → Int32) (ef53 : aF σ (ad E a 53) = f53) (f4 : Nat → Int32) (ef4 : aF σ (ad E a 4) = f4) (f63 : Nat → Int32) (ef63 : aF σ (ad E a 63) = f63) (f64 : Nat → Int32) (ef64 : aF σ (ad E a 64) = f64) (f65 : Nat → Int32) (ef65 : aF σ (ad E a 65) = f65) (hy0 : jw f1 f37 f61 f62 f39 f40 f42 f43 f44 f45 f46 (gI σ a 36) (gI σ a 58) (gI σ a 59)) : Met l yX11_restore wsX11_restore ({ frames := 1, cells := 0, slots := 0, locals := 26 }) (th_P G y b0 σ [.ref a]) (th_Qi G b0 (fun r σ1 => ok y E σ1 ∧ fr [13] E σ σ1 ∧ fm [0, 1, 4, 36, 37, 51, 52, 53] E σ σ1 a ∧ (0 ≤ r ∧ r ≤ 1) ∧ (jw (aF σ1 (ad E a 1)) (aF σ1 (ad E a 37)) (aF σ1 (ad E a 61)) (aF σ1 (ad E a 62)) (aF σ1 (ad E a 39)) (aF σ1 (ad E a 40)) (aF σ1 (ad E a 42)) (aF σ1 (ad E a 43)) (aF σ1 (ad E a 44)) (aF σ1 (ad E a 45)) (aF σ1 (ad E a 46)) (gI σ1 a 36) (gI σ1 a 58) (gI σ1 a 59) ∧ gI σ1 a 12 = gI σ a 12 ∧ r = gI σ a 58))) 0 0 (th_A b0) := by
  refine Met.ofW (cc := cX11_restore) (maxL := 1) (ret := (some .boolean)) (by decide) rfl ?_
  intro p e s m args below meth c s₁ B hml hv
  obtain ⟨rfl, hH, hK⟩ := hv
  have hx := B.exec
  have hb := B.bytes
  have hr := B.returns
  have hts := atoms_spec (ws := wsX11_restore) B.pre
  have hown : s.vm.findClass RX11 = some m.cls := findClass_of_methodNamed B.named
  have hlocks := B.notSynchronized
  have h00 : b0 ≤ s.heap.size := hH.1
  have hS : va_S (th_A b0) s.heap s.heap [] := va_S.rf
  have hF : fr [13] E σ σ := fr.rf
  have hM : fm [0, 1, 4, 36, 37, 51, 52, 53] E σ σ a := fm.rf
  have hj := hy0
  have hw1 := hj.1.1.1
  have hm1 := hj.1.2.1
  have hm2 := hj.1.2.2.1
  have hm3 := hj.2.2.2.2.1
  have hm4 := hj.2.2.2.2.2.1
  have inX11 : ∀ w ∈ wsX110, w ∈ wsX11_restore := by decide +kernel
  have fl0 := hts (.fieldLink RX11 111 "NestQueryModel" "code" "I") (by decide +kernel)
  have fl1 := hts (.fieldLink RX11 238 "NestQueryModel" "hasImage" "Z") (by decide +kernel)
  have fl2 := hts (.fieldLink RX11 539 "NestQueryModel" "actsThen" "I") (by decide +kernel)
  have fl3 := hts (.fieldLink RX11 232 "NestQueryModel" "acts" "I") (by decide +kernel)
  have fl4 := hts (.fieldLink RX11 542 "NestQueryModel" "notedThen" "I") (by decide +kernel)
  have fl5 := hts (.fieldLink RX11 235 "NestQueryModel" "noted" "I") (by decide +kernel)
  have fl6 := hts (.fieldLink RX11 9 "NestQueryModel" "tree" "[I") (by decide +kernel)
  have fl7 := hts (.fieldLink RX11 93 "NestQueryModel" "imageTree" "[I") (by decide +kernel)
  have fl8 := hts (.fieldLink RX11 48 "NestQueryModel" "past" "[I") (by decide +kernel)
  have fl9 := hts (.fieldLink RX11 96 "NestQueryModel" "pastThen" "[I") (by decide +kernel)
  have fl10 := hts (.fieldLink RX11 81 "NestQueryModel" "notedThing" "[I") (by decide +kernel)
  have fl11 := hts (.fieldLink RX11 99 "NestQueryModel" "notedThingThen" "[I") (by decide +kernel)
  have fl12 := hts (.fieldLink RX11 84 "NestQueryModel" "notedIs" "[I") (by decide +kernel)
  have fl13 := hts (.fieldLink RX11 102 "NestQueryModel" "notedIsThen" "[I") (by decide +kernel)
  have fl14 := hts (.fieldLink RX11 19 "NestQueryModel" "status" "[I") (by decide +kernel)
  have fl15 := hts (.fieldLink RX11 105 "NestQueryModel" "statusThen" "[I") (by decide +kernel)
  have hl := lv_entry ([.ref a]) (n := 1) (Nat.le_of_ble_eq_true rfl)
  rw [lg_entry_eq]
  generalize (lg_sl ([.ref a]) ++ List.replicate (1 - (lg_sl ([.ref a])).length) Slot.unset).toArray = ls at hl ⊢
  have hl : lv_has ls 1 [(0, .ref a)] := hl
  obtain ⟨a360, ea360, ra360, la360, ua360⟩ := hO.gi h_a (by decide) k13_36
  obtain ⟨a580, ea580, ra580, la580, ua580⟩ := hO.gi h_a (by decide) k13_58
  obtain ⟨a590, ea590, ra590, la590, ua590⟩ := hO.gi h_a (by decide) k13_59
  obtain ⟨a120, ea120, ra120, la120, ua120⟩ := hO.gi h_a (by decide) k13_12
  refine lv_aload_n hx hb dX11_restore_0 rfl (lv_at hl 0 rfl) ?_
  refine lv_iconst (v := I 0) hx hb dX11_restore_1 (by decide) ?_
  refine ok.putJ hO h_a k13_0 (show rng 0 from ⟨by decide, by decide⟩) (by omega) (by omega) (fun _ he hl9 kk => th_put (ci := 11) (v := .int (I 0)) (ty := .int) (C := RX11) (T := TX11) (N := 66) hx hb hts inX11 tyX11 tyX11_ok nmX11 hown hK hH hS h00 he rfl 0 (by decide) fl0 rfl (by decide +kernel) rfl rfl hl9 dX11_restore_2 kk) (fun σ_s_1 H locs hO hF9 hM9 hg9 ha9 hH hS => ?_)
  replace hM := hM.tu hM9 (by decide)
  replace hF := hF.tu hF9 (by decide)
  have e_2 : aF σ_s_1 (ad E a 1) = f1 := (hM9.a (by decide) (by decide)).trans ef1
  have e_3 : aF σ_s_1 (ad E a 37) = f37 := (hM9.a (by decide) (by decide)).trans ef37
  have e_4 : aF σ_s_1 (ad E a 61) = f61 := (hM9.a (by decide) (by decide)).trans ef61
  have e_5 : aF σ_s_1 (ad E a 62) = f62 := (hM9.a (by decide) (by decide)).trans ef62
  have e_6 : aF σ_s_1 (ad E a 39) = f39 := (hM9.a (by decide) (by decide)).trans ef39
  have e_7 : aF σ_s_1 (ad E a 40) = f40 := (hM9.a (by decide) (by decide)).trans ef40
  have e_8 : aF σ_s_1 (ad E a 42) = f42 := (hM9.a (by decide) (by decide)).trans ef42
  have e_9 : aF σ_s_1 (ad E a 43) = f43 := (hM9.a (by decide) (by decide)).trans ef43
  have e_10 : aF σ_s_1 (ad E a 44) = f44 := (hM9.a (by decide) (by decide)).trans ef44
  have e_11 : aF σ_s_1 (ad E a 45) = f45 := (hM9.a (by decide) (by decide)).trans ef45
  have e_12 : aF σ_s_1 (ad E a 46) = f46 := (hM9.a (by decide) (by decide)).trans ef46
  have e_13 : aF σ_s_1 (ad E a 52) = f52 := (hM9.a (by decide) (by decide)).trans ef52
  have e_14 : aF σ_s_1 (ad E a 53) = f53 := (hM9.a (by decide) (by decide)).trans ef53
  have e_15 : aF σ_s_1 (ad E a 4) = f4 := (hM9.a (by decide) (by decide)).trans ef4
  have e_16 : aF σ_s_1 (ad E a 63) = f63 := (hM9.a (by decide) (by decide)).trans ef63
  have e_17 : aF σ_s_1 (ad E a 64) = f64 := (hM9.a (by decide) (by decide)).trans ef64
  have e_18 : aF σ_s_1 (ad E a 65) = f65 := (hM9.a (by decide) (by decide)).trans ef65
  have e_19 : gI σ_s_1 a 36 = a360 := (hM9.i (by decide)).trans ea360
  have e_20 : gI σ_s_1 a 58 = a580 := (hM9.i (by decide)).trans ea580
  have e_21 : gI σ_s_1 a 59 = a590 := (hM9.i (by decide)).trans ea590
  have e_22 : gI σ_s_1 a 12 = a120 := (hM9.i (by decide)).trans ea120
  have e_23 := hg9
  refine lv_aload_n hx hb dX11_restore_5 rfl (lv_at hl 0 rfl) ?_
  refine ok.getIc hO h_a (by decide) k13_58 e_20 (fun _ _ he hv kk => th_get (ci := 11) (C := RX11) (T := TX11) (N := 66) hx hb hts inX11 hown hK hH he rfl 58 (by decide) fl1 hv dX11_restore_6 kk) ?_
  refine lv_if_ne (tgt := 14) hx hb dX11_restore_9 (by decide) (fun c_24 => ?_) (fun c_24 => ?_)
  · replace c_24 := mt (I_eq (a := a580) (b := 0) ra580 (show rng 0 from ⟨by decide, by decide⟩)).mpr c_24
    refine lv_aload_n hx hb dX11_restore_14 rfl (lv_at hl 0 rfl) ?_
    refine lv_aload_n hx hb dX11_restore_15 rfl (lv_at hl 0 rfl) ?_
    refine ok.getIc hO h_a (by decide) k13_59 e_21 (fun _ _ he hv kk => th_get (ci := 11) (C := RX11) (T := TX11) (N := 66) hx hb hts inX11 hown hK hH he rfl 59 (by decide) fl2 hv dX11_restore_16 kk) ?_
    refine ok.putJ hO h_a k13_36 ra590 (by omega) (by omega) (fun _ he hl9 kk => th_put (ci := 11) (v := .int (I a590)) (ty := .int) (C := RX11) (T := TX11) (N := 66) hx hb hts inX11 tyX11 tyX11_ok nmX11 hown hK hH hS h00 he rfl 36 (by decide) fl3 rfl (by decide +kernel) rfl rfl hl9 dX11_restore_19 kk) (fun σ_s_25 H locs hO hF9 hM9 hg9 ha9 hH hS => ?_)
    replace hM := hM.tu hM9 (by decide)
    replace hF := hF.tu hF9 (by decide)
    have e_26 : aF σ_s_25 (ad E a 1) = f1 := (hM9.a (by decide) (by decide)).trans e_2
    have e_27 : aF σ_s_25 (ad E a 37) = f37 := (hM9.a (by decide) (by decide)).trans e_3
    have e_28 : aF σ_s_25 (ad E a 61) = f61 := (hM9.a (by decide) (by decide)).trans e_4
    have e_29 : aF σ_s_25 (ad E a 62) = f62 := (hM9.a (by decide) (by decide)).trans e_5
    have e_30 : aF σ_s_25 (ad E a 39) = f39 := (hM9.a (by decide) (by decide)).trans e_6
    have e_31 : aF σ_s_25 (ad E a 40) = f40 := (hM9.a (by decide) (by decide)).trans e_7
    have e_32 : aF σ_s_25 (ad E a 42) = f42 := (hM9.a (by decide) (by decide)).trans e_8
    have e_33 : aF σ_s_25 (ad E a 43) = f43 := (hM9.a (by decide) (by decide)).trans e_9
    have e_34 : aF σ_s_25 (ad E a 44) = f44 := (hM9.a (by decide) (by decide)).trans e_10
    have e_35 : aF σ_s_25 (ad E a 45) = f45 := (hM9.a (by decide) (by decide)).trans e_11
    have e_36 : aF σ_s_25 (ad E a 46) = f46 := (hM9.a (by decide) (by decide)).trans e_12
    have e_37 : aF σ_s_25 (ad E a 52) = f52 := (hM9.a (by decide) (by decide)).trans e_13
    have e_38 : aF σ_s_25 (ad E a 53) = f53 := (hM9.a (by decide) (by decide)).trans e_14
    have e_39 : aF σ_s_25 (ad E a 4) = f4 := (hM9.a (by decide) (by decide)).trans e_15
    have e_40 : aF σ_s_25 (ad E a 63) = f63 := (hM9.a (by decide) (by decide)).trans e_16
    have e_41 : aF σ_s_25 (ad E a 64) = f64 := (hM9.a (by decide) (by decide)).trans e_17
    have e_42 : aF σ_s_25 (ad E a 65) = f65 := (hM9.a (by decide) (by decide)).trans e_18
    have e_43 : gI σ_s_25 a 58 = a580 := (hM9.i (by decide)).trans e_20
    have e_44 : gI σ_s_25 a 59 = a590 := (hM9.i (by decide)).trans e_21
    have e_45 : gI σ_s_25 a 12 = a120 := (hM9.i (by decide)).trans e_22
    have e_46 : gI σ_s_25 a 0 = 0 := (hM9.i (by decide)).trans e_23
    have e_47 := hg9
    refine lv_aload_n hx hb dX11_restore_22 rfl (lv_at hl 0 rfl) ?_
    refine lv_aload_n hx hb dX11_restore_23 rfl (lv_at hl 0 rfl) ?_
    refine ok.getI hO h_a (by decide) k13_60 (fun _ _ he hv kk => th_get (ci := 11) (C := RX11) (T := TX11) (N := 66) hx hb hts inX11 hown hK hH he rfl 60 (by decide) fl4 hv dX11_restore_24 kk) (fun z_48 e_49 rz_48 lz_48 uz_48 => ?_)
    refine ok.putJ hO h_a k13_51 rz_48 (by omega) (by omega) (fun _ he hl9 kk => th_put (ci := 11) (v := .int (I z_48)) (ty := .int) (C := RX11) (T := TX11) (N := 66) hx hb hts inX11 tyX11 tyX11_ok nmX11 hown hK hH hS h00 he rfl 51 (by decide) fl5 rfl (by decide +kernel) rfl rfl hl9 dX11_restore_27 kk) (fun σ_s_50 H locs hO hF9 hM9 hg9 ha9 hH hS => ?_)
    replace hM := hM.tu hM9 (by decide)
    replace hF := hF.tu hF9 (by decide)
    have e_51 : aF σ_s_50 (ad E a 1) = f1 := (hM9.a (by decide) (by decide)).trans e_26
    have e_52 : aF σ_s_50 (ad E a 37) = f37 := (hM9.a (by decide) (by decide)).trans e_27
    have e_53 : aF σ_s_50 (ad E a 61) = f61 := (hM9.a (by decide) (by decide)).trans e_28
    have e_54 : aF σ_s_50 (ad E a 62) = f62 := (hM9.a (by decide) (by decide)).trans e_29
    have e_55 : aF σ_s_50 (ad E a 39) = f39 := (hM9.a (by decide) (by decide)).trans e_30
    have e_56 : aF σ_s_50 (ad E a 40) = f40 := (hM9.a (by decide) (by decide)).trans e_31
    have e_57 : aF σ_s_50 (ad E a 42) = f42 := (hM9.a (by decide) (by decide)).trans e_32
    have e_58 : aF σ_s_50 (ad E a 43) = f43 := (hM9.a (by decide) (by decide)).trans e_33
    have e_59 : aF σ_s_50 (ad E a 44) = f44 := (hM9.a (by decide) (by decide)).trans e_34
    have e_60 : aF σ_s_50 (ad E a 45) = f45 := (hM9.a (by decide) (by decide)).trans e_35
    have e_61 : aF σ_s_50 (ad E a 46) = f46 := (hM9.a (by decide) (by decide)).trans e_36
    have e_62 : aF σ_s_50 (ad E a 52) = f52 := (hM9.a (by decide) (by decide)).trans e_37
    have e_63 : aF σ_s_50 (ad E a 53) = f53 := (hM9.a (by decide) (by decide)).trans e_38
    have e_64 : aF σ_s_50 (ad E a 4) = f4 := (hM9.a (by decide) (by decide)).trans e_39
    have e_65 : aF σ_s_50 (ad E a 63) = f63 := (hM9.a (by decide) (by decide)).trans e_40
    have e_66 : aF σ_s_50 (ad E a 64) = f64 := (hM9.a (by decide) (by decide)).trans e_41
    have e_67 : aF σ_s_50 (ad E a 65) = f65 := (hM9.a (by decide) (by decide)).trans e_42
    have e_68 : gI σ_s_50 a 58 = a580 := (hM9.i (by decide)).trans e_43
    have e_69 : gI σ_s_50 a 59 = a590 := (hM9.i (by decide)).trans e_44
    have e_70 : gI σ_s_50 a 12 = a120 := (hM9.i (by decide)).trans e_45
    have e_71 : gI σ_s_50 a 0 = 0 := (hM9.i (by decide)).trans e_46
    have e_72 : gI σ_s_50 a 36 = a590 := (hM9.i (by decide)).trans e_47
    have e_73 : gI σ_s_50 a 60 = z_48 := (hM9.i (by decide)).trans e_49
    have e_74 := hg9
    refine lv_aload_n hx hb dX11_restore_30 rfl (lv_at hl 0 rfl) ?_
    refine ok.getR hO h_a (by decide) k13_1 (by decide) (fun _ _ he hv kk => th_get (ci := 11) (C := RX11) (T := TX11) (N := 66) hx hb hts inX11 hown hK hH he rfl 1 (by decide) fl6 hv dX11_restore_31 kk) ?_
    refine lv_aload_n hx hb dX11_restore_34 rfl (lv_at hl 0 rfl) ?_
    refine ok.getR hO h_a (by decide) k13_61 (by decide) (fun _ _ he hv kk => th_get (ci := 11) (C := RX11) (T := TX11) (N := 66) hx hb hts inX11 hown hK hH he rfl 61 (by decide) fl7 hv dX11_restore_35 kk) ?_
    refine th_callv (va_runS (As := [.ref (ad E a 1), .ref (ad E a 61)]) (rest := []) ⟨hx, hb, hml, hown, hts⟩ (w_copy1_61 l G y b0 σ_s_50 E hO a h_a f1 e_51 f61 e_53) (va_cwS 2 hts gX11_restore_X11_copyTo rfl rfl rfl (by decide +kernel) ⟨Nat.le_of_ble_eq_true rfl, Nat.le_of_ble_eq_true rfl⟩) (th_PS hK hH) rfl rfl hl.1 rfl (lv_room (Nat.le_of_ble_eq_true rfl)) dX11_restore_38 ⟨Nat.le_of_ble_eq_true rfl, Nat.le_of_ble_eq_true rfl⟩) hS (fun σ_s_76 H locs hw_75 hH hS => ?_)
    obtain ⟨hO9, hF9, hM9, hw_75⟩ := hw_75
    replace hM := hM.tu hM9 (by decide)
    replace hF := hF.tu hF9 (by decide)
    have e_77 : aF σ_s_76 (ad E a 37) = f37 := (hM9.a (by decide) (by decide)).trans e_52
    have e_78 : aF σ_s_76 (ad E a 61) = f61 := (hM9.a (by decide) (by decide)).trans e_53
    have e_79 : aF σ_s_76 (ad E a 62) = f62 := (hM9.a (by decide) (by decide)).trans e_54
    have e_80 : aF σ_s_76 (ad E a 39) = f39 := (hM9.a (by decide) (by decide)).trans e_55
    have e_81 : aF σ_s_76 (ad E a 40) = f40 := (hM9.a (by decide) (by decide)).trans e_56
    have e_82 : aF σ_s_76 (ad E a 42) = f42 := (hM9.a (by decide) (by decide)).trans e_57
    have e_83 : aF σ_s_76 (ad E a 43) = f43 := (hM9.a (by decide) (by decide)).trans e_58
    have e_84 : aF σ_s_76 (ad E a 44) = f44 := (hM9.a (by decide) (by decide)).trans e_59
    have e_85 : aF σ_s_76 (ad E a 45) = f45 := (hM9.a (by decide) (by decide)).trans e_60
    have e_86 : aF σ_s_76 (ad E a 46) = f46 := (hM9.a (by decide) (by decide)).trans e_61
    have e_87 : aF σ_s_76 (ad E a 52) = f52 := (hM9.a (by decide) (by decide)).trans e_62
    have e_88 : aF σ_s_76 (ad E a 53) = f53 := (hM9.a (by decide) (by decide)).trans e_63
    have e_89 : aF σ_s_76 (ad E a 4) = f4 := (hM9.a (by decide) (by decide)).trans e_64
    have e_90 : aF σ_s_76 (ad E a 63) = f63 := (hM9.a (by decide) (by decide)).trans e_65
    have e_91 : aF σ_s_76 (ad E a 64) = f64 := (hM9.a (by decide) (by decide)).trans e_66
    have e_92 : aF σ_s_76 (ad E a 65) = f65 := (hM9.a (by decide) (by decide)).trans e_67
    have e_93 : gI σ_s_76 a 58 = a580 := (hM9.i (by decide)).trans e_68
    have e_94 : gI σ_s_76 a 59 = a590 := (hM9.i (by decide)).trans e_69
    have e_95 : gI σ_s_76 a 12 = a120 := (hM9.i (by decide)).trans e_70
    have e_96 : gI σ_s_76 a 0 = 0 := (hM9.i (by decide)).trans e_71
    have e_97 : gI σ_s_76 a 36 = a590 := (hM9.i (by decide)).trans e_72
    have e_98 : gI σ_s_76 a 60 = z_48 := (hM9.i (by decide)).trans e_73
    have e_99 : gI σ_s_76 a 51 = z_48 := (hM9.i (by decide)).trans e_74
    replace hO := hO9
    generalize ef_101 : aF σ_s_76 (ad E a 1) = g_100 at hw_75
    have hw_75 : cel 240 f61 g_100 := hw_75
    refine lv_aload_n hx hb dX11_restore_41 rfl (lv_at hl 0 rfl) ?_
    refine ok.getR hO h_a (by decide) k13_37 (by decide) (fun _ _ he hv kk => th_get (ci := 11) (C := RX11) (T := TX11) (N := 66) hx hb hts inX11 hown hK hH he rfl 37 (by decide) fl8 hv dX11_restore_42 kk) ?_
    refine lv_aload_n hx hb dX11_restore_45 rfl (lv_at hl 0 rfl) ?_
    refine ok.getR hO h_a (by decide) k13_62 (by decide) (fun _ _ he hv kk => th_get (ci := 11) (C := RX11) (T := TX11) (N := 66) hx hb hts inX11 hown hK hH he rfl 62 (by decide) fl9 hv dX11_restore_46 kk) ?_
    refine th_callv (va_runS (As := [.ref (ad E a 37), .ref (ad E a 62)]) (rest := []) ⟨hx, hb, hml, hown, hts⟩ (w_copy37_62 l G y b0 σ_s_76 E hO a h_a f37 e_77 f62 e_79) (va_cwS 2 hts gX11_restore_X11_copyTo rfl rfl rfl (by decide +kernel) ⟨Nat.le_of_ble_eq_true rfl, Nat.le_of_ble_eq_true rfl⟩) (th_PS hK hH) rfl rfl hl.1 rfl (lv_room (Nat.le_of_ble_eq_true rfl)) dX11_restore_49 ⟨Nat.le_of_ble_eq_true rfl, Nat.le_of_ble_eq_true rfl⟩) hS (fun σ_s_103 H locs hw_102 hH hS => ?_)
    obtain ⟨hO9, hF9, hM9, hw_102⟩ := hw_102
    replace hM := hM.tu hM9 (by decide)
    replace hF := hF.tu hF9 (by decide)
    have e_104 : aF σ_s_103 (ad E a 61) = f61 := (hM9.a (by decide) (by decide)).trans e_78
    have e_105 : aF σ_s_103 (ad E a 62) = f62 := (hM9.a (by decide) (by decide)).trans e_79
    have e_106 : aF σ_s_103 (ad E a 39) = f39 := (hM9.a (by decide) (by decide)).trans e_80
    have e_107 : aF σ_s_103 (ad E a 40) = f40 := (hM9.a (by decide) (by decide)).trans e_81
    have e_108 : aF σ_s_103 (ad E a 42) = f42 := (hM9.a (by decide) (by decide)).trans e_82
    have e_109 : aF σ_s_103 (ad E a 43) = f43 := (hM9.a (by decide) (by decide)).trans e_83
    have e_110 : aF σ_s_103 (ad E a 44) = f44 := (hM9.a (by decide) (by decide)).trans e_84
    have e_111 : aF σ_s_103 (ad E a 45) = f45 := (hM9.a (by decide) (by decide)).trans e_85
    have e_112 : aF σ_s_103 (ad E a 46) = f46 := (hM9.a (by decide) (by decide)).trans e_86
    have e_113 : aF σ_s_103 (ad E a 52) = f52 := (hM9.a (by decide) (by decide)).trans e_87
    have e_114 : aF σ_s_103 (ad E a 53) = f53 := (hM9.a (by decide) (by decide)).trans e_88
    have e_115 : aF σ_s_103 (ad E a 4) = f4 := (hM9.a (by decide) (by decide)).trans e_89
    have e_116 : aF σ_s_103 (ad E a 63) = f63 := (hM9.a (by decide) (by decide)).trans e_90
    have e_117 : aF σ_s_103 (ad E a 64) = f64 := (hM9.a (by decide) (by decide)).trans e_91
    have e_118 : aF σ_s_103 (ad E a 65) = f65 := (hM9.a (by decide) (by decide)).trans e_92
    have e_119 : gI σ_s_103 a 58 = a580 := (hM9.i (by decide)).trans e_93
    have e_120 : gI σ_s_103 a 59 = a590 := (hM9.i (by decide)).trans e_94
    have e_121 : gI σ_s_103 a 12 = a120 := (hM9.i (by decide)).trans e_95
    have e_122 : gI σ_s_103 a 0 = 0 := (hM9.i (by decide)).trans e_96
    have e_123 : gI σ_s_103 a 36 = a590 := (hM9.i (by decide)).trans e_97
    have e_124 : gI σ_s_103 a 60 = z_48 := (hM9.i (by decide)).trans e_98
    have e_125 : gI σ_s_103 a 51 = z_48 := (hM9.i (by decide)).trans e_99
    have e_126 : aF σ_s_103 (ad E a 1) = g_100 := (hM9.a (by decide) (by decide)).trans ef_101
    replace hO := hO9
    generalize ef_128 : aF σ_s_103 (ad E a 37) = g_127 at hw_102
    have hw_102 : cel 9600 f62 g_127 := hw_102
    refine lv_aload_n hx hb dX11_restore_52 rfl (lv_at hl 0 rfl) ?_
    refine ok.getR hO h_a (by decide) k13_52 (by decide) (fun _ _ he hv kk => th_get (ci := 11) (C := RX11) (T := TX11) (N := 66) hx hb hts inX11 hown hK hH he rfl 52 (by decide) fl10 hv dX11_restore_53 kk) ?_
    refine lv_aload_n hx hb dX11_restore_56 rfl (lv_at hl 0 rfl) ?_
    refine ok.getR hO h_a (by decide) k13_63 (by decide) (fun _ _ he hv kk => th_get (ci := 11) (C := RX11) (T := TX11) (N := 66) hx hb hts inX11 hown hK hH he rfl 63 (by decide) fl11 hv dX11_restore_57 kk) ?_
    refine th_callv (va_runS (As := [.ref (ad E a 52), .ref (ad E a 63)]) (rest := []) ⟨hx, hb, hml, hown, hts⟩ (w_copy52_63 l G y b0 σ_s_103 E hO a h_a f52 e_113 f63 e_116) (va_cwS 2 hts gX11_restore_X11_copyTo rfl rfl rfl (by decide +kernel) ⟨Nat.le_of_ble_eq_true rfl, Nat.le_of_ble_eq_true rfl⟩) (th_PS hK hH) rfl rfl hl.1 rfl (lv_room (Nat.le_of_ble_eq_true rfl)) dX11_restore_60 ⟨Nat.le_of_ble_eq_true rfl, Nat.le_of_ble_eq_true rfl⟩) hS (fun σ_s_130 H locs hw_129 hH hS => ?_)
    obtain ⟨hO9, hF9, hM9, hw_129⟩ := hw_129
    replace hM := hM.tu hM9 (by decide)
    replace hF := hF.tu hF9 (by decide)
    have e_131 : aF σ_s_130 (ad E a 61) = f61 := (hM9.a (by decide) (by decide)).trans e_104
    have e_132 : aF σ_s_130 (ad E a 62) = f62 := (hM9.a (by decide) (by decide)).trans e_105
    have e_133 : aF σ_s_130 (ad E a 39) = f39 := (hM9.a (by decide) (by decide)).trans e_106
    have e_134 : aF σ_s_130 (ad E a 40) = f40 := (hM9.a (by decide) (by decide)).trans e_107
    have e_135 : aF σ_s_130 (ad E a 42) = f42 := (hM9.a (by decide) (by decide)).trans e_108
    have e_136 : aF σ_s_130 (ad E a 43) = f43 := (hM9.a (by decide) (by decide)).trans e_109
    have e_137 : aF σ_s_130 (ad E a 44) = f44 := (hM9.a (by decide) (by decide)).trans e_110
    have e_138 : aF σ_s_130 (ad E a 45) = f45 := (hM9.a (by decide) (by decide)).trans e_111
    have e_139 : aF σ_s_130 (ad E a 46) = f46 := (hM9.a (by decide) (by decide)).trans e_112
    have e_140 : aF σ_s_130 (ad E a 53) = f53 := (hM9.a (by decide) (by decide)).trans e_114
    have e_141 : aF σ_s_130 (ad E a 4) = f4 := (hM9.a (by decide) (by decide)).trans e_115
    have e_142 : aF σ_s_130 (ad E a 63) = f63 := (hM9.a (by decide) (by decide)).trans e_116
    have e_143 : aF σ_s_130 (ad E a 64) = f64 := (hM9.a (by decide) (by decide)).trans e_117
    have e_144 : aF σ_s_130 (ad E a 65) = f65 := (hM9.a (by decide) (by decide)).trans e_118
    have e_145 : gI σ_s_130 a 58 = a580 := (hM9.i (by decide)).trans e_119
    have e_146 : gI σ_s_130 a 59 = a590 := (hM9.i (by decide)).trans e_120
    have e_147 : gI σ_s_130 a 12 = a120 := (hM9.i (by decide)).trans e_121
    have e_148 : gI σ_s_130 a 0 = 0 := (hM9.i (by decide)).trans e_122
    have e_149 : gI σ_s_130 a 36 = a590 := (hM9.i (by decide)).trans e_123
    have e_150 : gI σ_s_130 a 60 = z_48 := (hM9.i (by decide)).trans e_124
    have e_151 : gI σ_s_130 a 51 = z_48 := (hM9.i (by decide)).trans e_125
    have e_152 : aF σ_s_130 (ad E a 1) = g_100 := (hM9.a (by decide) (by decide)).trans e_126
    have e_153 : aF σ_s_130 (ad E a 37) = g_127 := (hM9.a (by decide) (by decide)).trans ef_128
    replace hO := hO9
    generalize ef_155 : aF σ_s_130 (ad E a 52) = g_154 at hw_129
    have hw_129 : cel 8 f63 g_154 := hw_129
    refine lv_aload_n hx hb dX11_restore_63 rfl (lv_at hl 0 rfl) ?_
    refine ok.getR hO h_a (by decide) k13_53 (by decide) (fun _ _ he hv kk => th_get (ci := 11) (C := RX11) (T := TX11) (N := 66) hx hb hts inX11 hown hK hH he rfl 53 (by decide) fl12 hv dX11_restore_64 kk) ?_
    refine lv_aload_n hx hb dX11_restore_67 rfl (lv_at hl 0 rfl) ?_
    refine ok.getR hO h_a (by decide) k13_64 (by decide) (fun _ _ he hv kk => th_get (ci := 11) (C := RX11) (T := TX11) (N := 66) hx hb hts inX11 hown hK hH he rfl 64 (by decide) fl13 hv dX11_restore_68 kk) ?_
    refine th_callv (va_runS (As := [.ref (ad E a 53), .ref (ad E a 64)]) (rest := []) ⟨hx, hb, hml, hown, hts⟩ (w_copy53_64 l G y b0 σ_s_130 E hO a h_a f53 e_140 f64 e_143) (va_cwS 2 hts gX11_restore_X11_copyTo rfl rfl rfl (by decide +kernel) ⟨Nat.le_of_ble_eq_true rfl, Nat.le_of_ble_eq_true rfl⟩) (th_PS hK hH) rfl rfl hl.1 rfl (lv_room (Nat.le_of_ble_eq_true rfl)) dX11_restore_71 ⟨Nat.le_of_ble_eq_true rfl, Nat.le_of_ble_eq_true rfl⟩) hS (fun σ_s_157 H locs hw_156 hH hS => ?_)
    obtain ⟨hO9, hF9, hM9, hw_156⟩ := hw_156
    replace hM := hM.tu hM9 (by decide)
    replace hF := hF.tu hF9 (by decide)
    have e_158 : aF σ_s_157 (ad E a 61) = f61 := (hM9.a (by decide) (by decide)).trans e_131
    have e_159 : aF σ_s_157 (ad E a 62) = f62 := (hM9.a (by decide) (by decide)).trans e_132
    have e_160 : aF σ_s_157 (ad E a 39) = f39 := (hM9.a (by decide) (by decide)).trans e_133
    have e_161 : aF σ_s_157 (ad E a 40) = f40 := (hM9.a (by decide) (by decide)).trans e_134
    have e_162 : aF σ_s_157 (ad E a 42) = f42 := (hM9.a (by decide) (by decide)).trans e_135
    have e_163 : aF σ_s_157 (ad E a 43) = f43 := (hM9.a (by decide) (by decide)).trans e_136
    have e_164 : aF σ_s_157 (ad E a 44) = f44 := (hM9.a (by decide) (by decide)).trans e_137
    have e_165 : aF σ_s_157 (ad E a 45) = f45 := (hM9.a (by decide) (by decide)).trans e_138
    have e_166 : aF σ_s_157 (ad E a 46) = f46 := (hM9.a (by decide) (by decide)).trans e_139
    have e_167 : aF σ_s_157 (ad E a 4) = f4 := (hM9.a (by decide) (by decide)).trans e_141
    have e_168 : aF σ_s_157 (ad E a 63) = f63 := (hM9.a (by decide) (by decide)).trans e_142
    have e_169 : aF σ_s_157 (ad E a 64) = f64 := (hM9.a (by decide) (by decide)).trans e_143
    have e_170 : aF σ_s_157 (ad E a 65) = f65 := (hM9.a (by decide) (by decide)).trans e_144
    have e_171 : gI σ_s_157 a 58 = a580 := (hM9.i (by decide)).trans e_145
    have e_172 : gI σ_s_157 a 59 = a590 := (hM9.i (by decide)).trans e_146
    have e_173 : gI σ_s_157 a 12 = a120 := (hM9.i (by decide)).trans e_147
    have e_174 : gI σ_s_157 a 0 = 0 := (hM9.i (by decide)).trans e_148
    have e_175 : gI σ_s_157 a 36 = a590 := (hM9.i (by decide)).trans e_149
    have e_176 : gI σ_s_157 a 60 = z_48 := (hM9.i (by decide)).trans e_150
    have e_177 : gI σ_s_157 a 51 = z_48 := (hM9.i (by decide)).trans e_151
    have e_178 : aF σ_s_157 (ad E a 1) = g_100 := (hM9.a (by decide) (by decide)).trans e_152
    have e_179 : aF σ_s_157 (ad E a 37) = g_127 := (hM9.a (by decide) (by decide)).trans e_153
    have e_180 : aF σ_s_157 (ad E a 52) = g_154 := (hM9.a (by decide) (by decide)).trans ef_155
    replace hO := hO9
    generalize ef_182 : aF σ_s_157 (ad E a 53) = g_181 at hw_156
    have hw_156 : cel 8 f64 g_181 := hw_156
    refine lv_aload_n hx hb dX11_restore_74 rfl (lv_at hl 0 rfl) ?_
    refine ok.getR hO h_a (by decide) k13_4 (by decide) (fun _ _ he hv kk => th_get (ci := 11) (C := RX11) (T := TX11) (N := 66) hx hb hts inX11 hown hK hH he rfl 4 (by decide) fl14 hv dX11_restore_75 kk) ?_
    refine lv_aload_n hx hb dX11_restore_78 rfl (lv_at hl 0 rfl) ?_
    refine ok.getR hO h_a (by decide) k13_65 (by decide) (fun _ _ he hv kk => th_get (ci := 11) (C := RX11) (T := TX11) (N := 66) hx hb hts inX11 hown hK hH he rfl 65 (by decide) fl15 hv dX11_restore_79 kk) ?_
    refine th_callv (va_runS (As := [.ref (ad E a 4), .ref (ad E a 65)]) (rest := []) ⟨hx, hb, hml, hown, hts⟩ (w_copy4_65 l G y b0 σ_s_157 E hO a h_a f4 e_167 f65 e_170) (va_cwS 2 hts gX11_restore_X11_copyTo rfl rfl rfl (by decide +kernel) ⟨Nat.le_of_ble_eq_true rfl, Nat.le_of_ble_eq_true rfl⟩) (th_PS hK hH) rfl rfl hl.1 rfl (lv_room (Nat.le_of_ble_eq_true rfl)) dX11_restore_82 ⟨Nat.le_of_ble_eq_true rfl, Nat.le_of_ble_eq_true rfl⟩) hS (fun σ_s_184 H locs hw_183 hH hS => ?_)
    obtain ⟨hO9, hF9, hM9, hw_183⟩ := hw_183
    replace hM := hM.tu hM9 (by decide)
    replace hF := hF.tu hF9 (by decide)
    have e_185 : aF σ_s_184 (ad E a 61) = f61 := (hM9.a (by decide) (by decide)).trans e_158
    have e_186 : aF σ_s_184 (ad E a 62) = f62 := (hM9.a (by decide) (by decide)).trans e_159
    have e_187 : aF σ_s_184 (ad E a 39) = f39 := (hM9.a (by decide) (by decide)).trans e_160
    have e_188 : aF σ_s_184 (ad E a 40) = f40 := (hM9.a (by decide) (by decide)).trans e_161
    have e_189 : aF σ_s_184 (ad E a 42) = f42 := (hM9.a (by decide) (by decide)).trans e_162
    have e_190 : aF σ_s_184 (ad E a 43) = f43 := (hM9.a (by decide) (by decide)).trans e_163
    have e_191 : aF σ_s_184 (ad E a 44) = f44 := (hM9.a (by decide) (by decide)).trans e_164
    have e_192 : aF σ_s_184 (ad E a 45) = f45 := (hM9.a (by decide) (by decide)).trans e_165
    have e_193 : aF σ_s_184 (ad E a 46) = f46 := (hM9.a (by decide) (by decide)).trans e_166
    have e_194 : aF σ_s_184 (ad E a 63) = f63 := (hM9.a (by decide) (by decide)).trans e_168
    have e_195 : aF σ_s_184 (ad E a 64) = f64 := (hM9.a (by decide) (by decide)).trans e_169
    have e_196 : aF σ_s_184 (ad E a 65) = f65 := (hM9.a (by decide) (by decide)).trans e_170
    have e_197 : gI σ_s_184 a 58 = a580 := (hM9.i (by decide)).trans e_171
    have e_198 : gI σ_s_184 a 59 = a590 := (hM9.i (by decide)).trans e_172
    have e_199 : gI σ_s_184 a 12 = a120 := (hM9.i (by decide)).trans e_173
    have e_200 : gI σ_s_184 a 0 = 0 := (hM9.i (by decide)).trans e_174
    have e_201 : gI σ_s_184 a 36 = a590 := (hM9.i (by decide)).trans e_175
    have e_202 : gI σ_s_184 a 60 = z_48 := (hM9.i (by decide)).trans e_176
    have e_203 : gI σ_s_184 a 51 = z_48 := (hM9.i (by decide)).trans e_177
    have e_204 : aF σ_s_184 (ad E a 1) = g_100 := (hM9.a (by decide) (by decide)).trans e_178
    have e_205 : aF σ_s_184 (ad E a 37) = g_127 := (hM9.a (by decide) (by decide)).trans e_179
    have e_206 : aF σ_s_184 (ad E a 52) = g_154 := (hM9.a (by decide) (by decide)).trans e_180
    have e_207 : aF σ_s_184 (ad E a 53) = g_181 := (hM9.a (by decide) (by decide)).trans ef_182
    replace hO := hO9
    generalize ef_209 : aF σ_s_184 (ad E a 4) = g_208 at hw_183
    have hw_183 : cel 3 f65 g_208 := hw_183
    refine lv_iconst (v := I 1) hx hb dX11_restore_85 (by decide) ?_
    exact th_zret hx hb hr hlocks hH hS (z := 1) (by omega) ⟨hO, hF, hM, ⟨by decide, by decide⟩, by have hh := hj.2.2.1.resolve_left (by rw [ea580]; assumption); rw [show aF σ_s_184 (ad E a 1) = g_100 from e_204, show aF σ_s_184 (ad E a 37) = g_127 from e_205, show aF σ_s_184 (ad E a 61) = f61 from e_185, show aF σ_s_184 (ad E a 62) = f62 from e_186, show aF σ_s_184 (ad E a 39) = f39 from e_187, show aF σ_s_184 (ad E a 40) = f40 from e_188, show aF σ_s_184 (ad E a 42) = f42 from e_189, show aF σ_s_184 (ad E a 43) = f43 from e_190, show aF σ_s_184 (ad E a 44) = f44 from e_191, show aF σ_s_184 (ad E a 45) = f45 from e_192, show aF σ_s_184 (ad E a 46) = f46 from e_193]; exact ⟨⟨hh.1.ext (same.of hw_75), ((hh.2.cells (by rw [ea590]; exact ua590) hw_102).le (Int.le_of_eq (e_201.trans ea590.symm))), Or.inr ⟨hh.1, hh.2.le (Int.le_of_eq (e_198.trans ea590.symm))⟩, hj.2.2.2⟩, (e_199.trans ea120.symm), by rw [ea580]; omega⟩⟩ dX11_restore_86
  · replace c_24 := (I_eq (a := a580) (b := 0) ra580 (show rng 0 from ⟨by decide, by decide⟩)).mp c_24
    refine lv_iconst (v := I 0) hx hb dX11_restore_12 (by decide) ?_
    exact th_zret hx hb hr hlocks hH hS (z := 0) (by omega) ⟨hO, hF, hM, ⟨by decide, by decide⟩, by rw [show aF σ_s_1 (ad E a 1) = f1 from e_2, show aF σ_s_1 (ad E a 37) = f37 from e_3, show aF σ_s_1 (ad E a 61) = f61 from e_4, show aF σ_s_1 (ad E a 62) = f62 from e_5, show aF σ_s_1 (ad E a 39) = f39 from e_6, show aF σ_s_1 (ad E a 40) = f40 from e_7, show aF σ_s_1 (ad E a 42) = f42 from e_8, show aF σ_s_1 (ad E a 43) = f43 from e_9, show aF σ_s_1 (ad E a 44) = f44 from e_10, show aF σ_s_1 (ad E a 45) = f45 from e_11, show aF σ_s_1 (ad E a 46) = f46 from e_12]; exact ⟨hj.n (e_19.trans ea360.symm) (e_20.trans ea580.symm) (e_21.trans ea590.symm), (e_22.trans ea120.symm), by rw [ea580]; omega⟩⟩ dX11_restore_13
