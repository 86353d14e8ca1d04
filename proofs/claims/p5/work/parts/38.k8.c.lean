set_option maxHeartbeats 4000000 in
set_option maxRecDepth 100000 in
theorem j_note (l : Launch) (G : va_G) (y : Nat → ClassId) (b0 : Nat) (σ : th_M) (E : th_E) (hO : ok y E σ) (a : Nat) (h_a : kd E a = 13) (i : Int) (ri : rng i) (is : Int) (ris : rng is) (l_is : 0 ≤ is) (u_is : is ≤ 1) (f1 : Nat → Int32) (ef1 : aF σ (ad E a 1) = f1) (f37 : Nat → Int32) (ef37 : aF σ (ad E a 37) = f37) (f61 : Nat → Int32) (ef61 : aF σ (ad E a 61) = f61) (f62 : Nat → Int32) (ef62 : aF σ (ad E a 62) = f62) (f39 : Nat → Int32) (ef39 : aF σ (ad E a 39) = f39) (f40 : Nat → Int32) (ef40 : aF σ (ad E a 40) = f40) (f42 : Nat → Int32) (ef42 : aF σ (ad E a 42) = f42) (f43 : Nat → Int32) (ef43 : aF σ (ad E a 43) = f43) (f44 : Nat → Int32) (ef44 : aF σ (ad E a 44) = f44) (f45 : Nat → Int32) (ef45 : aF σ (ad E a 45) = f45) (f46 : Nat → Int32) (ef46 : aF σ (ad E a 46) = f46) (hy0 : jw f1 f37 f61 f62 f39 f40 f42 f43 f44 f45 f46 (gI σ a 36) (gI σ a 58) (gI σ a 59)) : Met l yX11_note wsX11_note ({ frames := 2, cells := 0, slots := 0, locals := 51 }) (th_P G y b0 σ [.ref a, .int (I i), .int (I is)]) (th_Qi G b0 (fun r σ1 => ok y E σ1 ∧ fr [13] E σ σ1 ∧ fm [0, 4, 51, 52, 53] E σ σ1 a ∧ (jw (aF σ1 (ad E a 1)) (aF σ1 (ad E a 37)) (aF σ1 (ad E a 61)) (aF σ1 (ad E a 62)) (aF σ1 (ad E a 39)) (aF σ1 (ad E a 40)) (aF σ1 (ad E a 42)) (aF σ1 (ad E a 43)) (aF σ1 (ad E a 44)) (aF σ1 (ad E a 45)) (aF σ1 (ad E a 46)) (gI σ1 a 36) (gI σ1 a 58) (gI σ1 a 59) ∧ gI σ1 a 12 = gI σ a 12))) 0 0 (th_A b0) := by
  refine Met.ofW (cc := cX11_note) (maxL := 3) (ret := (some .int)) (by decide) rfl ?_
  intro p e s m args below meth c s₁ B hml hv
  obtain ⟨rfl, hH, hK⟩ := hv
  have hx := B.exec
  have hb := B.bytes
  have hr := B.returns
  have hts := atoms_spec (ws := wsX11_note) B.pre
  have hown : s.vm.findClass RX11 = some m.cls := findClass_of_methodNamed B.named
  have hlocks := B.notSynchronized
  have h00 : b0 ≤ s.heap.size := hH.1
  have hS : va_S (th_A b0) s.heap s.heap [] := va_S.rf
  have hF : fr [13] E σ σ := fr.rf
  have hM : fm [0, 4, 51, 52, 53] E σ σ a := fm.rf
  have hj := hy0
  have hw1 := hj.1.1.1
  have hm1 := hj.1.2.1
  have hm2 := hj.1.2.2.1
  have hm3 := hj.2.2.2.2.1
  have hm4 := hj.2.2.2.2.2.1
  have inX11 : ∀ w ∈ wsX110, w ∈ wsX11_note := by decide +kernel
  have fl0 := hts (.fieldLink RX11 111 "NestQueryModel" "code" "I") (by decide +kernel)
  have fl1 := hts (.fieldLink RX11 235 "NestQueryModel" "noted" "I") (by decide +kernel)
  have fl2 := hts (.fieldLink RX11 81 "NestQueryModel" "notedThing" "[I") (by decide +kernel)
  have fl3 := hts (.fieldLink RX11 84 "NestQueryModel" "notedIs" "[I") (by decide +kernel)
  have hl := lv_entry ([.ref a, .int (I i), .int (I is)]) (n := 3) (Nat.le_of_ble_eq_true rfl)
  rw [lg_entry_eq]
  generalize (lg_sl ([.ref a, .int (I i), .int (I is)]) ++ List.replicate (3 - (lg_sl ([.ref a, .int (I i), .int (I is)])).length) Slot.unset).toArray = ls at hl ⊢
  have hl : lv_has ls 3 [(0, .ref a), (1, .int (I i)), (2, .int (I is))] := hl
  obtain ⟨a360, ea360, ra360, la360, ua360⟩ := hO.gi h_a (by decide) k13_36
  obtain ⟨a580, ea580, ra580, la580, ua580⟩ := hO.gi h_a (by decide) k13_58
  obtain ⟨a590, ea590, ra590, la590, ua590⟩ := hO.gi h_a (by decide) k13_59
  obtain ⟨a120, ea120, ra120, la120, ua120⟩ := hO.gi h_a (by decide) k13_12
  refine lv_aload_n hx hb dX11_note_0 rfl (lv_at hl 0 rfl) ?_
  refine lv_iconst (v := I 0) hx hb dX11_note_1 (by decide) ?_
  refine ok.putJ hO h_a k13_0 (show rng 0 from ⟨by decide, by decide⟩) (by omega) (by omega) (fun _ he hl9 kk => th_put (ci := 11) (v := .int (I 0)) (ty := .int) (C := RX11) (T := TX11) (N := 66) hx hb hts inX11 tyX11 tyX11_ok nmX11 hown hK hH hS h00 he rfl 0 (by decide) fl0 rfl (by decide +kernel) rfl rfl hl9 dX11_note_2 kk) (fun σ_s_1 H locs hO hF9 hM9 hg9 ha9 hH hS => ?_)
  replace hM := hM.tu hM9 (by decide)
  replace hF := hF.tu hF9 (by decide)
  have e_2 : aF σ_s_1 (ad E a 1) = f1 := (hM9.a (by decide) (by decide)).trans ef1
  have e_3 : aF σ_s_1 (ad E a 37) = f37 := (hM9.a (by decide) (by decide)).trans ef37
  have e_4 : aF σ_s_1 (ad E a 61) = f61 := (hM9.a (by decide) (by decide)).trans ef61
  have e_5 : aF σ_s_1 (ad E a 62) = f62 := (hM9.a (by decide) (by decide)).trans ef62
  have e_6 : aF σ_s_1 (ad E a 39) = f39 := (hM9.a (by decide) (by decide)).trans ef39
  have e_7 : aF σ_s_1 (ad E a 40) = f40 := (hM9.a (by decide) (by decide)).trans ef40
  have e_8 : aF σ_s_1 (ad E a 42) = f42 := (hM9.a (by decide) (by decide)).trans ef42
  have e_9 : aF σ_s_1 (ad E a 43) = f43 := (hM9.a (by decide) (by decide)).trans ef43
  have e_10 : aF σ_s_1 (ad E a 44) = f44 := (hM9.a (by decide) (by decide)).trans ef44
  have e_11 : aF σ_s_1 (ad E a 45) = f45 := (hM9.a (by decide) (by decide)).trans ef45
  have e_12 : aF σ_s_1 (ad E a 46) = f46 := (hM9.a (by decide) (by decide)).trans ef46
  have e_13 : gI σ_s_1 a 36 = a360 := (hM9.i (by decide)).trans ea360
  have e_14 : gI σ_s_1 a 58 = a580 := (hM9.i (by decide)).trans ea580
  have e_15 : gI σ_s_1 a 59 = a590 := (hM9.i (by decide)).trans ea590
  have e_16 : gI σ_s_1 a 12 = a120 := (hM9.i (by decide)).trans ea120
  have e_17 := hg9
  refine lv_aload_n hx hb dX11_note_5 rfl (lv_at hl 0 rfl) ?_
  refine ok.getI hO h_a (by decide) k13_51 (fun _ _ he hv kk => th_get (ci := 11) (C := RX11) (T := TX11) (N := 66) hx hb hts inX11 hown hK hH he rfl 51 (by decide) fl1 hv dX11_note_6 kk) (fun z_18 e_19 rz_18 lz_18 uz_18 => ?_)
  refine lv_bipush (v := I 8) hx hb dX11_note_9 (by decide) ?_
  refine lv_icmp_eq (tgt := 22) hx hb dX11_note_11 (by decide) (fun c_20 => ?_) (fun c_20 => ?_)
  · replace c_20 := (I_eq (a := z_18) (b := 8) rz_18 (show rng 8 from ⟨by decide, by decide⟩)).mp c_20
    refine lv_aload_n hx hb dX11_note_22 rfl (lv_at hl 0 rfl) ?_
    refine lv_iconst (v := I 2) hx hb dX11_note_23 (by decide) ?_
    obtain ⟨_, hc_21⟩ := hO.cell h_a (by decide) (ci := 11) rfl
    refine th_calli (va_runV (As := [.int (I 2)]) (rest := []) ⟨hx, hb, hml, hown, hts⟩ (m_refuse l G y b0 σ_s_1 E hO a h_a 2 (show rng 2 from (show rng 2 from ⟨by decide, by decide⟩)) (by omega) (by omega)) (cwV 1 hts gX11_note_X11_refuse rfl rfl rfl (by decide +kernel) ⟨Nat.le_of_ble_eq_true rfl, Nat.le_of_ble_eq_true rfl⟩) (th_PV hK hH rfl hc_21) rfl rfl hl.1 rfl (lv_room (Nat.le_of_ble_eq_true rfl)) dX11_note_24 ⟨Nat.le_of_ble_eq_true rfl, Nat.le_of_ble_eq_true rfl⟩) hS (fun z_24 σ_s_23 H locs rz_24 hw_22 hH hS => ?_)
    obtain ⟨hO9, hF9, hM9, hw_22⟩ := hw_22
    replace hM := hM.tu hM9 (by decide)
    replace hF := hF.tu hF9 (by decide)
    have e_25 : aF σ_s_23 (ad E a 1) = f1 := (hM9.a (by decide) (by decide)).trans e_2
    have e_26 : aF σ_s_23 (ad E a 37) = f37 := (hM9.a (by decide) (by decide)).trans e_3
    have e_27 : aF σ_s_23 (ad E a 61) = f61 := (hM9.a (by decide) (by decide)).trans e_4
    have e_28 : aF σ_s_23 (ad E a 62) = f62 := (hM9.a (by decide) (by decide)).trans e_5
    have e_29 : aF σ_s_23 (ad E a 39) = f39 := (hM9.a (by decide) (by decide)).trans e_6
    have e_30 : aF σ_s_23 (ad E a 40) = f40 := (hM9.a (by decide) (by decide)).trans e_7
    have e_31 : aF σ_s_23 (ad E a 42) = f42 := (hM9.a (by decide) (by decide)).trans e_8
    have e_32 : aF σ_s_23 (ad E a 43) = f43 := (hM9.a (by decide) (by decide)).trans e_9
    have e_33 : aF σ_s_23 (ad E a 44) = f44 := (hM9.a (by decide) (by decide)).trans e_10
    have e_34 : aF σ_s_23 (ad E a 45) = f45 := (hM9.a (by decide) (by decide)).trans e_11
    have e_35 : aF σ_s_23 (ad E a 46) = f46 := (hM9.a (by decide) (by decide)).trans e_12
    have e_36 : gI σ_s_23 a 36 = a360 := (hM9.i (by decide)).trans e_13
    have e_37 : gI σ_s_23 a 58 = a580 := (hM9.i (by decide)).trans e_14
    have e_38 : gI σ_s_23 a 59 = a590 := (hM9.i (by decide)).trans e_15
    have e_39 : gI σ_s_23 a 12 = a120 := (hM9.i (by decide)).trans e_16
    have e_40 : gI σ_s_23 a 0 = 0 := (hM9.i (by decide)).trans e_17
    have e_41 : gI σ_s_23 a 51 = z_18 := (hM9.i (by decide)).trans e_19
    replace hO := hO9
    have hw_22 : z_24 = -1 := hw_22
    exact th_iret hx hb hr hlocks hH hS (z := z_24) rz_24 ⟨hO, hF, hM, by rw [show aF σ_s_23 (ad E a 1) = f1 from e_25, show aF σ_s_23 (ad E a 37) = f37 from e_26, show aF σ_s_23 (ad E a 61) = f61 from e_27, show aF σ_s_23 (ad E a 62) = f62 from e_28, show aF σ_s_23 (ad E a 39) = f39 from e_29, show aF σ_s_23 (ad E a 40) = f40 from e_30, show aF σ_s_23 (ad E a 42) = f42 from e_31, show aF σ_s_23 (ad E a 43) = f43 from e_32, show aF σ_s_23 (ad E a 44) = f44 from e_33, show aF σ_s_23 (ad E a 45) = f45 from e_34, show aF σ_s_23 (ad E a 46) = f46 from e_35]; exact ⟨hj.n (by omega) (by omega) (by omega), by omega⟩⟩ dX11_note_27
  · replace c_20 := mt (I_eq (a := z_18) (b := 8) rz_18 (show rng 8 from ⟨by decide, by decide⟩)).mpr c_20
    refine lv_aload_n hx hb dX11_note_14 rfl (lv_at hl 0 rfl) ?_
    refine lv_iload_n hx hb dX11_note_15 rfl (lv_at hl 1 rfl) ?_
    obtain ⟨_, hc_42⟩ := hO.cell h_a (by decide) (ci := 11) rfl
    refine th_calli (va_runV (As := [.int (I i)]) (rest := []) ⟨hx, hb, hml, hown, hts⟩ (m_isThing l G y b0 σ_s_1 E hO a h_a i (show rng i from ri) f1 e_2 (by omega)) (cwV 1 hts gX11_note_X11_isThing rfl rfl rfl (by decide +kernel) ⟨Nat.le_of_ble_eq_true rfl, Nat.le_of_ble_eq_true rfl⟩) (th_PV hK hH rfl hc_42) rfl rfl hl.1 rfl (lv_room (Nat.le_of_ble_eq_true rfl)) dX11_note_16 ⟨Nat.le_of_ble_eq_true rfl, Nat.le_of_ble_eq_true rfl⟩) hS (fun z_45 σ_s_44 H locs rz_45 hw_43 hH hS => ?_)
    obtain ⟨e9, bhw_43, hw_43⟩ := hw_43
    replace e9 := e9.symm
    subst e9
    have hw_43 : (z_45 = 1 ∧ 0 ≤ i ∧ i < mS f1 0) ∨ (z_45 = 0 ∧ ¬ (0 ≤ i ∧ i < mS f1 0)) := hw_43
    refine lv_if_ne (tgt := 28) hx hb dX11_note_19 (by decide) (fun c_46 => ?_) (fun c_46 => ?_)
    · replace c_46 := mt (I_eq (a := z_45) (b := 0) rz_45 (show rng 0 from ⟨by decide, by decide⟩)).mpr c_46
      refine lv_aload_n hx hb dX11_note_28 rfl (lv_at hl 0 rfl) ?_
      refine ok.getR hO h_a (by decide) k13_52 (by decide) (fun _ _ he hv kk => th_get (ci := 11) (C := RX11) (T := TX11) (N := 66) hx hb hts inX11 hown hK hH he rfl 52 (by decide) fl2 hv dX11_note_29 kk) ?_
      refine lv_aload_n hx hb dX11_note_32 rfl (lv_at hl 0 rfl) ?_
      refine ok.getIc hO h_a (by decide) k13_51 e_19 (fun _ _ he hv kk => th_get (ci := 11) (C := RX11) (T := TX11) (N := 66) hx hb hts inX11 hown hK hH he rfl 51 (by decide) fl1 hv dX11_note_33 kk) ?_
      refine lv_iload_n hx hb dX11_note_36 rfl (lv_at hl 1 rfl) ?_
      obtain ⟨f_48, ef_49⟩ : ∃ f9, aF σ_s_1 (ad E a 52) = f9 := ⟨_, rfl⟩
      refine m_iast hx hb hK hH hS h00 hO h_a k13_52 isA9 (by decide) ef_49 rz_18 (by omega) (by omega) ri (el9 (by omega) (by omega)) dX11_note_37 (fun σ_s_47 H locs hO hF9 hM9 ha9 hH hS => ?_)
      replace hM := hM.tu hM9 (by decide)
      replace hF := hF.tu hF9 (by decide)
      have e_50 : aF σ_s_47 (ad E a 1) = f1 := (hM9.a (by decide) (by decide)).trans e_2
      have e_51 : aF σ_s_47 (ad E a 37) = f37 := (hM9.a (by decide) (by decide)).trans e_3
      have e_52 : aF σ_s_47 (ad E a 61) = f61 := (hM9.a (by decide) (by decide)).trans e_4
      have e_53 : aF σ_s_47 (ad E a 62) = f62 := (hM9.a (by decide) (by decide)).trans e_5
      have e_54 : aF σ_s_47 (ad E a 39) = f39 := (hM9.a (by decide) (by decide)).trans e_6
      have e_55 : aF σ_s_47 (ad E a 40) = f40 := (hM9.a (by decide) (by decide)).trans e_7
      have e_56 : aF σ_s_47 (ad E a 42) = f42 := (hM9.a (by decide) (by decide)).trans e_8
      have e_57 : aF σ_s_47 (ad E a 43) = f43 := (hM9.a (by decide) (by decide)).trans e_9
      have e_58 : aF σ_s_47 (ad E a 44) = f44 := (hM9.a (by decide) (by decide)).trans e_10
      have e_59 : aF σ_s_47 (ad E a 45) = f45 := (hM9.a (by decide) (by decide)).trans e_11
      have e_60 : aF σ_s_47 (ad E a 46) = f46 := (hM9.a (by decide) (by decide)).trans e_12
      have e_61 : gI σ_s_47 a 36 = a360 := (hM9.i (by decide)).trans e_13
      have e_62 : gI σ_s_47 a 58 = a580 := (hM9.i (by decide)).trans e_14
      have e_63 : gI σ_s_47 a 59 = a590 := (hM9.i (by decide)).trans e_15
      have e_64 : gI σ_s_47 a 12 = a120 := (hM9.i (by decide)).trans e_16
      have e_65 : gI σ_s_47 a 0 = 0 := (hM9.i (by decide)).trans e_17
      have e_66 : gI σ_s_47 a 51 = z_18 := (hM9.i (by decide)).trans e_19
      obtain ⟨g_67, dg_67⟩ : ∃ g9, g9 = upd f_48 (z_18).toNat (I i) := ⟨_, rfl⟩
      rw [← dg_67] at ha9
      have ef_68 := ha9
      refine lv_aload_n hx hb dX11_note_38 rfl (lv_at hl 0 rfl) ?_
      refine ok.getR hO h_a (by decide) k13_53 (by decide) (fun _ _ he hv kk => th_get (ci := 11) (C := RX11) (T := TX11) (N := 66) hx hb hts inX11 hown hK hH he rfl 53 (by decide) fl3 hv dX11_note_39 kk) ?_
      refine lv_aload_n hx hb dX11_note_42 rfl (lv_at hl 0 rfl) ?_
      refine ok.getIc hO h_a (by decide) k13_51 e_66 (fun _ _ he hv kk => th_get (ci := 11) (C := RX11) (T := TX11) (N := 66) hx hb hts inX11 hown hK hH he rfl 51 (by decide) fl1 hv dX11_note_43 kk) ?_
      refine lv_iload_n hx hb dX11_note_46 rfl (lv_at hl 2 rfl) ?_
      refine th_join (α := Int) (J := 55) (stk := fun x9 => [.int (I x9), .int (I z_18), .ref (ad E a 53)]) (fun x9 σ9 H9 l9 ls9 => σ9 = σ_s_47 ∧ th_H G b0 σ9 H9 ∧ va_S (th_A b0) s.heap H9 l9 ∧ lv_has ls9 3 [(0, .ref a)] ∧ rng x9 ∧ (x9 = 0 ∨ x9 = 1)) ?_ (fun jK_71 => ?_)
      · intro x9 σ_K_71 H locs ls hI9
        obtain ⟨w0q70, ex9⟩ : ∃ z, z = x9 := ⟨_, rfl⟩
        subst ex9
        obtain ⟨eK_71, hH, hS, hl, rw0q70, K_71_0⟩ := hI9
        replace eK_71 := eK_71.symm
        subst eK_71
        have hl : lv_has ls 3 [(0, .ref a)] := hl
        have rw0q70 : rng w0q70 := rw0q70
        have K_71_0 : w0q70 = 0 ∨ w0q70 = 1 := K_71_0
        obtain ⟨f_73, ef_74⟩ : ∃ f9, aF σ_s_47 (ad E a 53) = f9 := ⟨_, rfl⟩
        refine m_iast hx hb hK hH hS h00 hO h_a k13_53 isA1 (by decide) ef_74 rz_18 (by omega) (by omega) rw0q70 el1 dX11_note_55 (fun σ_s_72 H locs hO hF9 hM9 ha9 hH hS => ?_)
        replace hM := hM.tu hM9 (by decide)
        replace hF := hF.tu hF9 (by decide)
        have e_75 : aF σ_s_72 (ad E a 1) = f1 := (hM9.a (by decide) (by decide)).trans e_50
        have e_76 : aF σ_s_72 (ad E a 37) = f37 := (hM9.a (by decide) (by decide)).trans e_51
        have e_77 : aF σ_s_72 (ad E a 61) = f61 := (hM9.a (by decide) (by decide)).trans e_52
        have e_78 : aF σ_s_72 (ad E a 62) = f62 := (hM9.a (by decide) (by decide)).trans e_53
        have e_79 : aF σ_s_72 (ad E a 39) = f39 := (hM9.a (by decide) (by decide)).trans e_54
        have e_80 : aF σ_s_72 (ad E a 40) = f40 := (hM9.a (by decide) (by decide)).trans e_55
        have e_81 : aF σ_s_72 (ad E a 42) = f42 := (hM9.a (by decide) (by decide)).trans e_56
        have e_82 : aF σ_s_72 (ad E a 43) = f43 := (hM9.a (by decide) (by decide)).trans e_57
        have e_83 : aF σ_s_72 (ad E a 44) = f44 := (hM9.a (by decide) (by decide)).trans e_58
        have e_84 : aF σ_s_72 (ad E a 45) = f45 := (hM9.a (by decide) (by decide)).trans e_59
        have e_85 : aF σ_s_72 (ad E a 46) = f46 := (hM9.a (by decide) (by decide)).trans e_60
        have e_86 : gI σ_s_72 a 36 = a360 := (hM9.i (by decide)).trans e_61
        have e_87 : gI σ_s_72 a 58 = a580 := (hM9.i (by decide)).trans e_62
        have e_88 : gI σ_s_72 a 59 = a590 := (hM9.i (by decide)).trans e_63
        have e_89 : gI σ_s_72 a 12 = a120 := (hM9.i (by decide)).trans e_64
        have e_90 : gI σ_s_72 a 0 = 0 := (hM9.i (by decide)).trans e_65
        have e_91 : gI σ_s_72 a 51 = z_18 := (hM9.i (by decide)).trans e_66
        have e_92 : aF σ_s_72 (ad E a 52) = g_67 := (hM9.a (by decide) (by decide)).trans ef_68
        obtain ⟨g_93, dg_93⟩ : ∃ g9, g9 = upd f_73 (z_18).toNat (I w0q70) := ⟨_, rfl⟩
        rw [← dg_93] at ha9
        have ef_94 := ha9
        refine lv_aload_n hx hb dX11_note_56 rfl (lv_at hl 0 rfl) ?_
        refine lv_dup hx hb dX11_note_57 rfl ?_
        refine ok.getIc hO h_a (by decide) k13_51 e_91 (fun _ _ he hv kk => th_get (ci := 11) (C := RX11) (T := TX11) (N := 66) hx hb hts inX11 hown hK hH he rfl 51 (by decide) fl1 hv dX11_note_58 kk) ?_
        refine lv_iconst (v := I 1) hx hb dX11_note_61 (by decide) ?_
        refine lv_iadd hx hb dX11_note_62 ?_
        refine nq_top (I_add _ _) ?_
        refine ok.putJ hO h_a k13_51 ⟨by omega, by omega⟩ (by omega) (by omega) (fun _ he hl9 kk => th_put (ci := 11) (v := .int (I (z_18 + 1))) (ty := .int) (C := RX11) (T := TX11) (N := 66) hx hb hts inX11 tyX11 tyX11_ok nmX11 hown hK hH hS h00 he rfl 51 (by decide) fl1 rfl (by decide +kernel) rfl rfl hl9 dX11_note_63 kk) (fun σ_s_95 H locs hO hF9 hM9 hg9 ha9 hH hS => ?_)
        replace hM := hM.tu hM9 (by decide)
        replace hF := hF.tu hF9 (by decide)
        have e_96 : aF σ_s_95 (ad E a 1) = f1 := (hM9.a (by decide) (by decide)).trans e_75
        have e_97 : aF σ_s_95 (ad E a 37) = f37 := (hM9.a (by decide) (by decide)).trans e_76
        have e_98 : aF σ_s_95 (ad E a 61) = f61 := (hM9.a (by decide) (by decide)).trans e_77
        have e_99 : aF σ_s_95 (ad E a 62) = f62 := (hM9.a (by decide) (by decide)).trans e_78
        have e_100 : aF σ_s_95 (ad E a 39) = f39 := (hM9.a (by decide) (by decide)).trans e_79
        have e_101 : aF σ_s_95 (ad E a 40) = f40 := (hM9.a (by decide) (by decide)).trans e_80
        have e_102 : aF σ_s_95 (ad E a 42) = f42 := (hM9.a (by decide) (by decide)).trans e_81
        have e_103 : aF σ_s_95 (ad E a 43) = f43 := (hM9.a (by decide) (by decide)).trans e_82
        have e_104 : aF σ_s_95 (ad E a 44) = f44 := (hM9.a (by decide) (by decide)).trans e_83
        have e_105 : aF σ_s_95 (ad E a 45) = f45 := (hM9.a (by decide) (by decide)).trans e_84
        have e_106 : aF σ_s_95 (ad E a 46) = f46 := (hM9.a (by decide) (by decide)).trans e_85
        have e_107 : gI σ_s_95 a 36 = a360 := (hM9.i (by decide)).trans e_86
        have e_108 : gI σ_s_95 a 58 = a580 := (hM9.i (by decide)).trans e_87
        have e_109 : gI σ_s_95 a 59 = a590 := (hM9.i (by decide)).trans e_88
        have e_110 : gI σ_s_95 a 12 = a120 := (hM9.i (by decide)).trans e_89
        have e_111 : gI σ_s_95 a 0 = 0 := (hM9.i (by decide)).trans e_90
        have e_112 : aF σ_s_95 (ad E a 52) = g_67 := (hM9.a (by decide) (by decide)).trans e_92
        have e_113 : aF σ_s_95 (ad E a 53) = g_93 := (hM9.a (by decide) (by decide)).trans ef_94
        have e_114 := hg9
        refine lv_aload_n hx hb dX11_note_66 rfl (lv_at hl 0 rfl) ?_
        refine ok.getIc hO h_a (by decide) k13_51 e_114 (fun _ _ he hv kk => th_get (ci := 11) (C := RX11) (T := TX11) (N := 66) hx hb hts inX11 hown hK hH he rfl 51 (by decide) fl1 hv dX11_note_67 kk) ?_
        exact th_iret hx hb hr hlocks hH hS (z := (z_18 + 1)) ⟨by omega, by omega⟩ ⟨hO, hF, hM, by rw [show aF σ_s_95 (ad E a 1) = f1 from e_96, show aF σ_s_95 (ad E a 37) = f37 from e_97, show aF σ_s_95 (ad E a 61) = f61 from e_98, show aF σ_s_95 (ad E a 62) = f62 from e_99, show aF σ_s_95 (ad E a 39) = f39 from e_100, show aF σ_s_95 (ad E a 40) = f40 from e_101, show aF σ_s_95 (ad E a 42) = f42 from e_102, show aF σ_s_95 (ad E a 43) = f43 from e_103, show aF σ_s_95 (ad E a 44) = f44 from e_104, show aF σ_s_95 (ad E a 45) = f45 from e_105, show aF σ_s_95 (ad E a 46) = f46 from e_106]; exact ⟨hj.n (by omega) (by omega) (by omega), by omega⟩⟩ dX11_note_70
      · refine lv_if_eq (tgt := 54) hx hb dX11_note_47 (by decide) (fun c_115 => ?_) (fun c_115 => ?_)
        · replace c_115 := (I_eq (a := is) (b := 0) ris (show rng 0 from ⟨by decide, by decide⟩)).mp c_115
          refine lv_iconst (v := I 0) hx hb dX11_note_54 (by decide) ?_
          replace hl : lv_has ls 3 [(0, .ref a)] := lv_sub hl [0] rfl
          exact jK_71 (0) σ_s_47 _ _ _ ⟨rfl, hH, hS, lv_sub hl [0] rfl, (show rng 0 from ⟨by decide, by decide⟩), by first | (dsimp only; omega) | omega⟩
        · replace c_115 := mt (I_eq (a := is) (b := 0) ris (show rng 0 from ⟨by decide, by decide⟩)).mpr c_115
          refine lv_iconst (v := I 1) hx hb dX11_note_50 (by decide) ?_
          refine lv_goto (tgt := 55) hx hb dX11_note_51 (by decide) ?_
          replace hl : lv_has ls 3 [(0, .ref a)] := lv_sub hl [0] rfl
          exact jK_71 (1) σ_s_47 _ _ _ ⟨rfl, hH, hS, lv_sub hl [0] rfl, (show rng 1 from ⟨by decide, by decide⟩), by first | (dsimp only; omega) | omega⟩
    · replace c_46 := (I_eq (a := z_45) (b := 0) rz_45 (show rng 0 from ⟨by decide, by decide⟩)).mp c_46
      refine lv_aload_n hx hb dX11_note_22 rfl (lv_at hl 0 rfl) ?_
      refine lv_iconst (v := I 2) hx hb dX11_note_23 (by decide) ?_
      obtain ⟨_, hc_116⟩ := hO.cell h_a (by decide) (ci := 11) rfl
      refine th_calli (va_runV (As := [.int (I 2)]) (rest := []) ⟨hx, hb, hml, hown, hts⟩ (m_refuse l G y b0 σ_s_1 E hO a h_a 2 (show rng 2 from (show rng 2 from ⟨by decide, by decide⟩)) (by omega) (by omega)) (cwV 1 hts gX11_note_X11_refuse rfl rfl rfl (by decide +kernel) ⟨Nat.le_of_ble_eq_true rfl, Nat.le_of_ble_eq_true rfl⟩) (th_PV hK hH rfl hc_116) rfl rfl hl.1 rfl (lv_room (Nat.le_of_ble_eq_true rfl)) dX11_note_24 ⟨Nat.le_of_ble_eq_true rfl, Nat.le_of_ble_eq_true rfl⟩) hS (fun z_119 σ_s_118 H locs rz_119 hw_117 hH hS => ?_)
      obtain ⟨hO9, hF9, hM9, hw_117⟩ := hw_117
      replace hM := hM.tu hM9 (by decide)
      replace hF := hF.tu hF9 (by decide)
      have e_120 : aF σ_s_118 (ad E a 1) = f1 := (hM9.a (by decide) (by decide)).trans e_2
      have e_121 : aF σ_s_118 (ad E a 37) = f37 := (hM9.a (by decide) (by decide)).trans e_3
      have e_122 : aF σ_s_118 (ad E a 61) = f61 := (hM9.a (by decide) (by decide)).trans e_4
      have e_123 : aF σ_s_118 (ad E a 62) = f62 := (hM9.a (by decide) (by decide)).trans e_5
      have e_124 : aF σ_s_118 (ad E a 39) = f39 := (hM9.a (by decide) (by decide)).trans e_6
      have e_125 : aF σ_s_118 (ad E a 40) = f40 := (hM9.a (by decide) (by decide)).trans e_7
      have e_126 : aF σ_s_118 (ad E a 42) = f42 := (hM9.a (by decide) (by decide)).trans e_8
      have e_127 : aF σ_s_118 (ad E a 43) = f43 := (hM9.a (by decide) (by decide)).trans e_9
      have e_128 : aF σ_s_118 (ad E a 44) = f44 := (hM9.a (by decide) (by decide)).trans e_10
      have e_129 : aF σ_s_118 (ad E a 45) = f45 := (hM9.a (by decide) (by decide)).trans e_11
      have e_130 : aF σ_s_118 (ad E a 46) = f46 := (hM9.a (by decide) (by decide)).trans e_12
      have e_131 : gI σ_s_118 a 36 = a360 := (hM9.i (by decide)).trans e_13
      have e_132 : gI σ_s_118 a 58 = a580 := (hM9.i (by decide)).trans e_14
      have e_133 : gI σ_s_118 a 59 = a590 := (hM9.i (by decide)).trans e_15
      have e_134 : gI σ_s_118 a 12 = a120 := (hM9.i (by decide)).trans e_16
      have e_135 : gI σ_s_118 a 0 = 0 := (hM9.i (by decide)).trans e_17
      have e_136 : gI σ_s_118 a 51 = z_18 := (hM9.i (by decide)).trans e_19
      replace hO := hO9
      have hw_117 : z_119 = -1 := hw_117
      exact th_iret hx hb hr hlocks hH hS (z := z_119) rz_119 ⟨hO, hF, hM, by rw [show aF σ_s_118 (ad E a 1) = f1 from e_120, show aF σ_s_118 (ad E a 37) = f37 from e_121, show aF σ_s_118 (ad E a 61) = f61 from e_122, show aF σ_s_118 (ad E a 62) = f62 from e_123, show aF σ_s_118 (ad E a 39) = f39 from e_124, show aF σ_s_118 (ad E a 40) = f40 from e_125, show aF σ_s_118 (ad E a 42) = f42 from e_126, show aF σ_s_118 (ad E a 43) = f43 from e_127, show aF σ_s_118 (ad E a 44) = f44 from e_128, show aF σ_s_118 (ad E a 45) = f45 from e_129, show aF σ_s_118 (ad E a 46) = f46 from e_130]; exact ⟨hj.n (by omega) (by omega) (by omega), by omega⟩⟩ dX11_note_27

set_option maxHeartbeats 4000000 in
set_option maxRecDepth 100000 in
theorem j_look (l : Launch) (G : va_G) (y : Nat → ClassId) (b0 : Nat) (σ : th_M) (E : th_E) (hO : ok y E σ) (a : Nat) (h_a : kd E a = 13) (f1 : Nat → Int32) (ef1 : aF σ (ad E a 1) = f1) (f37 : Nat → Int32) (ef37 : aF σ (ad E a 37) = f37) (f61 : Nat → Int32) (ef61 : aF σ (ad E a 61) = f61) (f62 : Nat → Int32) (ef62 : aF σ (ad E a 62) = f62) (f39 : Nat → Int32) (ef39 : aF σ (ad E a 39) = f39) (f40 : Nat → Int32) (ef40 : aF σ (ad E a 40) = f40) (f42 : Nat → Int32) (ef42 : aF σ (ad E a 42) = f42) (f43 : Nat → Int32) (ef43 : aF σ (ad E a 43) = f43) (f44 : Nat → Int32) (ef44 : aF σ (ad E a 44) = f44) (f45 : Nat → Int32) (ef45 : aF σ (ad E a 45) = f45) (f46 : Nat → Int32) (ef46 : aF σ (ad E a 46) = f46) (f8 : Nat → Int32) (ef8 : aF σ (ad E a 8) = f8) (hy0 : jw f1 f37 f61 f62 f39 f40 f42 f43 f44 f45 f46 (gI σ a 36) (gI σ a 58) (gI σ a 59)) : Met l yX11_look wsX11_look ({ frames := 52, cells := 0, slots := 0, locals := 1741 }) (th_P G y b0 σ [.ref a]) (th_Qi G b0 (fun r σ1 => ok y E σ1 ∧ fr [13] E σ σ1 ∧ fm [0, 9, 10, 11, 13, 14, 15, 16, 17, 18, 19, 20, 23, 24, 25, 26, 27, 28, 29, 30, 54, 55] E σ σ1 a ∧ (jw (aF σ1 (ad E a 1)) (aF σ1 (ad E a 37)) (aF σ1 (ad E a 61)) (aF σ1 (ad E a 62)) (aF σ1 (ad E a 39)) (aF σ1 (ad E a 40)) (aF σ1 (ad E a 42)) (aF σ1 (ad E a 43)) (aF σ1 (ad E a 44)) (aF σ1 (ad E a 45)) (aF σ1 (ad E a 46)) (gI σ1 a 36) (gI σ1 a 58) (gI σ1 a 59) ∧ gI σ1 a 12 = gI σ a 12))) 0 0 (th_A b0) := by
  refine Met.ofW (cc := cX11_look) (maxL := 6) (ret := (some .int)) (by decide) rfl ?_
  intro p e s m args below meth c s₁ B hml hv
  obtain ⟨rfl, hH, hK⟩ := hv
  have hx := B.exec
  have hb := B.bytes
  have hr := B.returns
  have hts := atoms_spec (ws := wsX11_look) B.pre
  have hown : s.vm.findClass RX11 = some m.cls := findClass_of_methodNamed B.named
  have hlocks := B.notSynchronized
  have h00 : b0 ≤ s.heap.size := hH.1
  have hS : va_S (th_A b0) s.heap s.heap [] := va_S.rf
  have hF : fr [13] E σ σ := fr.rf
  have hM : fm [0, 9, 10, 11, 13, 14, 15, 16, 17, 18, 19, 20, 23, 24, 25, 26, 27, 28, 29, 30, 54, 55] E σ σ a := fm.rf
  have hj := hy0
  have hw1 := hj.1.1.1
  have hm1 := hj.1.2.1
  have hm2 := hj.1.2.2.1
  have hm3 := hj.2.2.2.2.1
  have hm4 := hj.2.2.2.2.2.1
  have inX11 : ∀ w ∈ wsX110, w ∈ wsX11_look := by decide +kernel
  have fl0 := hts (.fieldLink RX11 111 "NestQueryModel" "code" "I") (by decide +kernel)
  have fl1 := hts (.fieldLink RX11 87 "NestQueryModel" "votes" "[I") (by decide +kernel)
  have fl2 := hts (.fieldLink RX11 522 "NestQueryModel" "fitting" "I") (by decide +kernel)
  have fl3 := hts (.methodLink RX11 153 Lib.Math.min.name) (by decide +kernel)
  have fl4 := hts (.static Lib.Math.min.name) (by decide +kernel)
  have fl5 := hts (.initialized "java/lang/Math") (by decide +kernel)
  have fl6 := hts (.code Lib.Math.min.name Lib.Math.min.code 2 (some .int)) (by decide +kernel)
  have hl := lv_entry ([.ref a]) (n := 6) (Nat.le_of_ble_eq_true rfl)
  rw [lg_entry_eq]
  generalize (lg_sl ([.ref a]) ++ List.replicate (6 - (lg_sl ([.ref a])).length) Slot.unset).toArray = ls at hl ⊢
  have hl : lv_has ls 6 [(0, .ref a)] := hl
  obtain ⟨a360, ea360, ra360, la360, ua360⟩ := hO.gi h_a (by decide) k13_36
  obtain ⟨a580, ea580, ra580, la580, ua580⟩ := hO.gi h_a (by decide) k13_58
  obtain ⟨a590, ea590, ra590, la590, ua590⟩ := hO.gi h_a (by decide) k13_59
  obtain ⟨a120, ea120, ra120, la120, ua120⟩ := hO.gi h_a (by decide) k13_12
  refine lv_aload_n hx hb dX11_look_0 rfl (lv_at hl 0 rfl) ?_
  refine lv_iconst (v := I 0) hx hb dX11_look_1 (by decide) ?_
  refine ok.putJ hO h_a k13_0 (show rng 0 from ⟨by decide, by decide⟩) (by omega) (by omega) (fun _ he hl9 kk => th_put (ci := 11) (v := .int (I 0)) (ty := .int) (C := RX11) (T := TX11) (N := 66) hx hb hts inX11 tyX11 tyX11_ok nmX11 hown hK hH hS h00 he rfl 0 (by decide) fl0 rfl (by decide +kernel) rfl rfl hl9 dX11_look_2 kk) (fun σ_s_1 H locs hO hF9 hM9 hg9 ha9 hH hS => ?_)
  replace hM := hM.tu hM9 (by decide)
  replace hF := hF.tu hF9 (by decide)
  have e_2 : aF σ_s_1 (ad E a 1) = f1 := (hM9.a (by decide) (by decide)).trans ef1
  have e_3 : aF σ_s_1 (ad E a 37) = f37 := (hM9.a (by decide) (by decide)).trans ef37
  have e_4 : aF σ_s_1 (ad E a 61) = f61 := (hM9.a (by decide) (by decide)).trans ef61
  have e_5 : aF σ_s_1 (ad E a 62) = f62 := (hM9.a (by decide) (by decide)).trans ef62
  have e_6 : aF σ_s_1 (ad E a 39) = f39 := (hM9.a (by decide) (by decide)).trans ef39
  have e_7 : aF σ_s_1 (ad E a 40) = f40 := (hM9.a (by decide) (by decide)).trans ef40
  have e_8 : aF σ_s_1 (ad E a 42) = f42 := (hM9.a (by decide) (by decide)).trans ef42
  have e_9 : aF σ_s_1 (ad E a 43) = f43 := (hM9.a (by decide) (by decide)).trans ef43
  have e_10 : aF σ_s_1 (ad E a 44) = f44 := (hM9.a (by decide) (by decide)).trans ef44
  have e_11 : aF σ_s_1 (ad E a 45) = f45 := (hM9.a (by decide) (by decide)).trans ef45
  have e_12 : aF σ_s_1 (ad E a 46) = f46 := (hM9.a (by decide) (by decide)).trans ef46
  have e_13 : aF σ_s_1 (ad E a 8) = f8 := (hM9.a (by decide) (by decide)).trans ef8
  have e_14 : gI σ_s_1 a 36 = a360 := (hM9.i (by decide)).trans ea360
  have e_15 : gI σ_s_1 a 58 = a580 := (hM9.i (by decide)).trans ea580
  have e_16 : gI σ_s_1 a 59 = a590 := (hM9.i (by decide)).trans ea590
  have e_17 : gI σ_s_1 a 12 = a120 := (hM9.i (by decide)).trans ea120
  have e_18 := hg9
  refine lv_aload_n hx hb dX11_look_5 rfl (lv_at hl 0 rfl) ?_
  obtain ⟨_, hc_19⟩ := hO.cell h_a (by decide) (ci := 11) rfl
  refine th_calli (va_runV (As := []) (rest := []) ⟨hx, hb, hml, hown, hts⟩ (m_fits l G y b0 σ_s_1 E hO a h_a f1 e_2 f8 e_13 (hw1) (by omega)) (cwV 0 hts gX11_look_X11_fits rfl rfl rfl (by decide +kernel) ⟨Nat.le_of_ble_eq_true rfl, Nat.le_of_ble_eq_true rfl⟩) (th_PV hK hH rfl hc_19) rfl rfl hl.1 rfl (lv_room (Nat.le_of_ble_eq_true rfl)) dX11_look_6 ⟨Nat.le_of_ble_eq_true rfl, Nat.le_of_ble_eq_true rfl⟩) hS (fun z_22 σ_s_21 H locs rz_22 hw_20 hH hS => ?_)
  obtain ⟨hO9, hF9, hM9, hw_20⟩ := hw_20
  replace hM := hM.tu hM9 (by decide)
  replace hF := hF.tu hF9 (by decide)
  have e_23 : aF σ_s_21 (ad E a 1) = f1 := (hM9.a (by decide) (by decide)).trans e_2
  have e_24 : aF σ_s_21 (ad E a 37) = f37 := (hM9.a (by decide) (by decide)).trans e_3
  have e_25 : aF σ_s_21 (ad E a 61) = f61 := (hM9.a (by decide) (by decide)).trans e_4
  have e_26 : aF σ_s_21 (ad E a 62) = f62 := (hM9.a (by decide) (by decide)).trans e_5
  have e_27 : aF σ_s_21 (ad E a 39) = f39 := (hM9.a (by decide) (by decide)).trans e_6
  have e_28 : aF σ_s_21 (ad E a 40) = f40 := (hM9.a (by decide) (by decide)).trans e_7
  have e_29 : aF σ_s_21 (ad E a 42) = f42 := (hM9.a (by decide) (by decide)).trans e_8
  have e_30 : aF σ_s_21 (ad E a 43) = f43 := (hM9.a (by decide) (by decide)).trans e_9
  have e_31 : aF σ_s_21 (ad E a 44) = f44 := (hM9.a (by decide) (by decide)).trans e_10
  have e_32 : aF σ_s_21 (ad E a 45) = f45 := (hM9.a (by decide) (by decide)).trans e_11
  have e_33 : aF σ_s_21 (ad E a 46) = f46 := (hM9.a (by decide) (by decide)).trans e_12
  have e_34 : aF σ_s_21 (ad E a 8) = f8 := (hM9.a (by decide) (by decide)).trans e_13
  have e_35 : gI σ_s_21 a 36 = a360 := (hM9.i (by decide)).trans e_14
  have e_36 : gI σ_s_21 a 58 = a580 := (hM9.i (by decide)).trans e_15
  have e_37 : gI σ_s_21 a 59 = a590 := (hM9.i (by decide)).trans e_16
  have e_38 : gI σ_s_21 a 12 = a120 := (hM9.i (by decide)).trans e_17
  have e_39 : gI σ_s_21 a 0 = 0 := (hM9.i (by decide)).trans e_18
  replace hO := hO9
  refine lv_istore_n (lv' := [(1, .int (I z_22)), (0, .ref a)]) hx hb dX11_look_9 rfl hl (by decide) rfl (fun ls hl => ?_)
  refine lv_iconst (v := I (-1)) hx hb dX11_look_10 (by decide) ?_
  refine lv_istore_n (lv' := [(2, .int (I (-1))), (1, .int (I z_22)), (0, .ref a)]) hx hb dX11_look_11 rfl hl (by decide) rfl (fun ls hl => ?_)
  refine lv_iconst (v := I 0) hx hb dX11_look_12 (by decide) ?_
  refine lv_istore_n (lv' := [(3, .int (I 0)), (2, .int (I (-1))), (1, .int (I z_22)), (0, .ref a)]) hx hb dX11_look_13 rfl hl (by decide) rfl (fun ls hl => ?_)
  refine lv_iconst (v := I 0) hx hb dX11_look_14 (by decide) ?_
  refine lv_istore (lv' := [(4, .int (I 0)), (3, .int (I 0)), (2, .int (I (-1))), (1, .int (I z_22)), (0, .ref a)]) hx hb dX11_look_15 hl (by decide) rfl (fun ls hl => ?_)
  replace hl : lv_has ls 6 [(4, .int (I 0)), (3, .int (I 0)), (2, .int (I (-1))), (0, .ref a)] := lv_sub hl [0, 1, 2, 4] rfl
  refine th_loop (α := Int × Int × Int) (pc := 17) (fun x9 => (mS f1 0 - x9.2.2).toNat) (fun x9 σ9 H9 l9 ls9 => σ9 = σ_s_21 ∧ th_H G b0 σ9 H9 ∧ va_S (th_A b0) s.heap H9 l9 ∧ lv_has ls9 6 [(0, .ref a), (2, .int (I x9.1)), (3, .int (I x9.2.1)), (4, .int (I x9.2.2))] ∧ rng x9.1 ∧ rng x9.2.1 ∧ rng x9.2.2 ∧ (0 ≤ x9.2.2) ∧ (x9.2.2 ≤ 60)) ?_ ((-1), 0, 0) σ_s_21 _ _ _ ⟨rfl, hH, hS, lv_sub hl [3, 2, 1, 0] rfl, (show rng (-1) from ⟨by decide, by decide⟩), (show rng 0 from ⟨by decide, by decide⟩), (show rng 0 from ⟨by decide, by decide⟩), by first | (dsimp only; omega) | omega, by first | (dsimp only; omega) | omega⟩
  intro x9 σ_J_56 H locs ls hI9 ihJ_56
  obtain ⟨v2q55, v3q55, v4q55⟩ := x9
  obtain ⟨eJ_56, hH, hS, hl, rv2q55, rv3q55, rv4q55, J_56_0, J_56_1⟩ := hI9
  replace eJ_56 := eJ_56.symm
  subst eJ_56
  have hl : lv_has ls 6 [(0, .ref a), (2, .int (I v2q55)), (3, .int (I v3q55)), (4, .int (I v4q55))] := hl
  have rv2q55 : rng v2q55 := rv2q55
  have rv3q55 : rng v3q55 := rv3q55
  have rv4q55 : rng v4q55 := rv4q55
  have J_56_0 : 0 ≤ v4q55 := J_56_0
  have J_56_1 : v4q55 ≤ 60 := J_56_1
  refine lv_iload hx hb dX11_look_17 (lv_at hl 3 rfl) ?_
  refine lv_aload_n hx hb dX11_look_19 rfl (lv_at hl 0 rfl) ?_
  obtain ⟨_, hc_57⟩ := hO.cell h_a (by decide) (ci := 11) rfl
  refine th_calli (va_runV (As := []) (rest := [.int (I v4q55)]) ⟨hx, hb, hml, hown, hts⟩ (m_things l G y b0 σ_s_21 E hO a h_a f1 e_23) (cwV 0 hts gX11_look_X11_things rfl rfl rfl (by decide +kernel) ⟨Nat.le_of_ble_eq_true rfl, Nat.le_of_ble_eq_true rfl⟩) (th_PV hK hH rfl hc_57) rfl rfl hl.1 rfl (lv_room (Nat.le_of_ble_eq_true rfl)) dX11_look_20 ⟨Nat.le_of_ble_eq_true rfl, Nat.le_of_ble_eq_true rfl⟩) hS (fun z_60 σ_s_59 H locs rz_60 hw_58 hH hS => ?_)
  obtain ⟨e9, hw_58⟩ := hw_58
  replace e9 := e9.symm
  subst e9
  have hw_58 : z_60 = mS f1 0 := hw_58
  refine lv_icmp_ge (tgt := 71) hx hb dX11_look_23 (by decide) (fun c_61 => ?_) (fun c_61 => ?_)
  · replace c_61 := (I_le (a := z_60) (b := v4q55) rz_60 rv4q55).mp c_61
    refine lv_iload_n hx hb dX11_look_71 rfl (lv_at hl 1 rfl) ?_
    exact th_iret hx hb hr hlocks hH hS (z := v2q55) rv2q55 ⟨hO, hF, hM, by rw [show aF σ_s_21 (ad E a 1) = f1 from e_23, show aF σ_s_21 (ad E a 37) = f37 from e_24, show aF σ_s_21 (ad E a 61) = f61 from e_25, show aF σ_s_21 (ad E a 62) = f62 from e_26, show aF σ_s_21 (ad E a 39) = f39 from e_27, show aF σ_s_21 (ad E a 40) = f40 from e_28, show aF σ_s_21 (ad E a 42) = f42 from e_29, show aF σ_s_21 (ad E a 43) = f43 from e_30, show aF σ_s_21 (ad E a 44) = f44 from e_31, show aF σ_s_21 (ad E a 45) = f45 from e_32, show aF σ_s_21 (ad E a 46) = f46 from e_33]; exact ⟨hj.n (by omega) (by omega) (by omega), by omega⟩⟩ dX11_look_72
  · replace c_61 := mt (I_le (a := z_60) (b := v4q55) rz_60 rv4q55).mpr c_61
    refine lv_aload_n hx hb dX11_look_26 rfl (lv_at hl 0 rfl) ?_
    refine ok.getR hO h_a (by decide) k13_54 (by decide) (fun _ _ he hv kk => th_get (ci := 11) (C := RX11) (T := TX11) (N := 66) hx hb hts inX11 hown hK hH he rfl 54 (by decide) fl1 hv dX11_look_27 kk) ?_
    refine lv_iload hx hb dX11_look_30 (lv_at hl 3 rfl) ?_
    obtain ⟨f_63, ef_64⟩ : ∃ f9, aF σ_s_21 (ad E a 54) = f9 := ⟨_, rfl⟩
    refine m_iald hx hb hK hH hO h_a k13_54 isA1 ef_64 rv4q55 (by omega) (by omega) dX11_look_32 (fun z_62 ez_62 rz_62 elx9 => ?_)
    refine lv_aload_n hx hb dX11_look_33 rfl (lv_at hl 0 rfl) ?_
    refine ok.getI hO h_a (by decide) k13_55 (fun _ _ he hv kk => th_get (ci := 11) (C := RX11) (T := TX11) (N := 66) hx hb hts inX11 hown hK hH he rfl 55 (by decide) fl2 hv dX11_look_34 kk) (fun z_65 e_66 rz_65 lz_65 uz_65 => ?_)
    refine lv_aload_n hx hb dX11_look_37 rfl (lv_at hl 0 rfl) ?_
    refine ok.getR hO h_a (by decide) k13_54 (by decide) (fun _ _ he hv kk => th_get (ci := 11) (C := RX11) (T := TX11) (N := 66) hx hb hts inX11 hown hK hH he rfl 54 (by decide) fl1 hv dX11_look_38 kk) ?_
    refine lv_iload hx hb dX11_look_41 (lv_at hl 3 rfl) ?_
    refine m_iald hx hb hK hH hO h_a k13_54 isA1 ef_64 rv4q55 (by omega) (by omega) dX11_look_43 (fun z_67 ez_67 rz_67 elx9 => ?_)
    refine lv_isub hx hb dX11_look_44 ?_
    refine th_subo (fun z_68 rz_68 hz_68 => ?_)
    refine va_mmin hx hb (by rw [hml]; exact hl.1.symm) hown fl3 fl4 fl5 fl6 (Nat.le_of_ble_eq_true rfl) (Nat.le_of_ble_eq_true rfl) (Nat.zero_le _) (Nat.zero_le _) dX11_look_45 ?_
    refine th_mmin rz_62 rz_68 (fun z_69 rz_69 hz_69 => ?_)
    refine lv_istore (lv' := [(5, .int (I z_69)), (0, .ref a), (2, .int (I v2q55)), (3, .int (I v3q55)), (4, .int (I v4q55))]) hx hb dX11_look_48 hl (by decide) rfl (fun ls hl => ?_)
    refine lv_iload hx hb dX11_look_50 (lv_at hl 0 rfl) ?_
    refine lv_iload_n hx hb dX11_look_52 rfl (lv_at hl 3 rfl) ?_
    refine lv_icmp_gt (tgt := 59) hx hb dX11_look_53 (by decide) (fun c_70 => ?_) (fun c_70 => ?_)
    · replace c_70 := (I_lt (a := v3q55) (b := z_69) rv3q55 rz_69).mp c_70
      refine lv_iload hx hb dX11_look_59 (lv_at hl 4 rfl) ?_
      refine lv_istore_n (lv' := [(2, .int (I v4q55)), (5, .int (I z_69)), (0, .ref a), (3, .int (I v3q55)), (4, .int (I v4q55))]) hx hb dX11_look_61 rfl hl (by decide) rfl (fun ls hl => ?_)
      refine lv_iload hx hb dX11_look_62 (lv_at hl 1 rfl) ?_
      refine lv_istore_n (lv' := [(3, .int (I z_69)), (2, .int (I v4q55)), (5, .int (I z_69)), (0, .ref a), (4, .int (I v4q55))]) hx hb dX11_look_64 rfl hl (by decide) rfl (fun ls hl => ?_)
      refine lv_iinc (v := I (v4q55 + 1)) (lv' := [(4, .int (I (v4q55 + 1))), (3, .int (I z_69)), (2, .int (I v4q55)), (5, .int (I z_69)), (0, .ref a)]) hx hb dX11_look_65 hl (k := 4) rfl (I_add _ _) (by decide) rfl (fun ls hl => ?_)
      refine lv_goto (tgt := 17) hx hb dX11_look_68 (by decide) ?_
      replace hl : lv_has ls 6 [(4, .int (I (v4q55 + 1))), (3, .int (I z_69)), (2, .int (I v4q55)), (0, .ref a)] := lv_sub hl [0, 1, 2, 4] rfl
      exact ihJ_56 (v4q55, z_69, v4q55 + 1) σ_s_21 _ _ _ (by first | (dsimp only; omega) | omega) ⟨rfl, hH, hS, lv_sub hl [3, 2, 1, 0] rfl, rv4q55, rz_69, ⟨by first | (dsimp only; omega) | omega, by first | (dsimp only; omega) | omega⟩, by first | (dsimp only; omega) | omega, by first | (dsimp only; omega) | omega⟩
    · replace c_70 := mt (I_lt (a := v3q55) (b := z_69) rv3q55 rz_69).mpr c_70
      refine lv_goto (tgt := 65) hx hb dX11_look_56 (by decide) ?_
      refine lv_iinc (v := I (v4q55 + 1)) (lv' := [(4, .int (I (v4q55 + 1))), (5, .int (I z_69)), (0, .ref a), (2, .int (I v2q55)), (3, .int (I v3q55))]) hx hb dX11_look_65 hl (k := 4) rfl (I_add _ _) (by decide) rfl (fun ls hl => ?_)
      refine lv_goto (tgt := 17) hx hb dX11_look_68 (by decide) ?_
      replace hl : lv_has ls 6 [(4, .int (I (v4q55 + 1))), (0, .ref a), (2, .int (I v2q55)), (3, .int (I v3q55))] := lv_sub hl [0, 2, 3, 4] rfl
      exact ihJ_56 (v2q55, v3q55, v4q55 + 1) σ_s_21 _ _ _ (by first | (dsimp only; omega) | omega) ⟨rfl, hH, hS, lv_sub hl [1, 2, 3, 0] rfl, rv2q55, rv3q55, ⟨by first | (dsimp only; omega) | omega, by first | (dsimp only; omega) | omega⟩, by first | (dsimp only; omega) | omega, by first | (dsimp only; omega) | omega⟩

set_option maxHeartbeats 4000000 in
set_option maxRecDepth 100000 in
theorem j_forget (l : Launch) (G : va_G) (y : Nat → ClassId) (b0 : Nat) (σ : th_M) (E : th_E) (hO : ok y E σ) (a : Nat) (h_a : kd E a = 13) (f1 : Nat → Int32) (ef1 : aF σ (ad E a 1) = f1) (f37 : Nat → Int32) (ef37 : aF σ (ad E a 37) = f37) (f61 : Nat → Int32) (ef61 : aF σ (ad E a 61) = f61) (f62 : Nat → Int32) (ef62 : aF σ (ad E a 62) = f62) (f39 : Nat → Int32) (ef39 : aF σ (ad E a 39) = f39) (f40 : Nat → Int32) (ef40 : aF σ (ad E a 40) = f40) (f42 : Nat → Int32) (ef42 : aF σ (ad E a 42) = f42) (f43 : Nat → Int32) (ef43 : aF σ (ad E a 43) = f43) (f44 : Nat → Int32) (ef44 : aF σ (ad E a 44) = f44) (f45 : Nat → Int32) (ef45 : aF σ (ad E a 45) = f45) (f46 : Nat → Int32) (ef46 : aF σ (ad E a 46) = f46) (hy0 : jw f1 f37 f61 f62 f39 f40 f42 f43 f44 f45 f46 (gI σ a 36) (gI σ a 58) (gI σ a 59)) : Met l yX11_forget wsX11_forget ({ frames := 0, cells := 0, slots := 0, locals := 0 }) (th_P G y b0 σ [.ref a]) (th_Qv G b0 (fun σ1 => ok y E σ1 ∧ fr [13] E σ σ1 ∧ fm [0, 51] E σ σ1 a ∧ (jw (aF σ1 (ad E a 1)) (aF σ1 (ad E a 37)) (aF σ1 (ad E a 61)) (aF σ1 (ad E a 62)) (aF σ1 (ad E a 39)) (aF σ1 (ad E a 40)) (aF σ1 (ad E a 42)) (aF σ1 (ad E a 43)) (aF σ1 (ad E a 44)) (aF σ1 (ad E a 45)) (aF σ1 (ad E a 46)) (gI σ1 a 36) (gI σ1 a 58) (gI σ1 a 59) ∧ gI σ1 a 12 = gI σ a 12))) 0 0 (th_A b0) := by
  refine Met.ofW (cc := cX11_forget) (maxL := 1) (ret := none) (by decide) rfl ?_
  intro p e s m args below meth c s₁ B hml hv
  obtain ⟨rfl, hH, hK⟩ := hv
  have hx := B.exec
  have hb := B.bytes
  have hr := B.returns
  have hts := atoms_spec (ws := wsX11_forget) B.pre
  have hown : s.vm.findClass RX11 = some m.cls := findClass_of_methodNamed B.named
  have hlocks := B.notSynchronized
  have h00 : b0 ≤ s.heap.size := hH.1
  have hS : va_S (th_A b0) s.heap s.heap [] := va_S.rf
  have hF : fr [13] E σ σ := fr.rf
  have hM : fm [0, 51] E σ σ a := fm.rf
  have hj := hy0
  have hw1 := hj.1.1.1
  have hm1 := hj.1.2.1
  have hm2 := hj.1.2.2.1
  have hm3 := hj.2.2.2.2.1
  have hm4 := hj.2.2.2.2.2.1
  have inX11 : ∀ w ∈ wsX110, w ∈ wsX11_forget := by decide +kernel
  have fl0 := hts (.fieldLink RX11 111 "NestQueryModel" "code" "I") (by decide +kernel)
  have fl1 := hts (.fieldLink RX11 235 "NestQueryModel" "noted" "I") (by decide +kernel)
  have hl := lv_entry ([.ref a]) (n := 1) (Nat.le_of_ble_eq_true rfl)
  rw [lg_entry_eq]
  generalize (lg_sl ([.ref a]) ++ List.replicate (1 - (lg_sl ([.ref a])).length) Slot.unset).toArray = ls at hl ⊢
  have hl : lv_has ls 1 [(0, .ref a)] := hl
  obtain ⟨a360, ea360, ra360, la360, ua360⟩ := hO.gi h_a (by decide) k13_36
  obtain ⟨a580, ea580, ra580, la580, ua580⟩ := hO.gi h_a (by decide) k13_58
  obtain ⟨a590, ea590, ra590, la590, ua590⟩ := hO.gi h_a (by decide) k13_59
  obtain ⟨a120, ea120, ra120, la120, ua120⟩ := hO.gi h_a (by decide) k13_12
  refine lv_aload_n hx hb dX11_forget_0 rfl (lv_at hl 0 rfl) ?_
  refine lv_iconst (v := I 0) hx hb dX11_forget_1 (by decide) ?_
  refine ok.putJ hO h_a k13_0 (show rng 0 from ⟨by decide, by decide⟩) (by omega) (by omega) (fun _ he hl9 kk => th_put (ci := 11) (v := .int (I 0)) (ty := .int) (C := RX11) (T := TX11) (N := 66) hx hb hts inX11 tyX11 tyX11_ok nmX11 hown hK hH hS h00 he rfl 0 (by decide) fl0 rfl (by decide +kernel) rfl rfl hl9 dX11_forget_2 kk) (fun σ_s_1 H locs hO hF9 hM9 hg9 ha9 hH hS => ?_)
  replace hM := hM.tu hM9 (by decide)
  replace hF := hF.tu hF9 (by decide)
  have e_2 : aF σ_s_1 (ad E a 1) = f1 := (hM9.a (by decide) (by decide)).trans ef1
  have e_3 : aF σ_s_1 (ad E a 37) = f37 := (hM9.a (by decide) (by decide)).trans ef37
  have e_4 : aF σ_s_1 (ad E a 61) = f61 := (hM9.a (by decide) (by decide)).trans ef61
  have e_5 : aF σ_s_1 (ad E a 62) = f62 := (hM9.a (by decide) (by decide)).trans ef62
  have e_6 : aF σ_s_1 (ad E a 39) = f39 := (hM9.a (by decide) (by decide)).trans ef39
  have e_7 : aF σ_s_1 (ad E a 40) = f40 := (hM9.a (by decide) (by decide)).trans ef40
  have e_8 : aF σ_s_1 (ad E a 42) = f42 := (hM9.a (by decide) (by decide)).trans ef42
  have e_9 : aF σ_s_1 (ad E a 43) = f43 := (hM9.a (by decide) (by decide)).trans ef43
  have e_10 : aF σ_s_1 (ad E a 44) = f44 := (hM9.a (by decide) (by decide)).trans ef44
  have e_11 : aF σ_s_1 (ad E a 45) = f45 := (hM9.a (by decide) (by decide)).trans ef45
  have e_12 : aF σ_s_1 (ad E a 46) = f46 := (hM9.a (by decide) (by decide)).trans ef46
  have e_13 : gI σ_s_1 a 36 = a360 := (hM9.i (by decide)).trans ea360
  have e_14 : gI σ_s_1 a 58 = a580 := (hM9.i (by decide)).trans ea580
  have e_15 : gI σ_s_1 a 59 = a590 := (hM9.i (by decide)).trans ea590
  have e_16 : gI σ_s_1 a 12 = a120 := (hM9.i (by decide)).trans ea120
  have e_17 := hg9
  refine lv_aload_n hx hb dX11_forget_5 rfl (lv_at hl 0 rfl) ?_
  refine lv_iconst (v := I 0) hx hb dX11_forget_6 (by decide) ?_
  refine ok.putJ hO h_a k13_51 (show rng 0 from ⟨by decide, by decide⟩) (by omega) (by omega) (fun _ he hl9 kk => th_put (ci := 11) (v := .int (I 0)) (ty := .int) (C := RX11) (T := TX11) (N := 66) hx hb hts inX11 tyX11 tyX11_ok nmX11 hown hK hH hS h00 he rfl 51 (by decide) fl1 rfl (by decide +kernel) rfl rfl hl9 dX11_forget_7 kk) (fun σ_s_18 H locs hO hF9 hM9 hg9 ha9 hH hS => ?_)
  replace hM := hM.tu hM9 (by decide)
  replace hF := hF.tu hF9 (by decide)
  have e_19 : aF σ_s_18 (ad E a 1) = f1 := (hM9.a (by decide) (by decide)).trans e_2
  have e_20 : aF σ_s_18 (ad E a 37) = f37 := (hM9.a (by decide) (by decide)).trans e_3
  have e_21 : aF σ_s_18 (ad E a 61) = f61 := (hM9.a (by decide) (by decide)).trans e_4
  have e_22 : aF σ_s_18 (ad E a 62) = f62 := (hM9.a (by decide) (by decide)).trans e_5
  have e_23 : aF σ_s_18 (ad E a 39) = f39 := (hM9.a (by decide) (by decide)).trans e_6
  have e_24 : aF σ_s_18 (ad E a 40) = f40 := (hM9.a (by decide) (by decide)).trans e_7
  have e_25 : aF σ_s_18 (ad E a 42) = f42 := (hM9.a (by decide) (by decide)).trans e_8
  have e_26 : aF σ_s_18 (ad E a 43) = f43 := (hM9.a (by decide) (by decide)).trans e_9
  have e_27 : aF σ_s_18 (ad E a 44) = f44 := (hM9.a (by decide) (by decide)).trans e_10
  have e_28 : aF σ_s_18 (ad E a 45) = f45 := (hM9.a (by decide) (by decide)).trans e_11
  have e_29 : aF σ_s_18 (ad E a 46) = f46 := (hM9.a (by decide) (by decide)).trans e_12
  have e_30 : gI σ_s_18 a 36 = a360 := (hM9.i (by decide)).trans e_13
  have e_31 : gI σ_s_18 a 58 = a580 := (hM9.i (by decide)).trans e_14
  have e_32 : gI σ_s_18 a 59 = a590 := (hM9.i (by decide)).trans e_15
  have e_33 : gI σ_s_18 a 12 = a120 := (hM9.i (by decide)).trans e_16
  have e_34 : gI σ_s_18 a 0 = 0 := (hM9.i (by decide)).trans e_17
  have e_35 := hg9
  exact th_vret hx hb hr hlocks hH hS ⟨hO, hF, hM, by rw [show aF σ_s_18 (ad E a 1) = f1 from e_19, show aF σ_s_18 (ad E a 37) = f37 from e_20, show aF σ_s_18 (ad E a 61) = f61 from e_21, show aF σ_s_18 (ad E a 62) = f62 from e_22, show aF σ_s_18 (ad E a 39) = f39 from e_23, show aF σ_s_18 (ad E a 40) = f40 from e_24, show aF σ_s_18 (ad E a 42) = f42 from e_25, show aF σ_s_18 (ad E a 43) = f43 from e_26, show aF σ_s_18 (ad E a 44) = f44 from e_27, show aF σ_s_18 (ad E a 45) = f45 from e_28, show aF σ_s_18 (ad E a 46) = f46 from e_29]; exact ⟨hj.n (by omega) (by omega) (by omega), by omega⟩⟩ dX11_forget_10

set_option maxHeartbeats 4000000 in
set_option maxRecDepth 100000 in
theorem j_years (l : Launch) (G : va_G) (y : Nat → ClassId) (b0 : Nat) (σ : th_M) (E : th_E) (hO : ok y E σ) (a : Nat) (h_a : kd E a = 13) (sd : Int) (rsd : rng sd) (nn : Int) (rnn : rng nn) (wh : Int) (rwh : rng wh) (f1 : Nat → Int32) (ef1 : aF σ (ad E a 1) = f1) (f37 : Nat → Int32) (ef37 : aF σ (ad E a 37) = f37) (f61 : Nat → Int32) (ef61 : aF σ (ad E a 61) = f61) (f62 : Nat → Int32) (ef62 : aF σ (ad E a 62) = f62) (f39 : Nat → Int32) (ef39 : aF σ (ad E a 39) = f39) (f40 : Nat → Int32) (ef40 : aF σ (ad E a 40) = f40) (f42 : Nat → Int32) (ef42 : aF σ (ad E a 42) = f42) (f43 : Nat → Int32) (ef43 : aF σ (ad E a 43) = f43) (f44 : Nat → Int32) (ef44 : aF σ (ad E a 44) = f44) (f45 : Nat → Int32) (ef45 : aF σ (ad E a 45) = f45) (f46 : Nat → Int32) (ef46 : aF σ (ad E a 46) = f46) (f2 : Nat → Int32) (ef2 : aF σ (ad E a 2) = f2) (f8 : Nat → Int32) (ef8 : aF σ (ad E a 8) = f8) (f57 : Nat → Int32) (ef57 : aF σ (ad E a 57) = f57) (hy0 : jw f1 f37 f61 f62 f39 f40 f42 f43 f44 f45 f46 (gI σ a 36) (gI σ a 58) (gI σ a 59)) : Met l yX11_years wsX11_years ({ frames := 53, cells := 0, slots := 0, locals := 1769 }) (th_P G y b0 σ [.ref a, .int (I sd), .int (I nn), .int (I wh)]) (th_Qi G b0 (fun r σ1 => ok y E σ1 ∧ fr [13] E σ σ1 ∧ fm [0, 1, 3, 5, 9, 10, 11, 13, 14, 15, 16, 17, 18, 19, 20, 23, 24, 25, 26, 27, 28, 29, 30, 31, 32, 34, 35, 36, 37, 38, 56, 57] E σ σ1 a ∧ (jw (aF σ1 (ad E a 1)) (aF σ1 (ad E a 37)) (aF σ1 (ad E a 61)) (aF σ1 (ad E a 62)) (aF σ1 (ad E a 39)) (aF σ1 (ad E a 40)) (aF σ1 (ad E a 42)) (aF σ1 (ad E a 43)) (aF σ1 (ad E a 44)) (aF σ1 (ad E a 45)) (aF σ1 (ad E a 46)) (gI σ1 a 36) (gI σ1 a 58) (gI σ1 a 59) ∧ gI σ1 a 12 = gI σ a 12))) 0 0 (th_A b0) := by
  refine Met.ofW (cc := cX11_years) (maxL := 6) (ret := (some .int)) (by decide) rfl ?_
  intro p e s m args below meth c s₁ B hml hv
  obtain ⟨rfl, hH, hK⟩ := hv
  have hx := B.exec
  have hb := B.bytes
  have hr := B.returns
  have hts := atoms_spec (ws := wsX11_years) B.pre
  have hown : s.vm.findClass RX11 = some m.cls := findClass_of_methodNamed B.named
  have hlocks := B.notSynchronized
  have h00 : b0 ≤ s.heap.size := hH.1
  have hS : va_S (th_A b0) s.heap s.heap [] := va_S.rf
  have hF : fr [13] E σ σ := fr.rf
  have hM : fm [0, 1, 3, 5, 9, 10, 11, 13, 14, 15, 16, 17, 18, 19, 20, 23, 24, 25, 26, 27, 28, 29, 30, 31, 32, 34, 35, 36, 37, 38, 56, 57] E σ σ a := fm.rf
  have hj := hy0
  have hw1 := hj.1.1.1
  have hm1 := hj.1.2.1
  have hm2 := hj.1.2.2.1
  have hm3 := hj.2.2.2.2.1
  have hm4 := hj.2.2.2.2.2.1
  have inX11 : ∀ w ∈ wsX110, w ∈ wsX11_years := by decide +kernel
  have fl0 := hts (.fieldLink RX11 111 "NestQueryModel" "code" "I") (by decide +kernel)
  have fl1 := hts (.fieldLink RX11 90 "NestQueryModel" "treeThen" "[I") (by decide +kernel)
  have fl2 := hts (.fieldLink RX11 9 "NestQueryModel" "tree" "[I") (by decide +kernel)
  have fl3 := hts (.fieldLink RX11 403 "NestQueryModel" "isTried" "Z") (by decide +kernel)
  have fl4 := hts (.fieldLink RX11 525 "NestQueryModel" "seedNow" "I") (by decide +kernel)
  have hl := lv_entry ([.ref a, .int (I sd), .int (I nn), .int (I wh)]) (n := 6) (Nat.le_of_ble_eq_true rfl)
  rw [lg_entry_eq]
  generalize (lg_sl ([.ref a, .int (I sd), .int (I nn), .int (I wh)]) ++ List.replicate (6 - (lg_sl ([.ref a, .int (I sd), .int (I nn), .int (I wh)])).length) Slot.unset).toArray = ls at hl ⊢
  have hl : lv_has ls 6 [(0, .ref a), (1, .int (I sd)), (2, .int (I nn)), (3, .int (I wh))] := hl
  obtain ⟨a360, ea360, ra360, la360, ua360⟩ := hO.gi h_a (by decide) k13_36
  obtain ⟨a580, ea580, ra580, la580, ua580⟩ := hO.gi h_a (by decide) k13_58
  obtain ⟨a590, ea590, ra590, la590, ua590⟩ := hO.gi h_a (by decide) k13_59
  obtain ⟨a120, ea120, ra120, la120, ua120⟩ := hO.gi h_a (by decide) k13_12
  refine lv_aload_n hx hb dX11_years_0 rfl (lv_at hl 0 rfl) ?_
  refine lv_iconst (v := I 0) hx hb dX11_years_1 (by decide) ?_
  refine ok.putJ hO h_a k13_0 (show rng 0 from ⟨by decide, by decide⟩) (by omega) (by omega) (fun _ he hl9 kk => th_put (ci := 11) (v := .int (I 0)) (ty := .int) (C := RX11) (T := TX11) (N := 66) hx hb hts inX11 tyX11 tyX11_ok nmX11 hown hK hH hS h00 he rfl 0 (by decide) fl0 rfl (by decide +kernel) rfl rfl hl9 dX11_years_2 kk) (fun σ_s_1 H locs hO hF9 hM9 hg9 ha9 hH hS => ?_)
  replace hM := hM.tu hM9 (by decide)
  replace hF := hF.tu hF9 (by decide)
  have e_2 : aF σ_s_1 (ad E a 1) = f1 := (hM9.a (by decide) (by decide)).trans ef1
  have e_3 : aF σ_s_1 (ad E a 37) = f37 := (hM9.a (by decide) (by decide)).trans ef37
  have e_4 : aF σ_s_1 (ad E a 61) = f61 := (hM9.a (by decide) (by decide)).trans ef61
  have e_5 : aF σ_s_1 (ad E a 62) = f62 := (hM9.a (by decide) (by decide)).trans ef62
  have e_6 : aF σ_s_1 (ad E a 39) = f39 := (hM9.a (by decide) (by decide)).trans ef39
  have e_7 : aF σ_s_1 (ad E a 40) = f40 := (hM9.a (by decide) (by decide)).trans ef40
  have e_8 : aF σ_s_1 (ad E a 42) = f42 := (hM9.a (by decide) (by decide)).trans ef42
  have e_9 : aF σ_s_1 (ad E a 43) = f43 := (hM9.a (by decide) (by decide)).trans ef43
  have e_10 : aF σ_s_1 (ad E a 44) = f44 := (hM9.a (by decide) (by decide)).trans ef44
  have e_11 : aF σ_s_1 (ad E a 45) = f45 := (hM9.a (by decide) (by decide)).trans ef45
  have e_12 : aF σ_s_1 (ad E a 46) = f46 := (hM9.a (by decide) (by decide)).trans ef46
  have e_13 : aF σ_s_1 (ad E a 2) = f2 := (hM9.a (by decide) (by decide)).trans ef2
  have e_14 : aF σ_s_1 (ad E a 8) = f8 := (hM9.a (by decide) (by decide)).trans ef8
  have e_15 : aF σ_s_1 (ad E a 57) = f57 := (hM9.a (by decide) (by decide)).trans ef57
  have e_16 : gI σ_s_1 a 36 = a360 := (hM9.i (by decide)).trans ea360
  have e_17 : gI σ_s_1 a 58 = a580 := (hM9.i (by decide)).trans ea580
  have e_18 : gI σ_s_1 a 59 = a590 := (hM9.i (by decide)).trans ea590
  have e_19 : gI σ_s_1 a 12 = a120 := (hM9.i (by decide)).trans ea120
  have e_20 := hg9
  refine lv_iload_n hx hb dX11_years_5 rfl (lv_at hl 3 rfl) ?_
  refine lv_iconst (v := I 0) hx hb dX11_years_6 (by decide) ?_
  refine lv_iconst (v := I 2) hx hb dX11_years_7 (by decide) ?_
  refine th_calli (va_runS (As := [.int (I wh), .int (I 0), .int (I 2)]) (rest := []) ⟨hx, hb, hml, hown, hts⟩ (w_isIn l G y b0 σ_s_1 E hO wh (show rng wh from rwh) 0 (show rng 0 from (show rng 0 from ⟨by decide, by decide⟩)) 2 (show rng 2 from (show rng 2 from ⟨by decide, by decide⟩))) (va_cwS 3 hts gX11_years_X11_isIn rfl rfl rfl (by decide +kernel) ⟨Nat.le_of_ble_eq_true rfl, Nat.le_of_ble_eq_true rfl⟩) (th_PS hK hH) rfl rfl hl.1 rfl (lv_room (Nat.le_of_ble_eq_true rfl)) dX11_years_8 ⟨Nat.le_of_ble_eq_true rfl, Nat.le_of_ble_eq_true rfl⟩) hS (fun z_23 σ_s_22 H locs rz_23 hw_21 hH hS => ?_)
  obtain ⟨e9, bhw_21, hw_21⟩ := hw_21
  replace e9 := e9.symm
  subst e9
  have hw_21 : (z_23 = 1 ∧ 0 ≤ wh ∧ wh ≤ 2) ∨ (z_23 = 0 ∧ ¬ (0 ≤ wh ∧ wh ≤ 2)) := hw_21
  refine lv_if_ne (tgt := 20) hx hb dX11_years_11 (by decide) (fun c_24 => ?_) (fun c_24 => ?_)
  · replace c_24 := mt (I_eq (a := z_23) (b := 0) rz_23 (show rng 0 from ⟨by decide, by decide⟩)).mpr c_24
    refine lv_iload_n hx hb dX11_years_20 rfl (lv_at hl 2 rfl) ?_
    refine lv_iconst (v := I 0) hx hb dX11_years_21 (by decide) ?_
    refine lv_bipush (v := I 20) hx hb dX11_years_22 (by decide) ?_
    refine th_calli (va_runS (As := [.int (I nn), .int (I 0), .int (I 20)]) (rest := []) ⟨hx, hb, hml, hown, hts⟩ (w_isIn l G y b0 σ_s_1 E hO nn (show rng nn from rnn) 0 (show rng 0 from (show rng 0 from ⟨by decide, by decide⟩)) 20 (show rng 20 from (show rng 20 from ⟨by decide, by decide⟩))) (va_cwS 3 hts gX11_years_X11_isIn rfl rfl rfl (by decide +kernel) ⟨Nat.le_of_ble_eq_true rfl, Nat.le_of_ble_eq_true rfl⟩) (th_PS hK hH) rfl rfl hl.1 rfl (lv_room (Nat.le_of_ble_eq_true rfl)) dX11_years_24 ⟨Nat.le_of_ble_eq_true rfl, Nat.le_of_ble_eq_true rfl⟩) hS (fun z_27 σ_s_26 H locs rz_27 hw_25 hH hS => ?_)
    obtain ⟨e9, bhw_25, hw_25⟩ := hw_25
    replace e9 := e9.symm
    subst e9
    have hw_25 : (z_27 = 1 ∧ 0 ≤ nn ∧ nn ≤ 20) ∨ (z_27 = 0 ∧ ¬ (0 ≤ nn ∧ nn ≤ 20)) := hw_25
    refine lv_if_ne (tgt := 36) hx hb dX11_years_27 (by decide) (fun c_28 => ?_) (fun c_28 => ?_)
    · replace c_28 := mt (I_eq (a := z_27) (b := 0) rz_27 (show rng 0 from ⟨by decide, by decide⟩)).mpr c_28
      refine lv_aload_n hx hb dX11_years_36 rfl (lv_at hl 0 rfl) ?_
      refine ok.getR hO h_a (by decide) k13_57 (by decide) (fun _ _ he hv kk => th_get (ci := 11) (C := RX11) (T := TX11) (N := 66) hx hb hts inX11 hown hK hH he rfl 57 (by decide) fl1 hv dX11_years_37 kk) ?_
      refine lv_aload_n hx hb dX11_years_40 rfl (lv_at hl 0 rfl) ?_
      refine ok.getR hO h_a (by decide) k13_1 (by decide) (fun _ _ he hv kk => th_get (ci := 11) (C := RX11) (T := TX11) (N := 66) hx hb hts inX11 hown hK hH he rfl 1 (by decide) fl2 hv dX11_years_41 kk) ?_
      refine th_callv (va_runS (As := [.ref (ad E a 57), .ref (ad E a 1)]) (rest := []) ⟨hx, hb, hml, hown, hts⟩ (w_copy57_1 l G y b0 σ_s_1 E hO a h_a f57 e_15 f1 e_2) (va_cwS 2 hts gX11_years_X11_copyTo rfl rfl rfl (by decide +kernel) ⟨Nat.le_of_ble_eq_true rfl, Nat.le_of_ble_eq_true rfl⟩) (th_PS hK hH) rfl rfl hl.1 rfl (lv_room (Nat.le_of_ble_eq_true rfl)) dX11_years_44 ⟨Nat.le_of_ble_eq_true rfl, Nat.le_of_ble_eq_true rfl⟩) hS (fun σ_s_30 H locs hw_29 hH hS => ?_)
      obtain ⟨hO9, hF9, hM9, hw_29⟩ := hw_29
      replace hM := hM.tu hM9 (by decide)
      replace hF := hF.tu hF9 (by decide)
      have e_31 : aF σ_s_30 (ad E a 1) = f1 := (hM9.a (by decide) (by decide)).trans e_2
      have e_32 : aF σ_s_30 (ad E a 37) = f37 := (hM9.a (by decide) (by decide)).trans e_3
      have e_33 : aF σ_s_30 (ad E a 61) = f61 := (hM9.a (by decide) (by decide)).trans e_4
      have e_34 : aF σ_s_30 (ad E a 62) = f62 := (hM9.a (by decide) (by decide)).trans e_5
      have e_35 : aF σ_s_30 (ad E a 39) = f39 := (hM9.a (by decide) (by decide)).trans e_6
      have e_36 : aF σ_s_30 (ad E a 40) = f40 := (hM9.a (by decide) (by decide)).trans e_7
      have e_37 : aF σ_s_30 (ad E a 42) = f42 := (hM9.a (by decide) (by decide)).trans e_8
      have e_38 : aF σ_s_30 (ad E a 43) = f43 := (hM9.a (by decide) (by decide)).trans e_9
      have e_39 : aF σ_s_30 (ad E a 44) = f44 := (hM9.a (by decide) (by decide)).trans e_10
      have e_40 : aF σ_s_30 (ad E a 45) = f45 := (hM9.a (by decide) (by decide)).trans e_11
      have e_41 : aF σ_s_30 (ad E a 46) = f46 := (hM9.a (by decide) (by decide)).trans e_12
      have e_42 : aF σ_s_30 (ad E a 2) = f2 := (hM9.a (by decide) (by decide)).trans e_13
      have e_43 : aF σ_s_30 (ad E a 8) = f8 := (hM9.a (by decide) (by decide)).trans e_14
      have e_44 : gI σ_s_30 a 36 = a360 := (hM9.i (by decide)).trans e_16
      have e_45 : gI σ_s_30 a 58 = a580 := (hM9.i (by decide)).trans e_17
      have e_46 : gI σ_s_30 a 59 = a590 := (hM9.i (by decide)).trans e_18
      have e_47 : gI σ_s_30 a 12 = a120 := (hM9.i (by decide)).trans e_19
      have e_48 : gI σ_s_30 a 0 = 0 := (hM9.i (by decide)).trans e_20
      replace hO := hO9
      generalize ef_50 : aF σ_s_30 (ad E a 57) = g_49 at hw_29
      have hw_29 : cel 240 f1 g_49 := hw_29
      refine lv_aload_n hx hb dX11_years_47 rfl (lv_at hl 0 rfl) ?_
      refine lv_iconst (v := I 1) hx hb dX11_years_48 (by decide) ?_
      refine ok.putJ hO h_a k13_38 (show rng 1 from ⟨by decide, by decide⟩) (by omega) (by omega) (fun _ he hl9 kk => th_put (ci := 11) (v := .int (I 1)) (ty := .boolean) (C := RX11) (T := TX11) (N := 66) hx hb hts inX11 tyX11 tyX11_ok nmX11 hown hK hH hS h00 he rfl 38 (by decide) fl3 rfl (by decide +kernel) (nar_z (by omega)) rfl hl9 dX11_years_49 kk) (fun σ_s_51 H locs hO hF9 hM9 hg9 ha9 hH hS => ?_)
      replace hM := hM.tu hM9 (by decide)
      replace hF := hF.tu hF9 (by decide)
      have e_52 : aF σ_s_51 (ad E a 1) = f1 := (hM9.a (by decide) (by decide)).trans e_31
      have e_53 : aF σ_s_51 (ad E a 37) = f37 := (hM9.a (by decide) (by decide)).trans e_32
      have e_54 : aF σ_s_51 (ad E a 61) = f61 := (hM9.a (by decide) (by decide)).trans e_33
      have e_55 : aF σ_s_51 (ad E a 62) = f62 := (hM9.a (by decide) (by decide)).trans e_34
      have e_56 : aF σ_s_51 (ad E a 39) = f39 := (hM9.a (by decide) (by decide)).trans e_35
      have e_57 : aF σ_s_51 (ad E a 40) = f40 := (hM9.a (by decide) (by decide)).trans e_36
      have e_58 : aF σ_s_51 (ad E a 42) = f42 := (hM9.a (by decide) (by decide)).trans e_37
      have e_59 : aF σ_s_51 (ad E a 43) = f43 := (hM9.a (by decide) (by decide)).trans e_38
      have e_60 : aF σ_s_51 (ad E a 44) = f44 := (hM9.a (by decide) (by decide)).trans e_39
      have e_61 : aF σ_s_51 (ad E a 45) = f45 := (hM9.a (by decide) (by decide)).trans e_40
      have e_62 : aF σ_s_51 (ad E a 46) = f46 := (hM9.a (by decide) (by decide)).trans e_41
      have e_63 : aF σ_s_51 (ad E a 2) = f2 := (hM9.a (by decide) (by decide)).trans e_42
      have e_64 : aF σ_s_51 (ad E a 8) = f8 := (hM9.a (by decide) (by decide)).trans e_43
      have e_65 : gI σ_s_51 a 36 = a360 := (hM9.i (by decide)).trans e_44
      have e_66 : gI σ_s_51 a 58 = a580 := (hM9.i (by decide)).trans e_45
      have e_67 : gI σ_s_51 a 59 = a590 := (hM9.i (by decide)).trans e_46
      have e_68 : gI σ_s_51 a 12 = a120 := (hM9.i (by decide)).trans e_47
      have e_69 : gI σ_s_51 a 0 = 0 := (hM9.i (by decide)).trans e_48
      have e_70 : aF σ_s_51 (ad E a 57) = g_49 := (hM9.a (by decide) (by decide)).trans ef_50
      have e_71 := hg9
      refine lv_aload_n hx hb dX11_years_52 rfl (lv_at hl 0 rfl) ?_
      refine lv_iload_n hx hb dX11_years_53 rfl (lv_at hl 1 rfl) ?_
      refine ok.putJ hO h_a k13_56 rsd (by omega) (by omega) (fun _ he hl9 kk => th_put (ci := 11) (v := .int (I sd)) (ty := .int) (C := RX11) (T := TX11) (N := 66) hx hb hts inX11 tyX11 tyX11_ok nmX11 hown hK hH hS h00 he rfl 56 (by decide) fl4 rfl (by decide +kernel) rfl rfl hl9 dX11_years_54 kk) (fun σ_s_72 H locs hO hF9 hM9 hg9 ha9 hH hS => ?_)
      replace hM := hM.tu hM9 (by decide)
      replace hF := hF.tu hF9 (by decide)
      have e_73 : aF σ_s_72 (ad E a 1) = f1 := (hM9.a (by decide) (by decide)).trans e_52
      have e_74 : aF σ_s_72 (ad E a 37) = f37 := (hM9.a (by decide) (by decide)).trans e_53
      have e_75 : aF σ_s_72 (ad E a 61) = f61 := (hM9.a (by decide) (by decide)).trans e_54
      have e_76 : aF σ_s_72 (ad E a 62) = f62 := (hM9.a (by decide) (by decide)).trans e_55
      have e_77 : aF σ_s_72 (ad E a 39) = f39 := (hM9.a (by decide) (by decide)).trans e_56
      have e_78 : aF σ_s_72 (ad E a 40) = f40 := (hM9.a (by decide) (by decide)).trans e_57
      have e_79 : aF σ_s_72 (ad E a 42) = f42 := (hM9.a (by decide) (by decide)).trans e_58
      have e_80 : aF σ_s_72 (ad E a 43) = f43 := (hM9.a (by decide) (by decide)).trans e_59
      have e_81 : aF σ_s_72 (ad E a 44) = f44 := (hM9.a (by decide) (by decide)).trans e_60
      have e_82 : aF σ_s_72 (ad E a 45) = f45 := (hM9.a (by decide) (by decide)).trans e_61
      have e_83 : aF σ_s_72 (ad E a 46) = f46 := (hM9.a (by decide) (by decide)).trans e_62
      have e_84 : aF σ_s_72 (ad E a 2) = f2 := (hM9.a (by decide) (by decide)).trans e_63
      have e_85 : aF σ_s_72 (ad E a 8) = f8 := (hM9.a (by decide) (by decide)).trans e_64
      have e_86 : gI σ_s_72 a 36 = a360 := (hM9.i (by decide)).trans e_65
      have e_87 : gI σ_s_72 a 58 = a580 := (hM9.i (by decide)).trans e_66
      have e_88 : gI σ_s_72 a 59 = a590 := (hM9.i (by decide)).trans e_67
      have e_89 : gI σ_s_72 a 12 = a120 := (hM9.i (by decide)).trans e_68
      have e_90 : gI σ_s_72 a 0 = 0 := (hM9.i (by decide)).trans e_69
      have e_91 : aF σ_s_72 (ad E a 57) = g_49 := (hM9.a (by decide) (by decide)).trans e_70
      have e_92 : gI σ_s_72 a 38 = 1 := (hM9.i (by decide)).trans e_71
      have e_93 := hg9
      refine lv_iconst (v := I 0) hx hb dX11_years_57 (by decide) ?_
      refine lv_istore (lv' := [(4, .int (I 0)), (0, .ref a), (1, .int (I sd)), (2, .int (I nn)), (3, .int (I wh))]) hx hb dX11_years_58 hl (by decide) rfl (fun ls hl => ?_)
      refine lv_iconst (v := I 0) hx hb dX11_years_60 (by decide) ?_
      refine lv_istore (lv' := [(5, .int (I 0)), (4, .int (I 0)), (0, .ref a), (1, .int (I sd)), (2, .int (I nn)), (3, .int (I wh))]) hx hb dX11_years_61 hl (by decide) rfl (fun ls hl => ?_)
      replace hl : lv_has ls 6 [(5, .int (I 0)), (4, .int (I 0)), (0, .ref a), (2, .int (I nn)), (3, .int (I wh))] := lv_sub hl [0, 1, 2, 4, 5] rfl
      refine th_loop (α := Int × Int × (Nat → Int32) × (Nat → Int32)) (pc := 63) (fun x9 => (nn - x9.2.1).toNat) (fun x9 σ9 H9 l9 ls9 => ok y E σ9 ∧ fr [13] E σ σ9 ∧ fm [0, 1, 3, 5, 9, 10, 11, 13, 14, 15, 16, 17, 18, 19, 20, 23, 24, 25, 26, 27, 28, 29, 30, 31, 32, 34, 35, 36, 37, 38, 56, 57] E σ σ9 a ∧ th_H G b0 σ9 H9 ∧ va_S (th_A b0) s.heap H9 l9 ∧ lv_has ls9 6 [(0, .ref a), (2, .int (I nn)), (3, .int (I wh)), (4, .int (I x9.1)), (5, .int (I x9.2.1))] ∧ rng x9.1 ∧ rng x9.2.1 ∧ (0 ≤ x9.2.1) ∧ (x9.2.1 ≤ 20) ∧ (0 ≤ x9.1) ∧ (x9.1 ≤ x9.2.1) ∧ (tr x9.2.2.1) ∧ (trs x9.2.2.2 (gI σ9 a 36)) ∧ (gI σ9 a 58 = a580) ∧ (gI σ9 a 59 = a590) ∧ (gI σ9 a 12 = a120) ∧ (gI σ9 a 0 = 0) ∧ (gI σ9 a 38 = 1) ∧ (aF σ9 (ad E a 61) = f61) ∧ (aF σ9 (ad E a 62) = f62) ∧ (aF σ9 (ad E a 39) = f39) ∧ (aF σ9 (ad E a 40) = f40) ∧ (aF σ9 (ad E a 42) = f42) ∧ (aF σ9 (ad E a 43) = f43) ∧ (aF σ9 (ad E a 44) = f44) ∧ (aF σ9 (ad E a 45) = f45) ∧ (aF σ9 (ad E a 46) = f46) ∧ (aF σ9 (ad E a 2) = f2) ∧ (aF σ9 (ad E a 8) = f8) ∧ (aF σ9 (ad E a 57) = g_49) ∧ (aF σ9 (ad E a 1) = x9.2.2.1) ∧ (aF σ9 (ad E a 37) = x9.2.2.2)) ?_ (0, 0, f1, f37) σ_s_72 _ _ _ ⟨hO, hF, hM, hH, hS, lv_sub hl [2, 3, 4, 1, 0] rfl, (show rng 0 from ⟨by decide, by decide⟩), (show rng 0 from ⟨by decide, by decide⟩), by first | (dsimp only; omega) | omega, by first | (dsimp only; omega) | omega, by first | (dsimp only; omega) | omega, by first | (dsimp only; omega) | omega, hj.1, (hj.2.1.le (by omega)), e_87, e_88, e_89, e_90, e_92, e_75, e_76, e_77, e_78, e_79, e_80, e_81, e_82, e_83, e_84, e_85, e_91, e_73, e_74⟩
      intro x9 σ_J_165 H locs ls hI9 ihJ_165
      obtain ⟨v4q164, v5q164, F1q162, F37q163⟩ := x9
      obtain ⟨hO, hF, hM, hH, hS, hl, rv4q164, rv5q164, J_165_0, J_165_1, J_165_2, J_165_3, J_165_4, J_165_5, J_165_6, J_165_7, J_165_8, J_165_9, J_165_10, J_165_11, J_165_12, J_165_13, J_165_14, J_165_15, J_165_16, J_165_17, J_165_18, J_165_19, J_165_20, J_165_21, J_165_22, J_165_23, J_165_24⟩ := hI9
      have hl : lv_has ls 6 [(0, .ref a), (2, .int (I nn)), (3, .int (I wh)), (4, .int (I v4q164)), (5, .int (I v5q164))] := hl
      have rv4q164 : rng v4q164 := rv4q164
      have rv5q164 : rng v5q164 := rv5q164
      have J_165_0 : 0 ≤ v5q164 := J_165_0
      have J_165_1 : v5q164 ≤ 20 := J_165_1
      have J_165_2 : 0 ≤ v4q164 := J_165_2
      have J_165_3 : v4q164 ≤ v5q164 := J_165_3
      have J_165_4 : tr F1q162 := J_165_4
      have J_165_5 : trs F37q163 (gI σ_J_165 a 36) := J_165_5
      have J_165_6 : gI σ_J_165 a 58 = a580 := J_165_6
      have J_165_7 : gI σ_J_165 a 59 = a590 := J_165_7
      have J_165_8 : gI σ_J_165 a 12 = a120 := J_165_8
      have J_165_9 : gI σ_J_165 a 0 = 0 := J_165_9
      have J_165_10 : gI σ_J_165 a 38 = 1 := J_165_10
      have J_165_11 : aF σ_J_165 (ad E a 61) = f61 := J_165_11
      have J_165_12 : aF σ_J_165 (ad E a 62) = f62 := J_165_12
      have J_165_13 : aF σ_J_165 (ad E a 39) = f39 := J_165_13
      have J_165_14 : aF σ_J_165 (ad E a 40) = f40 := J_165_14
      have J_165_15 : aF σ_J_165 (ad E a 42) = f42 := J_165_15
      have J_165_16 : aF σ_J_165 (ad E a 43) = f43 := J_165_16
      have J_165_17 : aF σ_J_165 (ad E a 44) = f44 := J_165_17
      have J_165_18 : aF σ_J_165 (ad E a 45) = f45 := J_165_18
      have J_165_19 : aF σ_J_165 (ad E a 46) = f46 := J_165_19
      have J_165_20 : aF σ_J_165 (ad E a 2) = f2 := J_165_20
      have J_165_21 : aF σ_J_165 (ad E a 8) = f8 := J_165_21
      have J_165_22 : aF σ_J_165 (ad E a 57) = g_49 := J_165_22
      have J_165_23 : aF σ_J_165 (ad E a 1) = F1q162 := J_165_23
      have J_165_24 : aF σ_J_165 (ad E a 37) = F37q163 := J_165_24
      refine lv_iload hx hb dX11_years_63 (lv_at hl 4 rfl) ?_
      refine lv_iload_n hx hb dX11_years_65 rfl (lv_at hl 1 rfl) ?_
      refine lv_icmp_ge (tgt := 92) hx hb dX11_years_66 (by decide) (fun c_166 => ?_) (fun c_166 => ?_)
      · replace c_166 := (I_le (a := nn) (b := v5q164) rnn rv5q164).mp c_166
        have hy8 := (J_165_4).1.1
        have hy7 := (J_165_4).2
        refine lv_aload_n hx hb dX11_years_92 rfl (lv_at hl 0 rfl) ?_
        refine lv_iconst (v := I 0) hx hb dX11_years_93 (by decide) ?_
        obtain ⟨z_167, e_168, rz_167, lz_167, uz_167⟩ := hO.gi h_a (by decide) k13_36
        refine ok.putJ hO h_a k13_38 (show rng 0 from ⟨by decide, by decide⟩) (by omega) (by omega) (fun _ he hl9 kk => th_put (ci := 11) (v := .int (I 0)) (ty := .boolean) (C := RX11) (T := TX11) (N := 66) hx hb hts inX11 tyX11 tyX11_ok nmX11 hown hK hH hS h00 he rfl 38 (by decide) fl3 rfl (by decide +kernel) (nar_z (by omega)) rfl hl9 dX11_years_94 kk) (fun σ_s_169 H locs hO hF9 hM9 hg9 ha9 hH hS => ?_)
        replace hM := hM.tu hM9 (by decide)
        replace hF := hF.tu hF9 (by decide)
        have e_170 : gI σ_s_169 a 58 = a580 := (hM9.i (by decide)).trans J_165_6
        have e_171 : gI σ_s_169 a 59 = a590 := (hM9.i (by decide)).trans J_165_7
        have e_172 : gI σ_s_169 a 12 = a120 := (hM9.i (by decide)).trans J_165_8
        have e_173 : gI σ_s_169 a 0 = 0 := (hM9.i (by decide)).trans J_165_9
        have e_174 : aF σ_s_169 (ad E a 61) = f61 := (hM9.a (by decide) (by decide)).trans J_165_11
        have e_175 : aF σ_s_169 (ad E a 62) = f62 := (hM9.a (by decide) (by decide)).trans J_165_12
        have e_176 : aF σ_s_169 (ad E a 39) = f39 := (hM9.a (by decide) (by decide)).trans J_165_13
        have e_177 : aF σ_s_169 (ad E a 40) = f40 := (hM9.a (by decide) (by decide)).trans J_165_14
        have e_178 : aF σ_s_169 (ad E a 42) = f42 := (hM9.a (by decide) (by decide)).trans J_165_15
        have e_179 : aF σ_s_169 (ad E a 43) = f43 := (hM9.a (by decide) (by decide)).trans J_165_16
        have e_180 : aF σ_s_169 (ad E a 44) = f44 := (hM9.a (by decide) (by decide)).trans J_165_17
        have e_181 : aF σ_s_169 (ad E a 45) = f45 := (hM9.a (by decide) (by decide)).trans J_165_18
        have e_182 : aF σ_s_169 (ad E a 46) = f46 := (hM9.a (by decide) (by decide)).trans J_165_19
        have e_183 : aF σ_s_169 (ad E a 2) = f2 := (hM9.a (by decide) (by decide)).trans J_165_20
        have e_184 : aF σ_s_169 (ad E a 8) = f8 := (hM9.a (by decide) (by decide)).trans J_165_21
        have e_185 : aF σ_s_169 (ad E a 57) = g_49 := (hM9.a (by decide) (by decide)).trans J_165_22
        have e_186 : aF σ_s_169 (ad E a 1) = F1q162 := (hM9.a (by decide) (by decide)).trans J_165_23
        have e_187 : aF σ_s_169 (ad E a 37) = F37q163 := (hM9.a (by decide) (by decide)).trans J_165_24
        have e_188 : gI σ_s_169 a 36 = z_167 := (hM9.i (by decide)).trans e_168
        have e_189 := hg9
        refine lv_iload_n hx hb dX11_years_97 rfl (lv_at hl 2 rfl) ?_
        refine th_join (α := Int) (J := 122) (stk := fun x9 => [.int (I x9)]) (fun x9 σ9 H9 l9 ls9 => σ9 = σ_s_169 ∧ th_H G b0 σ9 H9 ∧ va_S (th_A b0) s.heap H9 l9 ∧ lv_has ls9 6 [(0, .ref a)] ∧ rng x9) ?_ (fun jK_201 => ?_)
        · intro x9 σ_K_201 H locs ls hI9
          obtain ⟨w0q200, ex9⟩ : ∃ z, z = x9 := ⟨_, rfl⟩
          subst ex9
          obtain ⟨eK_201, hH, hS, hl, rw0q200⟩ := hI9
          replace eK_201 := eK_201.symm
          subst eK_201
          have hl : lv_has ls 6 [(0, .ref a)] := hl
          have rw0q200 : rng w0q200 := rw0q200
          refine lv_istore (lv' := [(5, .int (I w0q200)), (0, .ref a)]) hx hb dX11_years_122 hl (by decide) rfl (fun ls hl => ?_)
          refine lv_aload_n hx hb dX11_years_124 rfl (lv_at hl 1 rfl) ?_
          refine ok.getR hO h_a (by decide) k13_1 (by decide) (fun _ _ he hv kk => th_get (ci := 11) (C := RX11) (T := TX11) (N := 66) hx hb hts inX11 hown hK hH he rfl 1 (by decide) fl2 hv dX11_years_125 kk) ?_
          refine lv_aload_n hx hb dX11_years_128 rfl (lv_at hl 1 rfl) ?_
          refine ok.getR hO h_a (by decide) k13_57 (by decide) (fun _ _ he hv kk => th_get (ci := 11) (C := RX11) (T := TX11) (N := 66) hx hb hts inX11 hown hK hH he rfl 57 (by decide) fl1 hv dX11_years_129 kk) ?_
          refine th_callv (va_runS (As := [.ref (ad E a 1), .ref (ad E a 57)]) (rest := []) ⟨hx, hb, hml, hown, hts⟩ (w_copy1_57 l G y b0 σ_s_169 E hO a h_a F1q162 e_186 g_49 e_185) (va_cwS 2 hts gX11_years_X11_copyTo rfl rfl rfl (by decide +kernel) ⟨Nat.le_of_ble_eq_true rfl, Nat.le_of_ble_eq_true rfl⟩) (th_PS hK hH) rfl rfl hl.1 rfl (lv_room (Nat.le_of_ble_eq_true rfl)) dX11_years_132 ⟨Nat.le_of_ble_eq_true rfl, Nat.le_of_ble_eq_true rfl⟩) hS (fun σ_s_203 H locs hw_202 hH hS => ?_)
          obtain ⟨hO9, hF9, hM9, hw_202⟩ := hw_202
          replace hM := hM.tu hM9 (by decide)
          replace hF := hF.tu hF9 (by decide)
          have e_204 : gI σ_s_203 a 58 = a580 := (hM9.i (by decide)).trans e_170
          have e_205 : gI σ_s_203 a 59 = a590 := (hM9.i (by decide)).trans e_171
          have e_206 : gI σ_s_203 a 12 = a120 := (hM9.i (by decide)).trans e_172
          have e_207 : gI σ_s_203 a 0 = 0 := (hM9.i (by decide)).trans e_173
          have e_208 : aF σ_s_203 (ad E a 61) = f61 := (hM9.a (by decide) (by decide)).trans e_174
          have e_209 : aF σ_s_203 (ad E a 62) = f62 := (hM9.a (by decide) (by decide)).trans e_175
          have e_210 : aF σ_s_203 (ad E a 39) = f39 := (hM9.a (by decide) (by decide)).trans e_176
          have e_211 : aF σ_s_203 (ad E a 40) = f40 := (hM9.a (by decide) (by decide)).trans e_177
          have e_212 : aF σ_s_203 (ad E a 42) = f42 := (hM9.a (by decide) (by decide)).trans e_178
          have e_213 : aF σ_s_203 (ad E a 43) = f43 := (hM9.a (by decide) (by decide)).trans e_179
          have e_214 : aF σ_s_203 (ad E a 44) = f44 := (hM9.a (by decide) (by decide)).trans e_180
          have e_215 : aF σ_s_203 (ad E a 45) = f45 := (hM9.a (by decide) (by decide)).trans e_181
          have e_216 : aF σ_s_203 (ad E a 46) = f46 := (hM9.a (by decide) (by decide)).trans e_182
          have e_217 : aF σ_s_203 (ad E a 2) = f2 := (hM9.a (by decide) (by decide)).trans e_183
          have e_218 : aF σ_s_203 (ad E a 8) = f8 := (hM9.a (by decide) (by decide)).trans e_184
          have e_219 : aF σ_s_203 (ad E a 57) = g_49 := (hM9.a (by decide) (by decide)).trans e_185
          have e_220 : aF σ_s_203 (ad E a 37) = F37q163 := (hM9.a (by decide) (by decide)).trans e_187
          have e_221 : gI σ_s_203 a 36 = z_167 := (hM9.i (by decide)).trans e_188
          have e_222 : gI σ_s_203 a 38 = 0 := (hM9.i (by decide)).trans e_189
          replace hO := hO9
          generalize ef_224 : aF σ_s_203 (ad E a 1) = g_223 at hw_202
          have hw_202 : cel 240 g_49 g_223 := hw_202
          refine lv_iload hx hb dX11_years_135 (lv_at hl 0 rfl) ?_
          exact th_iret hx hb hr hlocks hH hS (z := w0q200) rw0q200 ⟨hO, hF, hM, by rw [show aF σ_s_203 (ad E a 1) = g_223 from ef_224, show aF σ_s_203 (ad E a 37) = F37q163 from e_220, show aF σ_s_203 (ad E a 61) = f61 from e_208, show aF σ_s_203 (ad E a 62) = f62 from e_209, show aF σ_s_203 (ad E a 39) = f39 from e_210, show aF σ_s_203 (ad E a 40) = f40 from e_211, show aF σ_s_203 (ad E a 42) = f42 from e_212, show aF σ_s_203 (ad E a 43) = f43 from e_213, show aF σ_s_203 (ad E a 44) = f44 from e_214, show aF σ_s_203 (ad E a 45) = f45 from e_215, show aF σ_s_203 (ad E a 46) = f46 from e_216]; exact ⟨hj.tree (hj.1.ext (same.of (fun x hx => (hw_202 x hx).trans (hw_29 x hx)))) (J_165_5.le (by omega)) (by omega) (by omega), by omega⟩⟩ dX11_years_137
        · refine lv_if_ne (tgt := 108) hx hb dX11_years_98 (by decide) (fun c_225 => ?_) (fun c_225 => ?_)
          · replace c_225 := mt (I_eq (a := wh) (b := 0) rwh (show rng 0 from ⟨by decide, by decide⟩)).mpr c_225
            refine lv_iload_n hx hb dX11_years_108 rfl (lv_at hl 2 rfl) ?_
            refine lv_iconst (v := I 1) hx hb dX11_years_109 (by decide) ?_
            refine lv_icmp_ne (tgt := 120) hx hb dX11_years_110 (by decide) (fun c_226 => ?_) (fun c_226 => ?_)
            · replace c_226 := mt (I_eq (a := wh) (b := 1) rwh (show rng 1 from ⟨by decide, by decide⟩)).mpr c_226
              refine lv_iload hx hb dX11_years_120 (lv_at hl 3 rfl) ?_
              replace hl : lv_has ls 6 [(0, .ref a)] := lv_sub hl [0] rfl
              exact jK_201 (v4q164) σ_s_169 _ _ _ ⟨rfl, hH, hS, lv_sub hl [0] rfl, rv4q164⟩
            · replace c_226 := (I_eq (a := wh) (b := 1) rwh (show rng 1 from ⟨by decide, by decide⟩)).mp c_226
              refine lv_aload_n hx hb dX11_years_113 rfl (lv_at hl 0 rfl) ?_
              obtain ⟨_, hc_227⟩ := hO.cell h_a (by decide) (ci := 11) rfl
              refine th_calli (va_runV (As := []) (rest := []) ⟨hx, hb, hml, hown, hts⟩ (m_sum l G y b0 σ_s_169 E hO a h_a F1q162 e_186 (hy8) (by omega)) (cwV 0 hts gX11_years_X11_sum rfl rfl rfl (by decide +kernel) ⟨Nat.le_of_ble_eq_true rfl, Nat.le_of_ble_eq_true rfl⟩) (th_PV hK hH rfl hc_227) rfl rfl hl.1 rfl (lv_room (Nat.le_of_ble_eq_true rfl)) dX11_years_114 ⟨Nat.le_of_ble_eq_true rfl, Nat.le_of_ble_eq_true rfl⟩) hS (fun z_230 σ_s_229 H locs rz_230 hw_228 hH hS => ?_)
              obtain ⟨e9, hw_228⟩ := hw_228
              replace e9 := e9.symm
              subst e9
              refine lv_goto (tgt := 122) hx hb dX11_years_117 (by decide) ?_
              replace hl : lv_has ls 6 [(0, .ref a)] := lv_sub hl [0] rfl
              exact jK_201 (z_230) σ_s_169 _ _ _ ⟨rfl, hH, hS, lv_sub hl [0] rfl, rz_230⟩
          · replace c_225 := (I_eq (a := wh) (b := 0) rwh (show rng 0 from ⟨by decide, by decide⟩)).mp c_225
            refine lv_aload_n hx hb dX11_years_101 rfl (lv_at hl 0 rfl) ?_
            obtain ⟨_, hc_231⟩ := hO.cell h_a (by decide) (ci := 11) rfl
            refine th_calli (va_runV (As := []) (rest := []) ⟨hx, hb, hml, hown, hts⟩ (m_things l G y b0 σ_s_169 E hO a h_a F1q162 e_186) (cwV 0 hts gX11_years_X11_things rfl rfl rfl (by decide +kernel) ⟨Nat.le_of_ble_eq_true rfl, Nat.le_of_ble_eq_true rfl⟩) (th_PV hK hH rfl hc_231) rfl rfl hl.1 rfl (lv_room (Nat.le_of_ble_eq_true rfl)) dX11_years_102 ⟨Nat.le_of_ble_eq_true rfl, Nat.le_of_ble_eq_true rfl⟩) hS (fun z_234 σ_s_233 H locs rz_234 hw_232 hH hS => ?_)
            obtain ⟨e9, hw_232⟩ := hw_232
            replace e9 := e9.symm
            subst e9
            have hw_232 : z_234 = mS F1q162 0 := hw_232
            refine lv_goto (tgt := 122) hx hb dX11_years_105 (by decide) ?_
            replace hl : lv_has ls 6 [(0, .ref a)] := lv_sub hl [0] rfl
            exact jK_201 (z_234) σ_s_169 _ _ _ ⟨rfl, hH, hS, lv_sub hl [0] rfl, rz_234⟩
      · replace c_166 := mt (I_le (a := nn) (b := v5q164) rnn rv5q164).mpr c_166
        refine lv_iload hx hb dX11_years_69 (lv_at hl 3 rfl) ?_
        have hyt := J_165_4
        have hy8 := (J_165_4).1.1
        have hy7 := (J_165_4).2
        refine lv_aload_n hx hb dX11_years_71 rfl (lv_at hl 0 rfl) ?_
        obtain ⟨_, hc_235⟩ := hO.cell h_a (by decide) (ci := 11) rfl
        refine th_calli (va_runV (As := []) (rest := [.int (I v4q164)]) ⟨hx, hb, hml, hown, hts⟩ (m_happens l G y b0 σ_J_165 E hO a h_a F1q162 J_165_23 f2 J_165_20 f8 J_165_21 F37q163 J_165_24 (hy8) (by omega) (hyt) ((J_165_5.le (by omega)))) (cwV 0 hts gX11_years_X11_happens rfl rfl rfl (by decide +kernel) ⟨Nat.le_of_ble_eq_true rfl, Nat.le_of_ble_eq_true rfl⟩) (th_PV hK hH rfl hc_235) rfl rfl hl.1 rfl (lv_room (Nat.le_of_ble_eq_true rfl)) dX11_years_72 ⟨Nat.le_of_ble_eq_true rfl, Nat.le_of_ble_eq_true rfl⟩) hS (fun z_238 σ_s_237 H locs rz_238 hw_236 hH hS => ?_)
        obtain ⟨hO9, hF9, hM9, bhw_236, hw_236⟩ := hw_236
        replace hM := hM.tu hM9 (by decide)
        replace hF := hF.tu hF9 (by decide)
        have e_239 : gI σ_s_237 a 58 = a580 := (hM9.i (by decide)).trans J_165_6
        have e_240 : gI σ_s_237 a 59 = a590 := (hM9.i (by decide)).trans J_165_7
        have e_241 : gI σ_s_237 a 12 = a120 := (hM9.i (by decide)).trans J_165_8
        have e_242 : gI σ_s_237 a 0 = 0 := (hM9.i (by decide)).trans J_165_9
        have e_243 : gI σ_s_237 a 38 = 1 := (hM9.i (by decide)).trans J_165_10
        have e_244 : aF σ_s_237 (ad E a 61) = f61 := (hM9.a (by decide) (by decide)).trans J_165_11
        have e_245 : aF σ_s_237 (ad E a 62) = f62 := (hM9.a (by decide) (by decide)).trans J_165_12
        have e_246 : aF σ_s_237 (ad E a 39) = f39 := (hM9.a (by decide) (by decide)).trans J_165_13
        have e_247 : aF σ_s_237 (ad E a 40) = f40 := (hM9.a (by decide) (by decide)).trans J_165_14
        have e_248 : aF σ_s_237 (ad E a 42) = f42 := (hM9.a (by decide) (by decide)).trans J_165_15
        have e_249 : aF σ_s_237 (ad E a 43) = f43 := (hM9.a (by decide) (by decide)).trans J_165_16
        have e_250 : aF σ_s_237 (ad E a 44) = f44 := (hM9.a (by decide) (by decide)).trans J_165_17
        have e_251 : aF σ_s_237 (ad E a 45) = f45 := (hM9.a (by decide) (by decide)).trans J_165_18
        have e_252 : aF σ_s_237 (ad E a 46) = f46 := (hM9.a (by decide) (by decide)).trans J_165_19
        have e_253 : aF σ_s_237 (ad E a 2) = f2 := (hM9.a (by decide) (by decide)).trans J_165_20
        have e_254 : aF σ_s_237 (ad E a 8) = f8 := (hM9.a (by decide) (by decide)).trans J_165_21
        have e_255 : aF σ_s_237 (ad E a 57) = g_49 := (hM9.a (by decide) (by decide)).trans J_165_22
        replace hO := hO9
        generalize ef_257 : aF σ_s_237 (ad E a 1) = g_256 at hw_236
        generalize ef_259 : aF σ_s_237 (ad E a 37) = g_258 at hw_236
        have hw_236 : tr g_256 ∧ trs g_258 (gI σ_s_237 a 36) := hw_236
        refine lv_if_eq (tgt := 82) hx hb dX11_years_75 (by decide) (fun c_260 => ?_) (fun c_260 => ?_)
        · replace c_260 := (I_eq (a := z_238) (b := 0) rz_238 (show rng 0 from ⟨by decide, by decide⟩)).mp c_260
          refine lv_iconst (v := I 0) hx hb dX11_years_82 (by decide) ?_
          refine lv_iadd hx hb dX11_years_83 ?_
          refine th_addo (fun z_261 rz_261 hz_261 => ?_)
          refine lv_istore (lv' := [(4, .int (I z_261)), (0, .ref a), (2, .int (I nn)), (3, .int (I wh)), (5, .int (I v5q164))]) hx hb dX11_years_84 hl (by decide) rfl (fun ls hl => ?_)
          refine lv_iinc (v := I (v5q164 + 1)) (lv' := [(5, .int (I (v5q164 + 1))), (4, .int (I z_261)), (0, .ref a), (2, .int (I nn)), (3, .int (I wh))]) hx hb dX11_years_86 hl (k := 4) rfl (I_add _ _) (by decide) rfl (fun ls hl => ?_)
          refine lv_goto (tgt := 63) hx hb dX11_years_89 (by decide) ?_
          exact ihJ_165 (z_261, v5q164 + 1, g_256, g_258) σ_s_237 _ _ _ (by first | (dsimp only; omega) | omega) ⟨hO, hF, hM, hH, hS, lv_sub hl [2, 3, 4, 1, 0] rfl, rz_261, ⟨by first | (dsimp only; omega) | omega, by first | (dsimp only; omega) | omega⟩, by first | (dsimp only; omega) | omega, by first | (dsimp only; omega) | omega, by first | (dsimp only; omega) | omega, by first | (dsimp only; omega) | omega, hw_236.1, hw_236.2, e_239, e_240, e_241, e_242, e_243, e_244, e_245, e_246, e_247, e_248, e_249, e_250, e_251, e_252, e_253, e_254, e_255, ef_257, ef_259⟩
        · replace c_260 := mt (I_eq (a := z_238) (b := 0) rz_238 (show rng 0 from ⟨by decide, by decide⟩)).mpr c_260
          refine lv_iconst (v := I 1) hx hb dX11_years_78 (by decide) ?_
          refine lv_goto (tgt := 83) hx hb dX11_years_79 (by decide) ?_
          refine lv_iadd hx hb dX11_years_83 ?_
          refine th_addo (fun z_262 rz_262 hz_262 => ?_)
          refine lv_istore (lv' := [(4, .int (I z_262)), (0, .ref a), (2, .int (I nn)), (3, .int (I wh)), (5, .int (I v5q164))]) hx hb dX11_years_84 hl (by decide) rfl (fun ls hl => ?_)
          refine lv_iinc (v := I (v5q164 + 1)) (lv' := [(5, .int (I (v5q164 + 1))), (4, .int (I z_262)), (0, .ref a), (2, .int (I nn)), (3, .int (I wh))]) hx hb dX11_years_86 hl (k := 4) rfl (I_add _ _) (by decide) rfl (fun ls hl => ?_)
          refine lv_goto (tgt := 63) hx hb dX11_years_89 (by decide) ?_
          exact ihJ_165 (z_262, v5q164 + 1, g_256, g_258) σ_s_237 _ _ _ (by first | (dsimp only; omega) | omega) ⟨hO, hF, hM, hH, hS, lv_sub hl [2, 3, 4, 1, 0] rfl, rz_262, ⟨by first | (dsimp only; omega) | omega, by first | (dsimp only; omega) | omega⟩, by first | (dsimp only; omega) | omega, by first | (dsimp only; omega) | omega, by first | (dsimp only; omega) | omega, by first | (dsimp only; omega) | omega, hw_236.1, hw_236.2, e_239, e_240, e_241, e_242, e_243, e_244, e_245, e_246, e_247, e_248, e_249, e_250, e_251, e_252, e_253, e_254, e_255, ef_257, ef_259⟩
    · replace c_28 := (I_eq (a := z_27) (b := 0) rz_27 (show rng 0 from ⟨by decide, by decide⟩)).mp c_28
      refine lv_aload_n hx hb dX11_years_30 rfl (lv_at hl 0 rfl) ?_
      refine lv_iconst (v := I 2) hx hb dX11_years_31 (by decide) ?_
      obtain ⟨_, hc_263⟩ := hO.cell h_a (by decide) (ci := 11) rfl
      refine th_calli (va_runV (As := [.int (I 2)]) (rest := []) ⟨hx, hb, hml, hown, hts⟩ (m_fail l G y b0 σ_s_1 E hO a h_a 2 (show rng 2 from (show rng 2 from ⟨by decide, by decide⟩))) (cwV 1 hts gX11_years_X11_fail rfl rfl rfl (by decide +kernel) ⟨Nat.le_of_ble_eq_true rfl, Nat.le_of_ble_eq_true rfl⟩) (th_PV hK hH rfl hc_263) rfl rfl hl.1 rfl (lv_room (Nat.le_of_ble_eq_true rfl)) dX11_years_32 ⟨Nat.le_of_ble_eq_true rfl, Nat.le_of_ble_eq_true rfl⟩) hS (fun z_266 σ_s_265 H locs rz_266 hw_264 hH hS => ?_)
      obtain ⟨hO9, hF9, hM9, hw_264⟩ := hw_264
      replace hM := hM.tu hM9 (by decide)
      replace hF := hF.tu hF9 (by decide)
      have e_267 : aF σ_s_265 (ad E a 1) = f1 := (hM9.a (by decide) (by decide)).trans e_2
      have e_268 : aF σ_s_265 (ad E a 37) = f37 := (hM9.a (by decide) (by decide)).trans e_3
      have e_269 : aF σ_s_265 (ad E a 61) = f61 := (hM9.a (by decide) (by decide)).trans e_4
      have e_270 : aF σ_s_265 (ad E a 62) = f62 := (hM9.a (by decide) (by decide)).trans e_5
      have e_271 : aF σ_s_265 (ad E a 39) = f39 := (hM9.a (by decide) (by decide)).trans e_6
      have e_272 : aF σ_s_265 (ad E a 40) = f40 := (hM9.a (by decide) (by decide)).trans e_7
      have e_273 : aF σ_s_265 (ad E a 42) = f42 := (hM9.a (by decide) (by decide)).trans e_8
      have e_274 : aF σ_s_265 (ad E a 43) = f43 := (hM9.a (by decide) (by decide)).trans e_9
      have e_275 : aF σ_s_265 (ad E a 44) = f44 := (hM9.a (by decide) (by decide)).trans e_10
      have e_276 : aF σ_s_265 (ad E a 45) = f45 := (hM9.a (by decide) (by decide)).trans e_11
      have e_277 : aF σ_s_265 (ad E a 46) = f46 := (hM9.a (by decide) (by decide)).trans e_12
      have e_278 : aF σ_s_265 (ad E a 2) = f2 := (hM9.a (by decide) (by decide)).trans e_13
      have e_279 : aF σ_s_265 (ad E a 8) = f8 := (hM9.a (by decide) (by decide)).trans e_14
      have e_280 : aF σ_s_265 (ad E a 57) = f57 := (hM9.a (by decide) (by decide)).trans e_15
      have e_281 : gI σ_s_265 a 36 = a360 := (hM9.i (by decide)).trans e_16
      have e_282 : gI σ_s_265 a 58 = a580 := (hM9.i (by decide)).trans e_17
      have e_283 : gI σ_s_265 a 59 = a590 := (hM9.i (by decide)).trans e_18
      have e_284 : gI σ_s_265 a 12 = a120 := (hM9.i (by decide)).trans e_19
      replace hO := hO9
      exact th_iret hx hb hr hlocks hH hS (z := z_266) rz_266 ⟨hO, hF, hM, by rw [show aF σ_s_265 (ad E a 1) = f1 from e_267, show aF σ_s_265 (ad E a 37) = f37 from e_268, show aF σ_s_265 (ad E a 61) = f61 from e_269, show aF σ_s_265 (ad E a 62) = f62 from e_270, show aF σ_s_265 (ad E a 39) = f39 from e_271, show aF σ_s_265 (ad E a 40) = f40 from e_272, show aF σ_s_265 (ad E a 42) = f42 from e_273, show aF σ_s_265 (ad E a 43) = f43 from e_274, show aF σ_s_265 (ad E a 44) = f44 from e_275, show aF σ_s_265 (ad E a 45) = f45 from e_276, show aF σ_s_265 (ad E a 46) = f46 from e_277]; exact ⟨hj.n (by omega) (by omega) (by omega), by omega⟩⟩ dX11_years_35
  · replace c_24 := (I_eq (a := z_23) (b := 0) rz_23 (show rng 0 from ⟨by decide, by decide⟩)).mp c_24
    refine lv_aload_n hx hb dX11_years_14 rfl (lv_at hl 0 rfl) ?_
    refine lv_iconst (v := I 1) hx hb dX11_years_15 (by decide) ?_
    obtain ⟨_, hc_285⟩ := hO.cell h_a (by decide) (ci := 11) rfl
    refine th_calli (va_runV (As := [.int (I 1)]) (rest := []) ⟨hx, hb, hml, hown, hts⟩ (m_fail l G y b0 σ_s_1 E hO a h_a 1 (show rng 1 from (show rng 1 from ⟨by decide, by decide⟩))) (cwV 1 hts gX11_years_X11_fail rfl rfl rfl (by decide +kernel) ⟨Nat.le_of_ble_eq_true rfl, Nat.le_of_ble_eq_true rfl⟩) (th_PV hK hH rfl hc_285) rfl rfl hl.1 rfl (lv_room (Nat.le_of_ble_eq_true rfl)) dX11_years_16 ⟨Nat.le_of_ble_eq_true rfl, Nat.le_of_ble_eq_true rfl⟩) hS (fun z_288 σ_s_287 H locs rz_288 hw_286 hH hS => ?_)
    obtain ⟨hO9, hF9, hM9, hw_286⟩ := hw_286
    replace hM := hM.tu hM9 (by decide)
    replace hF := hF.tu hF9 (by decide)
    have e_289 : aF σ_s_287 (ad E a 1) = f1 := (hM9.a (by decide) (by decide)).trans e_2
    have e_290 : aF σ_s_287 (ad E a 37) = f37 := (hM9.a (by decide) (by decide)).trans e_3
    have e_291 : aF σ_s_287 (ad E a 61) = f61 := (hM9.a (by decide) (by decide)).trans e_4
    have e_292 : aF σ_s_287 (ad E a 62) = f62 := (hM9.a (by decide) (by decide)).trans e_5
    have e_293 : aF σ_s_287 (ad E a 39) = f39 := (hM9.a (by decide) (by decide)).trans e_6
    have e_294 : aF σ_s_287 (ad E a 40) = f40 := (hM9.a (by decide) (by decide)).trans e_7
    have e_295 : aF σ_s_287 (ad E a 42) = f42 := (hM9.a (by decide) (by decide)).trans e_8
    have e_296 : aF σ_s_287 (ad E a 43) = f43 := (hM9.a (by decide) (by decide)).trans e_9
    have e_297 : aF σ_s_287 (ad E a 44) = f44 := (hM9.a (by decide) (by decide)).trans e_10
    have e_298 : aF σ_s_287 (ad E a 45) = f45 := (hM9.a (by decide) (by decide)).trans e_11
    have e_299 : aF σ_s_287 (ad E a 46) = f46 := (hM9.a (by decide) (by decide)).trans e_12
    have e_300 : aF σ_s_287 (ad E a 2) = f2 := (hM9.a (by decide) (by decide)).trans e_13
    have e_301 : aF σ_s_287 (ad E a 8) = f8 := (hM9.a (by decide) (by decide)).trans e_14
    have e_302 : aF σ_s_287 (ad E a 57) = f57 := (hM9.a (by decide) (by decide)).trans e_15
    have e_303 : gI σ_s_287 a 36 = a360 := (hM9.i (by decide)).trans e_16
    have e_304 : gI σ_s_287 a 58 = a580 := (hM9.i (by decide)).trans e_17
    have e_305 : gI σ_s_287 a 59 = a590 := (hM9.i (by decide)).trans e_18
    have e_306 : gI σ_s_287 a 12 = a120 := (hM9.i (by decide)).trans e_19
    replace hO := hO9
    exact th_iret hx hb hr hlocks hH hS (z := z_288) rz_288 ⟨hO, hF, hM, by rw [show aF σ_s_287 (ad E a 1) = f1 from e_289, show aF σ_s_287 (ad E a 37) = f37 from e_290, show aF σ_s_287 (ad E a 61) = f61 from e_291, show aF σ_s_287 (ad E a 62) = f62 from e_292, show aF σ_s_287 (ad E a 39) = f39 from e_293, show aF σ_s_287 (ad E a 40) = f40 from e_294, show aF σ_s_287 (ad E a 42) = f42 from e_295, show aF σ_s_287 (ad E a 43) = f43 from e_296, show aF σ_s_287 (ad E a 44) = f44 from e_297, show aF σ_s_287 (ad E a 45) = f45 from e_298, show aF σ_s_287 (ad E a 46) = f46 from e_299]; exact ⟨hj.n (by omega) (by omega) (by omega), by omega⟩⟩ dX11_years_19
