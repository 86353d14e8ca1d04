set_option maxHeartbeats 1000000 in
set_option maxRecDepth 100000 in
theorem t21_graft (l : Launch) (G : va_G) (y : Nat → ClassId) (b0 : Nat) (σ : th_M) (E : th_E) (hO : ok y E σ) (a : Nat) (h_a : kd E a = 2) (x : Int) (rx : rng x) (l_x : -200 ≤ x) (u_x : x ≤ 400) (dp : Int) (rdp : rng dp) (ky : Int) (rky : rng ky) (b : Nat) (h_b : kd E b = 1) (f : Int) (rf : rng f) (l_f : -1 ≤ f) (u_f : f ≤ 200) : Met l yX9_graft wsX9_graft ({ frames := 2, cells := 0, slots := 0, locals := 88 }) (th_P G y b0 σ [.ref a, .int (I x), .int (I dp), .int (I ky), .ref b, .int (I f)]) (th_Qi G b0 (fun r σ1 => ok y E σ1 ∧ fr [2] E σ σ1 ∧ (0 ≤ r ∧ r ≤ 1) ∧ (True))) 0 0 (th_A b0) := by
  refine Met.ofW (cc := cX9_graft) (maxL := 9) (ret := (some .boolean)) (by decide) rfl ?_
  intro p e s m args below meth c s₁ B hml hv
  obtain ⟨rfl, hH, hK⟩ := hv
  have hx := B.exec
  have hb := B.bytes
  have hr := B.returns
  have hts := atoms_spec (ws := wsX9_graft) B.pre
  have hown : s.vm.findClass RX9 = some m.cls := findClass_of_methodNamed B.named
  have hlocks := B.notSynchronized
  have h00 : b0 ≤ s.heap.size := hH.1
  have hS : va_S (th_A b0) s.heap s.heap [] := va_S.rf
  have hF : fr [2] E σ σ := fr.rf
  have inX9 : ∀ w ∈ wsX90, w ∈ wsX9_graft := by decide +kernel
  have fl0 := hts (.fieldLink RX9 24 "NestQuery$Tree" "size" "I") (by decide +kernel)
  have fl1 := hts (.fieldLink RX9 9 "NestQuery$Tree" "kinds" "[I") (by decide +kernel)
  have fl2 := hts (.fieldLink RX9 18 "NestQuery$Tree" "keys" "[I") (by decide +kernel)
  have fl3 := hts (.fieldLink RX9 21 "NestQuery$Tree" "depths" "[I") (by decide +kernel)
  have hl := lv_entry ([.ref a, .int (I x), .int (I dp), .int (I ky), .ref b, .int (I f)]) (n := 9) (Nat.le_of_ble_eq_true rfl)
  rw [lg_entry_eq]
  generalize (lg_sl ([.ref a, .int (I x), .int (I dp), .int (I ky), .ref b, .int (I f)]) ++ List.replicate (9 - (lg_sl ([.ref a, .int (I x), .int (I dp), .int (I ky), .ref b, .int (I f)])).length) Slot.unset).toArray = ls at hl ⊢
  have hl : lv_has ls 9 [(0, .ref a), (1, .int (I x)), (2, .int (I dp)), (3, .int (I ky)), (4, .ref b), (5, .int (I f))] := hl
  refine lv_aload hx hb dX9_graft_0 (lv_at hl 4 rfl) ?_
  refine lv_iload hx hb dX9_graft_2 (lv_at hl 5 rfl) ?_
  obtain ⟨z_1, e_2, rz_1, lz_1, uz_1⟩ := hO.gi h_b (by decide) k1_4
  obtain ⟨_, hc_3⟩ := hO.cell h_b (by decide) (ci := 9) rfl
  refine th_calli (va_runV (As := [.int (I f)]) (rest := []) ⟨hx, hb, hml, hown, hts⟩ (t_end l G y b0 σ b (tvE E σ b 60) f (hO.isT1 h_b) (show rng f from rf)) (cwV 1 hts gX9_graft_X9_end rfl rfl rfl (by decide +kernel) ⟨Nat.le_of_ble_eq_true rfl, Nat.le_of_ble_eq_true rfl⟩) (th_PV hK hH rfl hc_3) rfl rfl hl.1 rfl (lv_room (Nat.le_of_ble_eq_true rfl)) dX9_graft_4 ⟨Nat.le_of_ble_eq_true rfl, Nat.le_of_ble_eq_true rfl⟩) hS (fun z_6 σ_s_5 H locs rz_6 hw_4 hH hS => ?_)
  obtain ⟨e9, hw_4⟩ := hw_4
  replace e9 := e9.symm
  subst e9
  have hw_4 : ((0 ≤ f ∧ f < (gI σ b 4)) ∧ f ≤ z_6 ∧ z_6 < (gI σ b 4)) ∨ (z_6 = -1 ∧ ¬ (0 ≤ f ∧ f < (gI σ b 4))) := hw_4
  refine lv_iload hx hb dX9_graft_7 (lv_at hl 5 rfl) ?_
  refine lv_isub hx hb dX9_graft_9 ?_
  refine nq_top (I_sub _ _) ?_
  refine lv_iconst (v := I 1) hx hb dX9_graft_10 (by decide) ?_
  refine lv_iadd hx hb dX9_graft_11 ?_
  refine nq_top (I_add _ _) ?_
  refine lv_istore (lv' := [(6, .int (I (z_6 - f + 1))), (0, .ref a), (1, .int (I x)), (2, .int (I dp)), (3, .int (I ky)), (4, .ref b), (5, .int (I f))]) hx hb dX9_graft_12 hl (by decide) rfl (fun ls hl => ?_)
  refine lv_aload hx hb dX9_graft_14 (lv_at hl 5 rfl) ?_
  refine lv_iload hx hb dX9_graft_16 (lv_at hl 6 rfl) ?_
  obtain ⟨_, hc_7⟩ := hO.cell h_b (by decide) (ci := 9) rfl
  refine th_calli (va_runV (As := [.int (I f)]) (rest := []) ⟨hx, hb, hml, hown, hts⟩ (t_has l G y b0 σ b (tvE E σ b 60) f (hO.isT1 h_b) (show rng f from rf)) (cwV 1 hts gX9_graft_X9_has rfl rfl rfl (by decide +kernel) ⟨Nat.le_of_ble_eq_true rfl, Nat.le_of_ble_eq_true rfl⟩) (th_PV hK hH rfl hc_7) rfl rfl hl.1 rfl (lv_room (Nat.le_of_ble_eq_true rfl)) dX9_graft_18 ⟨Nat.le_of_ble_eq_true rfl, Nat.le_of_ble_eq_true rfl⟩) hS (fun z_10 σ_s_9 H locs rz_10 hw_8 hH hS => ?_)
  obtain ⟨e9, hw_8⟩ := hw_8
  replace e9 := e9.symm
  subst e9
  have hw_8 : (z_10 = 1 ∧ 0 ≤ f ∧ f < (gI σ b 4)) ∨ (z_10 = 0 ∧ ¬ (0 ≤ f ∧ f < (gI σ b 4))) := hw_8
  refine lv_if_eq (tgt := 57) hx hb dX9_graft_21 (by decide) (fun c_11 => ?_) (fun c_11 => ?_)
  · replace c_11 := (I_eq (a := z_10) (b := 0) rz_10 (show rng 0 from ⟨by decide, by decide⟩)).mp c_11
    refine lv_iconst (v := I 0) hx hb dX9_graft_57 (by decide) ?_
    exact th_zret hx hb hr hlocks hH hS (z := 0) (by omega) ⟨hO, hF, ⟨by omega, by omega⟩, trivial⟩ dX9_graft_58
  · replace c_11 := mt (I_eq (a := z_10) (b := 0) rz_10 (show rng 0 from ⟨by decide, by decide⟩)).mpr c_11
    refine lv_iload hx hb dX9_graft_24 (lv_at hl 0 rfl) ?_
    refine lv_iconst (v := I 1) hx hb dX9_graft_26 (by decide) ?_
    refine lv_icmp_lt (tgt := 57) hx hb dX9_graft_27 (by decide) (fun c_12 => ?_) (fun c_12 => ?_)
    · replace c_12 := (I_lt (a := z_6 - f + 1) (b := 1) ⟨by omega, by omega⟩ (show rng 1 from ⟨by decide, by decide⟩)).mp c_12
      refine lv_iconst (v := I 0) hx hb dX9_graft_57 (by decide) ?_
      exact th_zret hx hb hr hlocks hH hS (z := 0) (by omega) ⟨hO, hF, ⟨by omega, by omega⟩, trivial⟩ dX9_graft_58
    · replace c_12 := mt (I_lt (a := z_6 - f + 1) (b := 1) ⟨by omega, by omega⟩ (show rng 1 from ⟨by decide, by decide⟩)).mpr c_12
      refine lv_iload_n hx hb dX9_graft_30 rfl (lv_at hl 2 rfl) ?_
      refine lv_if_lt (tgt := 57) hx hb dX9_graft_31 (by decide) (fun c_13 => ?_) (fun c_13 => ?_)
      · replace c_13 := (I_lt (a := x) (b := 0) rx (show rng 0 from ⟨by decide, by decide⟩)).mp c_13
        refine lv_iconst (v := I 0) hx hb dX9_graft_57 (by decide) ?_
        exact th_zret hx hb hr hlocks hH hS (z := 0) (by omega) ⟨hO, hF, ⟨by omega, by omega⟩, trivial⟩ dX9_graft_58
      · replace c_13 := mt (I_lt (a := x) (b := 0) rx (show rng 0 from ⟨by decide, by decide⟩)).mpr c_13
        refine lv_iload_n hx hb dX9_graft_34 rfl (lv_at hl 2 rfl) ?_
        refine lv_aload_n hx hb dX9_graft_35 rfl (lv_at hl 1 rfl) ?_
        refine ok.getI hO h_a (by decide) k2_4 (fun _ _ he hv kk => th_get (ci := 9) (C := RX9) (T := TX9) (N := 5) hx hb hts inX9 hown hK hH he rfl 4 (by decide) fl0 hv dX9_graft_36 kk) (fun z_14 e_15 rz_14 lz_14 uz_14 => ?_)
        refine lv_icmp_gt (tgt := 57) hx hb dX9_graft_39 (by decide) (fun c_16 => ?_) (fun c_16 => ?_)
        · replace c_16 := (I_lt (a := z_14) (b := x) rz_14 rx).mp c_16
          refine lv_iconst (v := I 0) hx hb dX9_graft_57 (by decide) ?_
          exact th_zret hx hb hr hlocks hH hS (z := 0) (by omega) ⟨hO, hF, ⟨by omega, by omega⟩, trivial⟩ dX9_graft_58
        · replace c_16 := mt (I_lt (a := z_14) (b := x) rz_14 rx).mpr c_16
          refine lv_aload_n hx hb dX9_graft_42 rfl (lv_at hl 1 rfl) ?_
          refine ok.getIc hO h_a (by decide) k2_4 e_15 (fun _ _ he hv kk => th_get (ci := 9) (C := RX9) (T := TX9) (N := 5) hx hb hts inX9 hown hK hH he rfl 4 (by decide) fl0 hv dX9_graft_43 kk) ?_
          refine lv_iload hx hb dX9_graft_46 (lv_at hl 0 rfl) ?_
          refine lv_iadd hx hb dX9_graft_48 ?_
          refine nq_top (I_add _ _) ?_
          refine lv_aload_n hx hb dX9_graft_49 rfl (lv_at hl 1 rfl) ?_
          refine ok.getR hO h_a (by decide) k2_0 (by decide) (fun _ _ he hv kk => th_get (ci := 9) (C := RX9) (T := TX9) (N := 5) hx hb hts inX9 hown hK hH he rfl 0 (by decide) fl1 hv dX9_graft_50 kk) ?_
          refine ok_alen hx hb hK hH hO h_a (by decide) k2_0 isA1 (by decide) dX9_graft_53 ?_
          refine lv_icmp_le (tgt := 59) hx hb dX9_graft_54 (by decide) (fun c_17 => ?_) (fun c_17 => ?_)
          · replace c_17 := (I_le (a := z_14 + (z_6 - f + 1)) (b := 128) ⟨by omega, by omega⟩ (show rng 128 from ⟨by decide, by decide⟩)).mp c_17
            refine lv_aload_n hx hb dX9_graft_59 rfl (lv_at hl 1 rfl) ?_
            refine lv_aload_n hx hb dX9_graft_60 rfl (lv_at hl 1 rfl) ?_
            refine lv_iload_n hx hb dX9_graft_61 rfl (lv_at hl 2 rfl) ?_
            refine lv_iload_n hx hb dX9_graft_62 rfl (lv_at hl 2 rfl) ?_
            refine lv_iload hx hb dX9_graft_63 (lv_at hl 0 rfl) ?_
            refine lv_iadd hx hb dX9_graft_65 ?_
            refine nq_top (I_add _ _) ?_
            refine lv_aload_n hx hb dX9_graft_66 rfl (lv_at hl 1 rfl) ?_
            refine ok.getIc hO h_a (by decide) k2_4 e_15 (fun _ _ he hv kk => th_get (ci := 9) (C := RX9) (T := TX9) (N := 5) hx hb hts inX9 hown hK hH he rfl 4 (by decide) fl0 hv dX9_graft_67 kk) ?_
            refine lv_iload_n hx hb dX9_graft_70 rfl (lv_at hl 2 rfl) ?_
            refine lv_isub hx hb dX9_graft_71 ?_
            refine nq_top (I_sub _ _) ?_
            obtain ⟨_, hc_18⟩ := hO.cell h_a (by decide) (ci := 9) rfl
            refine th_callv (va_runV (As := [.ref a, .int (I x), .int (I (x + (z_6 - f + 1))), .int (I (z_14 - x))]) (rest := []) ⟨hx, hb, hml, hown, hts⟩ (t22_copyFrom l G y b0 σ E hO a h_a a h_a x (show rng x from rx) (by omega) (by omega) (x + (z_6 - f + 1)) (show rng (x + (z_6 - f + 1)) from ⟨by omega, by omega⟩) (by omega) (by omega) (z_14 - x) (show rng (z_14 - x) from ⟨by omega, by omega⟩) (by omega) (by omega)) (cwV 4 hts gX9_graft_X9_copyFrom rfl rfl rfl (by decide +kernel) ⟨Nat.le_of_ble_eq_true rfl, Nat.le_of_ble_eq_true rfl⟩) (th_PV hK hH rfl hc_18) rfl rfl hl.1 rfl (lv_room (Nat.le_of_ble_eq_true rfl)) dX9_graft_72 ⟨Nat.le_of_ble_eq_true rfl, Nat.le_of_ble_eq_true rfl⟩) hS (fun σ_s_20 H locs hw_19 hH hS => ?_)
            obtain ⟨hO9, hF9, hw_19⟩ := hw_19
            have e_21 : gI σ_s_20 b 4 = z_1 := (fr.ki hO hF9 h_b (by decide) (by decide) _).trans e_2
            replace hO := hO9
            replace hF := hF.tu hF9 (by decide)
            have hw_19 : gI σ_s_20 a 4 = gI σ a 4 := hw_19
            refine lv_aload_n hx hb dX9_graft_75 rfl (lv_at hl 1 rfl) ?_
            refine lv_aload hx hb dX9_graft_76 (lv_at hl 5 rfl) ?_
            refine lv_iload hx hb dX9_graft_78 (lv_at hl 6 rfl) ?_
            refine lv_iload_n hx hb dX9_graft_80 rfl (lv_at hl 2 rfl) ?_
            refine lv_iload hx hb dX9_graft_81 (lv_at hl 0 rfl) ?_
            obtain ⟨_, hc_22⟩ := hO.cell h_a (by decide) (ci := 9) rfl
            refine th_callv (va_runV (As := [.ref b, .int (I f), .int (I x), .int (I (z_6 - f + 1))]) (rest := []) ⟨hx, hb, hml, hown, hts⟩ (t21_copyFrom l G y b0 σ_s_20 E hO a h_a b h_b f (show rng f from rf) (by omega) (by omega) x (show rng x from rx) (by omega) (by omega) (z_6 - f + 1) (show rng (z_6 - f + 1) from ⟨by omega, by omega⟩) (by omega) (by omega)) (cwV 4 hts gX9_graft_X9_copyFrom rfl rfl rfl (by decide +kernel) ⟨Nat.le_of_ble_eq_true rfl, Nat.le_of_ble_eq_true rfl⟩) (th_PV hK hH rfl hc_22) rfl rfl hl.1 rfl (lv_room (Nat.le_of_ble_eq_true rfl)) dX9_graft_83 ⟨Nat.le_of_ble_eq_true rfl, Nat.le_of_ble_eq_true rfl⟩) hS (fun σ_s_24 H locs hw_23 hH hS => ?_)
            obtain ⟨hO9, hF9, hw_23⟩ := hw_23
            have e_25 : gI σ_s_24 b 4 = z_1 := (fr.ki hO hF9 h_b (by decide) (by decide) _).trans e_21
            replace hO := hO9
            replace hF := hF.tu hF9 (by decide)
            have hw_23 : gI σ_s_24 a 4 = gI σ_s_20 a 4 := hw_23
            refine lv_aload_n hx hb dX9_graft_86 rfl (lv_at hl 1 rfl) ?_
            refine lv_dup hx hb dX9_graft_87 rfl ?_
            refine ok.getI hO h_a (by decide) k2_4 (fun _ _ he hv kk => th_get (ci := 9) (C := RX9) (T := TX9) (N := 5) hx hb hts inX9 hown hK hH he rfl 4 (by decide) fl0 hv dX9_graft_88 kk) (fun z_26 e_27 rz_26 lz_26 uz_26 => ?_)
            refine lv_iload hx hb dX9_graft_91 (lv_at hl 0 rfl) ?_
            refine lv_iadd hx hb dX9_graft_93 ?_
            refine nq_top (I_add _ _) ?_
            refine ok.putI hO h_a (by decide) k2_4 ⟨by omega, by omega⟩ (by omega) (by omega) (fun _ he hl9 kk => th_put (ci := 9) (v := .int (I (z_26 + (z_6 - f + 1)))) (ty := .int) (C := RX9) (T := TX9) (N := 5) hx hb hts inX9 tyX9 tyX9_ok nmX9 hown hK hH hS h00 he rfl 4 (by decide) fl0 rfl (by decide +kernel) rfl rfl hl9 dX9_graft_94 kk) (fun σ_s_28 H locs hO hF9 hg9 hi9 ha9 hH hS => ?_)
            replace hF := hF.tu hF9 (by decide)
            have e_29 := hg9
            refine lv_iload_n hx hb dX9_graft_97 rfl (lv_at hl 3 rfl) ?_
            refine lv_aload hx hb dX9_graft_98 (lv_at hl 5 rfl) ?_
            refine lv_iload hx hb dX9_graft_100 (lv_at hl 6 rfl) ?_
            obtain ⟨z_30, e_31, rz_30, lz_30, uz_30⟩ := hO.gi h_b (by decide) k1_4
            obtain ⟨_, hc_32⟩ := hO.cell h_b (by decide) (ci := 9) rfl
            refine th_calli (va_runV (As := [.int (I f)]) (rest := [.int (I dp)]) ⟨hx, hb, hml, hown, hts⟩ (t_depthAt l G y b0 σ_s_28 b (tvE E σ_s_28 b 60) f (hO.isT1 h_b) (show rng f from rf)) (cwV 1 hts gX9_graft_X9_depthAt rfl rfl rfl (by decide +kernel) ⟨Nat.le_of_ble_eq_true rfl, Nat.le_of_ble_eq_true rfl⟩) (th_PV hK hH rfl hc_32) rfl rfl hl.1 rfl (lv_room (Nat.le_of_ble_eq_true rfl)) dX9_graft_102 ⟨Nat.le_of_ble_eq_true rfl, Nat.le_of_ble_eq_true rfl⟩) hS (fun z_35 σ_s_34 H locs rz_35 hw_33 hH hS => ?_)
            obtain ⟨e9, hw_33⟩ := hw_33
            replace e9 := e9.symm
            subst e9
            have hw_33 : ((0 ≤ f ∧ f < (gI σ_s_28 b 4)) ∧ z_35 = ((aF σ_s_28 (ad E b 3)) f.toNat).toInt) ∨ (z_35 = -1 ∧ ¬ (0 ≤ f ∧ f < (gI σ_s_28 b 4))) := hw_33
            refine lv_isub hx hb dX9_graft_105 ?_
            refine th_subo (fun z_36 rz_36 hz_36 => ?_)
            refine lv_istore (lv' := [(7, .int (I z_36)), (6, .int (I (z_6 - f + 1))), (0, .ref a), (1, .int (I x)), (2, .int (I dp)), (3, .int (I ky)), (4, .ref b), (5, .int (I f))]) hx hb dX9_graft_106 hl (by decide) rfl (fun ls hl => ?_)
            refine lv_iload_n hx hb dX9_graft_108 rfl (lv_at hl 3 rfl) ?_
            refine lv_istore (lv' := [(8, .int (I x)), (7, .int (I z_36)), (6, .int (I (z_6 - f + 1))), (0, .ref a), (1, .int (I x)), (2, .int (I dp)), (3, .int (I ky)), (4, .ref b), (5, .int (I f))]) hx hb dX9_graft_109 hl (by decide) rfl (fun ls hl => ?_)
            replace hl : lv_has ls 9 [(8, .int (I x)), (7, .int (I z_36)), (6, .int (I (z_6 - f + 1))), (0, .ref a), (1, .int (I x)), (3, .int (I ky))] := lv_sub hl [0, 1, 2, 3, 4, 6] rfl
            refine th_loop (α := Int) (pc := 111) (fun x9 => (400 - x9).toNat) (fun x9 σ9 H9 l9 ls9 => ok y E σ9 ∧ fr [2] E σ σ9 ∧ th_H G b0 σ9 H9 ∧ va_S (th_A b0) s.heap H9 l9 ∧ lv_has ls9 9 [(0, .ref a), (1, .int (I x)), (3, .int (I ky)), (6, .int (I (z_6 - f + 1))), (7, .int (I z_36)), (8, .int (I x9))] ∧ rng x9 ∧ (0 ≤ x9) ∧ (x9 ≤ 400) ∧ (gI σ9 a 4 = z_26 + (z_6 - f + 1)) ∧ (gI σ9 b 4 = z_30)) ?_ (x) σ_s_28 _ _ _ ⟨hO, hF, hH, hS, lv_sub hl [3, 4, 5, 2, 1, 0] rfl, rx, by first | omega | (dsimp only; omega), by first | omega | (dsimp only; omega), e_29, e_31⟩
            intro x9 σ_J_46 H locs ls hI9 ihJ_46
            obtain ⟨v8q45, ex9⟩ : ∃ z, z = x9 := ⟨_, rfl⟩
            subst ex9
            obtain ⟨hO, hF, hH, hS, hl, rv8q45, J_46_0, J_46_1, J_46_2, J_46_3⟩ := hI9
            have hl : lv_has ls 9 [(0, .ref a), (1, .int (I x)), (3, .int (I ky)), (6, .int (I (z_6 - f + 1))), (7, .int (I z_36)), (8, .int (I v8q45))] := hl
            have rv8q45 : rng v8q45 := rv8q45
            have J_46_0 : 0 ≤ v8q45 := J_46_0
            have J_46_1 : v8q45 ≤ 400 := J_46_1
            have J_46_2 : gI σ_J_46 a 4 = z_26 + (z_6 - f + 1) := J_46_2
            have J_46_3 : gI σ_J_46 b 4 = z_30 := J_46_3
            refine lv_iload hx hb dX9_graft_111 (lv_at hl 5 rfl) ?_
            refine lv_iload_n hx hb dX9_graft_113 rfl (lv_at hl 1 rfl) ?_
            refine lv_iload hx hb dX9_graft_114 (lv_at hl 3 rfl) ?_
            refine lv_iadd hx hb dX9_graft_116 ?_
            refine nq_top (I_add _ _) ?_
            refine lv_icmp_ge (tgt := 147) hx hb dX9_graft_117 (by decide) (fun c_47 => ?_) (fun c_47 => ?_)
            · replace c_47 := (I_le (a := x + (z_6 - f + 1)) (b := v8q45) ⟨by omega, by omega⟩ rv8q45).mp c_47
              refine lv_aload_n hx hb dX9_graft_147 rfl (lv_at hl 0 rfl) ?_
              refine ok.getR hO h_a (by decide) k2_2 (by decide) (fun _ _ he hv kk => th_get (ci := 9) (C := RX9) (T := TX9) (N := 5) hx hb hts inX9 hown hK hH he rfl 2 (by decide) fl2 hv dX9_graft_148 kk) ?_
              refine lv_iload_n hx hb dX9_graft_151 rfl (lv_at hl 1 rfl) ?_
              refine lv_iload_n hx hb dX9_graft_152 rfl (lv_at hl 2 rfl) ?_
              refine ok_iast hx hb hK hH hS h00 hO h_a (by decide) k2_2 isA1 rx (by omega) (by omega) rky el1 dX9_graft_153 (fun σ_s_48 H locs hO hF9 hi9 ha9 hH hS => ?_)
              replace hF := hF.tu hF9 (by decide)
              have e_49 : gI σ_s_48 a 4 = z_26 + (z_6 - f + 1) := (hi9 _ _).trans J_46_2
              have e_50 : gI σ_s_48 b 4 = z_30 := (hi9 _ _).trans J_46_3
              refine lv_iconst (v := I 1) hx hb dX9_graft_154 (by decide) ?_
              exact th_zret hx hb hr hlocks hH hS (z := 1) (by omega) ⟨hO, hF, ⟨by omega, by omega⟩, trivial⟩ dX9_graft_155
            · replace c_47 := mt (I_le (a := x + (z_6 - f + 1)) (b := v8q45) ⟨by omega, by omega⟩ rv8q45).mpr c_47
              refine lv_iload hx hb dX9_graft_120 (lv_at hl 5 rfl) ?_
              refine lv_aload_n hx hb dX9_graft_122 rfl (lv_at hl 0 rfl) ?_
              refine ok.getIc hO h_a (by decide) k2_4 J_46_2 (fun _ _ he hv kk => th_get (ci := 9) (C := RX9) (T := TX9) (N := 5) hx hb hts inX9 hown hK hH he rfl 4 (by decide) fl0 hv dX9_graft_123 kk) ?_
              refine lv_icmp_ge (tgt := 147) hx hb dX9_graft_126 (by decide) (fun c_51 => ?_) (fun c_51 => ?_)
              · replace c_51 := (I_le (a := z_26 + (z_6 - f + 1)) (b := v8q45) ⟨by omega, by omega⟩ rv8q45).mp c_51
                refine lv_aload_n hx hb dX9_graft_147 rfl (lv_at hl 0 rfl) ?_
                refine ok.getR hO h_a (by decide) k2_2 (by decide) (fun _ _ he hv kk => th_get (ci := 9) (C := RX9) (T := TX9) (N := 5) hx hb hts inX9 hown hK hH he rfl 2 (by decide) fl2 hv dX9_graft_148 kk) ?_
                refine lv_iload_n hx hb dX9_graft_151 rfl (lv_at hl 1 rfl) ?_
                refine lv_iload_n hx hb dX9_graft_152 rfl (lv_at hl 2 rfl) ?_
                refine ok_iast hx hb hK hH hS h00 hO h_a (by decide) k2_2 isA1 rx (by omega) (by omega) rky el1 dX9_graft_153 (fun σ_s_52 H locs hO hF9 hi9 ha9 hH hS => ?_)
                replace hF := hF.tu hF9 (by decide)
                have e_53 : gI σ_s_52 a 4 = z_26 + (z_6 - f + 1) := (hi9 _ _).trans J_46_2
                have e_54 : gI σ_s_52 b 4 = z_30 := (hi9 _ _).trans J_46_3
                refine lv_iconst (v := I 1) hx hb dX9_graft_154 (by decide) ?_
                exact th_zret hx hb hr hlocks hH hS (z := 1) (by omega) ⟨hO, hF, ⟨by omega, by omega⟩, trivial⟩ dX9_graft_155
              · replace c_51 := mt (I_le (a := z_26 + (z_6 - f + 1)) (b := v8q45) ⟨by omega, by omega⟩ rv8q45).mpr c_51
                refine lv_aload_n hx hb dX9_graft_129 rfl (lv_at hl 0 rfl) ?_
                refine ok.getR hO h_a (by decide) k2_3 (by decide) (fun _ _ he hv kk => th_get (ci := 9) (C := RX9) (T := TX9) (N := 5) hx hb hts inX9 hown hK hH he rfl 3 (by decide) fl3 hv dX9_graft_130 kk) ?_
                refine lv_iload hx hb dX9_graft_133 (lv_at hl 5 rfl) ?_
                refine lv_dup2_11 hx hb dX9_graft_135 rfl rfl ?_
                refine ok_iald hx hb hK hH hO h_a (by decide) k2_3 isA1 rv8q45 (by omega) (by omega) dX9_graft_136 (fun z_55 ez_55 rz_55 el9 => ?_)
                refine lv_iload hx hb dX9_graft_137 (lv_at hl 4 rfl) ?_
                refine lv_iadd hx hb dX9_graft_139 ?_
                refine th_addo (fun z_56 rz_56 hz_56 => ?_)
                refine ok_iast hx hb hK hH hS h00 hO h_a (by decide) k2_3 isA1 rv8q45 (by omega) (by omega) rz_56 el1 dX9_graft_140 (fun σ_s_57 H locs hO hF9 hi9 ha9 hH hS => ?_)
                replace hF := hF.tu hF9 (by decide)
                have e_58 : gI σ_s_57 a 4 = z_26 + (z_6 - f + 1) := (hi9 _ _).trans J_46_2
                have e_59 : gI σ_s_57 b 4 = z_30 := (hi9 _ _).trans J_46_3
                refine lv_iinc (v := I (v8q45 + 1)) (lv' := [(8, .int (I (v8q45 + 1))), (0, .ref a), (1, .int (I x)), (3, .int (I ky)), (6, .int (I (z_6 - f + 1))), (7, .int (I z_36))]) hx hb dX9_graft_141 hl (k := 5) rfl (I_add _ _) (by decide) rfl (fun ls hl => ?_)
                refine lv_goto (tgt := 111) hx hb dX9_graft_144 (by decide) ?_
                exact ihJ_46 (v8q45 + 1) σ_s_57 _ _ _ (by first | omega | (dsimp only; omega)) ⟨hO, hF, hH, hS, lv_sub hl [1, 2, 3, 4, 5, 0] rfl, ⟨by first | omega | (dsimp only; omega), by first | omega | (dsimp only; omega)⟩, by first | omega | (dsimp only; omega), by first | omega | (dsimp only; omega), e_58, e_59⟩
          · replace c_17 := mt (I_le (a := z_14 + (z_6 - f + 1)) (b := 128) ⟨by omega, by omega⟩ (show rng 128 from ⟨by decide, by decide⟩)).mpr c_17
            refine lv_iconst (v := I 0) hx hb dX9_graft_57 (by decide) ?_
            exact th_zret hx hb hr hlocks hH hS (z := 0) (by omega) ⟨hO, hF, ⟨by omega, by omega⟩, trivial⟩ dX9_graft_58

set_option maxHeartbeats 1000000 in
set_option maxRecDepth 100000 in
theorem t22_graft (l : Launch) (G : va_G) (y : Nat → ClassId) (b0 : Nat) (σ : th_M) (E : th_E) (hO : ok y E σ) (a : Nat) (h_a : kd E a = 2) (x : Int) (rx : rng x) (l_x : -200 ≤ x) (u_x : x ≤ 400) (dp : Int) (rdp : rng dp) (ky : Int) (rky : rng ky) (b : Nat) (h_b : kd E b = 2) (f : Int) (rf : rng f) (l_f : -1 ≤ f) (u_f : f ≤ 200) : Met l yX9_graft wsX9_graft ({ frames := 2, cells := 0, slots := 0, locals := 88 }) (th_P G y b0 σ [.ref a, .int (I x), .int (I dp), .int (I ky), .ref b, .int (I f)]) (th_Qi G b0 (fun r σ1 => ok y E σ1 ∧ fr [2] E σ σ1 ∧ (0 ≤ r ∧ r ≤ 1) ∧ (True))) 0 0 (th_A b0) := by
  refine Met.ofW (cc := cX9_graft) (maxL := 9) (ret := (some .boolean)) (by decide) rfl ?_
  intro p e s m args below meth c s₁ B hml hv
  obtain ⟨rfl, hH, hK⟩ := hv
  have hx := B.exec
  have hb := B.bytes
  have hr := B.returns
  have hts := atoms_spec (ws := wsX9_graft) B.pre
  have hown : s.vm.findClass RX9 = some m.cls := findClass_of_methodNamed B.named
  have hlocks := B.notSynchronized
  have h00 : b0 ≤ s.heap.size := hH.1
  have hS : va_S (th_A b0) s.heap s.heap [] := va_S.rf
  have hF : fr [2] E σ σ := fr.rf
  have inX9 : ∀ w ∈ wsX90, w ∈ wsX9_graft := by decide +kernel
  have fl0 := hts (.fieldLink RX9 24 "NestQuery$Tree" "size" "I") (by decide +kernel)
  have fl1 := hts (.fieldLink RX9 9 "NestQuery$Tree" "kinds" "[I") (by decide +kernel)
  have fl2 := hts (.fieldLink RX9 18 "NestQuery$Tree" "keys" "[I") (by decide +kernel)
  have fl3 := hts (.fieldLink RX9 21 "NestQuery$Tree" "depths" "[I") (by decide +kernel)
  have hl := lv_entry ([.ref a, .int (I x), .int (I dp), .int (I ky), .ref b, .int (I f)]) (n := 9) (Nat.le_of_ble_eq_true rfl)
  rw [lg_entry_eq]
  generalize (lg_sl ([.ref a, .int (I x), .int (I dp), .int (I ky), .ref b, .int (I f)]) ++ List.replicate (9 - (lg_sl ([.ref a, .int (I x), .int (I dp), .int (I ky), .ref b, .int (I f)])).length) Slot.unset).toArray = ls at hl ⊢
  have hl : lv_has ls 9 [(0, .ref a), (1, .int (I x)), (2, .int (I dp)), (3, .int (I ky)), (4, .ref b), (5, .int (I f))] := hl
  refine lv_aload hx hb dX9_graft_0 (lv_at hl 4 rfl) ?_
  refine lv_iload hx hb dX9_graft_2 (lv_at hl 5 rfl) ?_
  obtain ⟨z_1, e_2, rz_1, lz_1, uz_1⟩ := hO.gi h_b (by decide) k2_4
  obtain ⟨_, hc_3⟩ := hO.cell h_b (by decide) (ci := 9) rfl
  refine th_calli (va_runV (As := [.int (I f)]) (rest := []) ⟨hx, hb, hml, hown, hts⟩ (t_end l G y b0 σ b (tvE E σ b 128) f (hO.isT2 h_b) (show rng f from rf)) (cwV 1 hts gX9_graft_X9_end rfl rfl rfl (by decide +kernel) ⟨Nat.le_of_ble_eq_true rfl, Nat.le_of_ble_eq_true rfl⟩) (th_PV hK hH rfl hc_3) rfl rfl hl.1 rfl (lv_room (Nat.le_of_ble_eq_true rfl)) dX9_graft_4 ⟨Nat.le_of_ble_eq_true rfl, Nat.le_of_ble_eq_true rfl⟩) hS (fun z_6 σ_s_5 H locs rz_6 hw_4 hH hS => ?_)
  obtain ⟨e9, hw_4⟩ := hw_4
  replace e9 := e9.symm
  subst e9
  have hw_4 : ((0 ≤ f ∧ f < (gI σ b 4)) ∧ f ≤ z_6 ∧ z_6 < (gI σ b 4)) ∨ (z_6 = -1 ∧ ¬ (0 ≤ f ∧ f < (gI σ b 4))) := hw_4
  refine lv_iload hx hb dX9_graft_7 (lv_at hl 5 rfl) ?_
  refine lv_isub hx hb dX9_graft_9 ?_
  refine nq_top (I_sub _ _) ?_
  refine lv_iconst (v := I 1) hx hb dX9_graft_10 (by decide) ?_
  refine lv_iadd hx hb dX9_graft_11 ?_
  refine nq_top (I_add _ _) ?_
  refine lv_istore (lv' := [(6, .int (I (z_6 - f + 1))), (0, .ref a), (1, .int (I x)), (2, .int (I dp)), (3, .int (I ky)), (4, .ref b), (5, .int (I f))]) hx hb dX9_graft_12 hl (by decide) rfl (fun ls hl => ?_)
  refine lv_aload hx hb dX9_graft_14 (lv_at hl 5 rfl) ?_
  refine lv_iload hx hb dX9_graft_16 (lv_at hl 6 rfl) ?_
  obtain ⟨_, hc_7⟩ := hO.cell h_b (by decide) (ci := 9) rfl
  refine th_calli (va_runV (As := [.int (I f)]) (rest := []) ⟨hx, hb, hml, hown, hts⟩ (t_has l G y b0 σ b (tvE E σ b 128) f (hO.isT2 h_b) (show rng f from rf)) (cwV 1 hts gX9_graft_X9_has rfl rfl rfl (by decide +kernel) ⟨Nat.le_of_ble_eq_true rfl, Nat.le_of_ble_eq_true rfl⟩) (th_PV hK hH rfl hc_7) rfl rfl hl.1 rfl (lv_room (Nat.le_of_ble_eq_true rfl)) dX9_graft_18 ⟨Nat.le_of_ble_eq_true rfl, Nat.le_of_ble_eq_true rfl⟩) hS (fun z_10 σ_s_9 H locs rz_10 hw_8 hH hS => ?_)
  obtain ⟨e9, hw_8⟩ := hw_8
  replace e9 := e9.symm
  subst e9
  have hw_8 : (z_10 = 1 ∧ 0 ≤ f ∧ f < (gI σ b 4)) ∨ (z_10 = 0 ∧ ¬ (0 ≤ f ∧ f < (gI σ b 4))) := hw_8
  refine lv_if_eq (tgt := 57) hx hb dX9_graft_21 (by decide) (fun c_11 => ?_) (fun c_11 => ?_)
  · replace c_11 := (I_eq (a := z_10) (b := 0) rz_10 (show rng 0 from ⟨by decide, by decide⟩)).mp c_11
    refine lv_iconst (v := I 0) hx hb dX9_graft_57 (by decide) ?_
    exact th_zret hx hb hr hlocks hH hS (z := 0) (by omega) ⟨hO, hF, ⟨by omega, by omega⟩, trivial⟩ dX9_graft_58
  · replace c_11 := mt (I_eq (a := z_10) (b := 0) rz_10 (show rng 0 from ⟨by decide, by decide⟩)).mpr c_11
    refine lv_iload hx hb dX9_graft_24 (lv_at hl 0 rfl) ?_
    refine lv_iconst (v := I 1) hx hb dX9_graft_26 (by decide) ?_
    refine lv_icmp_lt (tgt := 57) hx hb dX9_graft_27 (by decide) (fun c_12 => ?_) (fun c_12 => ?_)
    · replace c_12 := (I_lt (a := z_6 - f + 1) (b := 1) ⟨by omega, by omega⟩ (show rng 1 from ⟨by decide, by decide⟩)).mp c_12
      refine lv_iconst (v := I 0) hx hb dX9_graft_57 (by decide) ?_
      exact th_zret hx hb hr hlocks hH hS (z := 0) (by omega) ⟨hO, hF, ⟨by omega, by omega⟩, trivial⟩ dX9_graft_58
    · replace c_12 := mt (I_lt (a := z_6 - f + 1) (b := 1) ⟨by omega, by omega⟩ (show rng 1 from ⟨by decide, by decide⟩)).mpr c_12
      refine lv_iload_n hx hb dX9_graft_30 rfl (lv_at hl 2 rfl) ?_
      refine lv_if_lt (tgt := 57) hx hb dX9_graft_31 (by decide) (fun c_13 => ?_) (fun c_13 => ?_)
      · replace c_13 := (I_lt (a := x) (b := 0) rx (show rng 0 from ⟨by decide, by decide⟩)).mp c_13
        refine lv_iconst (v := I 0) hx hb dX9_graft_57 (by decide) ?_
        exact th_zret hx hb hr hlocks hH hS (z := 0) (by omega) ⟨hO, hF, ⟨by omega, by omega⟩, trivial⟩ dX9_graft_58
      · replace c_13 := mt (I_lt (a := x) (b := 0) rx (show rng 0 from ⟨by decide, by decide⟩)).mpr c_13
        refine lv_iload_n hx hb dX9_graft_34 rfl (lv_at hl 2 rfl) ?_
        refine lv_aload_n hx hb dX9_graft_35 rfl (lv_at hl 1 rfl) ?_
        refine ok.getI hO h_a (by decide) k2_4 (fun _ _ he hv kk => th_get (ci := 9) (C := RX9) (T := TX9) (N := 5) hx hb hts inX9 hown hK hH he rfl 4 (by decide) fl0 hv dX9_graft_36 kk) (fun z_14 e_15 rz_14 lz_14 uz_14 => ?_)
        refine lv_icmp_gt (tgt := 57) hx hb dX9_graft_39 (by decide) (fun c_16 => ?_) (fun c_16 => ?_)
        · replace c_16 := (I_lt (a := z_14) (b := x) rz_14 rx).mp c_16
          refine lv_iconst (v := I 0) hx hb dX9_graft_57 (by decide) ?_
          exact th_zret hx hb hr hlocks hH hS (z := 0) (by omega) ⟨hO, hF, ⟨by omega, by omega⟩, trivial⟩ dX9_graft_58
        · replace c_16 := mt (I_lt (a := z_14) (b := x) rz_14 rx).mpr c_16
          refine lv_aload_n hx hb dX9_graft_42 rfl (lv_at hl 1 rfl) ?_
          refine ok.getIc hO h_a (by decide) k2_4 e_15 (fun _ _ he hv kk => th_get (ci := 9) (C := RX9) (T := TX9) (N := 5) hx hb hts inX9 hown hK hH he rfl 4 (by decide) fl0 hv dX9_graft_43 kk) ?_
          refine lv_iload hx hb dX9_graft_46 (lv_at hl 0 rfl) ?_
          refine lv_iadd hx hb dX9_graft_48 ?_
          refine nq_top (I_add _ _) ?_
          refine lv_aload_n hx hb dX9_graft_49 rfl (lv_at hl 1 rfl) ?_
          refine ok.getR hO h_a (by decide) k2_0 (by decide) (fun _ _ he hv kk => th_get (ci := 9) (C := RX9) (T := TX9) (N := 5) hx hb hts inX9 hown hK hH he rfl 0 (by decide) fl1 hv dX9_graft_50 kk) ?_
          refine ok_alen hx hb hK hH hO h_a (by decide) k2_0 isA1 (by decide) dX9_graft_53 ?_
          refine lv_icmp_le (tgt := 59) hx hb dX9_graft_54 (by decide) (fun c_17 => ?_) (fun c_17 => ?_)
          · replace c_17 := (I_le (a := z_14 + (z_6 - f + 1)) (b := 128) ⟨by omega, by omega⟩ (show rng 128 from ⟨by decide, by decide⟩)).mp c_17
            refine lv_aload_n hx hb dX9_graft_59 rfl (lv_at hl 1 rfl) ?_
            refine lv_aload_n hx hb dX9_graft_60 rfl (lv_at hl 1 rfl) ?_
            refine lv_iload_n hx hb dX9_graft_61 rfl (lv_at hl 2 rfl) ?_
            refine lv_iload_n hx hb dX9_graft_62 rfl (lv_at hl 2 rfl) ?_
            refine lv_iload hx hb dX9_graft_63 (lv_at hl 0 rfl) ?_
            refine lv_iadd hx hb dX9_graft_65 ?_
            refine nq_top (I_add _ _) ?_
            refine lv_aload_n hx hb dX9_graft_66 rfl (lv_at hl 1 rfl) ?_
            refine ok.getIc hO h_a (by decide) k2_4 e_15 (fun _ _ he hv kk => th_get (ci := 9) (C := RX9) (T := TX9) (N := 5) hx hb hts inX9 hown hK hH he rfl 4 (by decide) fl0 hv dX9_graft_67 kk) ?_
            refine lv_iload_n hx hb dX9_graft_70 rfl (lv_at hl 2 rfl) ?_
            refine lv_isub hx hb dX9_graft_71 ?_
            refine nq_top (I_sub _ _) ?_
            obtain ⟨_, hc_18⟩ := hO.cell h_a (by decide) (ci := 9) rfl
            refine th_callv (va_runV (As := [.ref a, .int (I x), .int (I (x + (z_6 - f + 1))), .int (I (z_14 - x))]) (rest := []) ⟨hx, hb, hml, hown, hts⟩ (t22_copyFrom l G y b0 σ E hO a h_a a h_a x (show rng x from rx) (by omega) (by omega) (x + (z_6 - f + 1)) (show rng (x + (z_6 - f + 1)) from ⟨by omega, by omega⟩) (by omega) (by omega) (z_14 - x) (show rng (z_14 - x) from ⟨by omega, by omega⟩) (by omega) (by omega)) (cwV 4 hts gX9_graft_X9_copyFrom rfl rfl rfl (by decide +kernel) ⟨Nat.le_of_ble_eq_true rfl, Nat.le_of_ble_eq_true rfl⟩) (th_PV hK hH rfl hc_18) rfl rfl hl.1 rfl (lv_room (Nat.le_of_ble_eq_true rfl)) dX9_graft_72 ⟨Nat.le_of_ble_eq_true rfl, Nat.le_of_ble_eq_true rfl⟩) hS (fun σ_s_20 H locs hw_19 hH hS => ?_)
            obtain ⟨hO9, hF9, hw_19⟩ := hw_19
            replace hO := hO9
            replace hF := hF.tu hF9 (by decide)
            have hw_19 : gI σ_s_20 a 4 = gI σ a 4 := hw_19
            refine lv_aload_n hx hb dX9_graft_75 rfl (lv_at hl 1 rfl) ?_
            refine lv_aload hx hb dX9_graft_76 (lv_at hl 5 rfl) ?_
            refine lv_iload hx hb dX9_graft_78 (lv_at hl 6 rfl) ?_
            refine lv_iload_n hx hb dX9_graft_80 rfl (lv_at hl 2 rfl) ?_
            refine lv_iload hx hb dX9_graft_81 (lv_at hl 0 rfl) ?_
            obtain ⟨_, hc_21⟩ := hO.cell h_a (by decide) (ci := 9) rfl
            refine th_callv (va_runV (As := [.ref b, .int (I f), .int (I x), .int (I (z_6 - f + 1))]) (rest := []) ⟨hx, hb, hml, hown, hts⟩ (t22_copyFrom l G y b0 σ_s_20 E hO a h_a b h_b f (show rng f from rf) (by omega) (by omega) x (show rng x from rx) (by omega) (by omega) (z_6 - f + 1) (show rng (z_6 - f + 1) from ⟨by omega, by omega⟩) (by omega) (by omega)) (cwV 4 hts gX9_graft_X9_copyFrom rfl rfl rfl (by decide +kernel) ⟨Nat.le_of_ble_eq_true rfl, Nat.le_of_ble_eq_true rfl⟩) (th_PV hK hH rfl hc_21) rfl rfl hl.1 rfl (lv_room (Nat.le_of_ble_eq_true rfl)) dX9_graft_83 ⟨Nat.le_of_ble_eq_true rfl, Nat.le_of_ble_eq_true rfl⟩) hS (fun σ_s_23 H locs hw_22 hH hS => ?_)
            obtain ⟨hO9, hF9, hw_22⟩ := hw_22
            replace hO := hO9
            replace hF := hF.tu hF9 (by decide)
            have hw_22 : gI σ_s_23 a 4 = gI σ_s_20 a 4 := hw_22
            refine lv_aload_n hx hb dX9_graft_86 rfl (lv_at hl 1 rfl) ?_
            refine lv_dup hx hb dX9_graft_87 rfl ?_
            refine ok.getI hO h_a (by decide) k2_4 (fun _ _ he hv kk => th_get (ci := 9) (C := RX9) (T := TX9) (N := 5) hx hb hts inX9 hown hK hH he rfl 4 (by decide) fl0 hv dX9_graft_88 kk) (fun z_24 e_25 rz_24 lz_24 uz_24 => ?_)
            refine lv_iload hx hb dX9_graft_91 (lv_at hl 0 rfl) ?_
            refine lv_iadd hx hb dX9_graft_93 ?_
            refine nq_top (I_add _ _) ?_
            refine ok.putI hO h_a (by decide) k2_4 ⟨by omega, by omega⟩ (by omega) (by omega) (fun _ he hl9 kk => th_put (ci := 9) (v := .int (I (z_24 + (z_6 - f + 1)))) (ty := .int) (C := RX9) (T := TX9) (N := 5) hx hb hts inX9 tyX9 tyX9_ok nmX9 hown hK hH hS h00 he rfl 4 (by decide) fl0 rfl (by decide +kernel) rfl rfl hl9 dX9_graft_94 kk) (fun σ_s_26 H locs hO hF9 hg9 hi9 ha9 hH hS => ?_)
            replace hF := hF.tu hF9 (by decide)
            have e_27 := hg9
            refine lv_iload_n hx hb dX9_graft_97 rfl (lv_at hl 3 rfl) ?_
            refine lv_aload hx hb dX9_graft_98 (lv_at hl 5 rfl) ?_
            refine lv_iload hx hb dX9_graft_100 (lv_at hl 6 rfl) ?_
            obtain ⟨z_28, e_29, rz_28, lz_28, uz_28⟩ := hO.gi h_b (by decide) k2_4
            obtain ⟨_, hc_30⟩ := hO.cell h_b (by decide) (ci := 9) rfl
            refine th_calli (va_runV (As := [.int (I f)]) (rest := [.int (I dp)]) ⟨hx, hb, hml, hown, hts⟩ (t_depthAt l G y b0 σ_s_26 b (tvE E σ_s_26 b 128) f (hO.isT2 h_b) (show rng f from rf)) (cwV 1 hts gX9_graft_X9_depthAt rfl rfl rfl (by decide +kernel) ⟨Nat.le_of_ble_eq_true rfl, Nat.le_of_ble_eq_true rfl⟩) (th_PV hK hH rfl hc_30) rfl rfl hl.1 rfl (lv_room (Nat.le_of_ble_eq_true rfl)) dX9_graft_102 ⟨Nat.le_of_ble_eq_true rfl, Nat.le_of_ble_eq_true rfl⟩) hS (fun z_33 σ_s_32 H locs rz_33 hw_31 hH hS => ?_)
            obtain ⟨e9, hw_31⟩ := hw_31
            replace e9 := e9.symm
            subst e9
            have hw_31 : ((0 ≤ f ∧ f < (gI σ_s_26 b 4)) ∧ z_33 = ((aF σ_s_26 (ad E b 3)) f.toNat).toInt) ∨ (z_33 = -1 ∧ ¬ (0 ≤ f ∧ f < (gI σ_s_26 b 4))) := hw_31
            refine lv_isub hx hb dX9_graft_105 ?_
            refine th_subo (fun z_34 rz_34 hz_34 => ?_)
            refine lv_istore (lv' := [(7, .int (I z_34)), (6, .int (I (z_6 - f + 1))), (0, .ref a), (1, .int (I x)), (2, .int (I dp)), (3, .int (I ky)), (4, .ref b), (5, .int (I f))]) hx hb dX9_graft_106 hl (by decide) rfl (fun ls hl => ?_)
            refine lv_iload_n hx hb dX9_graft_108 rfl (lv_at hl 3 rfl) ?_
            refine lv_istore (lv' := [(8, .int (I x)), (7, .int (I z_34)), (6, .int (I (z_6 - f + 1))), (0, .ref a), (1, .int (I x)), (2, .int (I dp)), (3, .int (I ky)), (4, .ref b), (5, .int (I f))]) hx hb dX9_graft_109 hl (by decide) rfl (fun ls hl => ?_)
            replace hl : lv_has ls 9 [(8, .int (I x)), (7, .int (I z_34)), (6, .int (I (z_6 - f + 1))), (0, .ref a), (1, .int (I x)), (3, .int (I ky))] := lv_sub hl [0, 1, 2, 3, 4, 6] rfl
            refine th_loop (α := Int) (pc := 111) (fun x9 => (400 - x9).toNat) (fun x9 σ9 H9 l9 ls9 => ok y E σ9 ∧ fr [2] E σ σ9 ∧ th_H G b0 σ9 H9 ∧ va_S (th_A b0) s.heap H9 l9 ∧ lv_has ls9 9 [(0, .ref a), (1, .int (I x)), (3, .int (I ky)), (6, .int (I (z_6 - f + 1))), (7, .int (I z_34)), (8, .int (I x9))] ∧ rng x9 ∧ (0 ≤ x9) ∧ (x9 ≤ 400) ∧ (gI σ9 a 4 = z_24 + (z_6 - f + 1)) ∧ (gI σ9 b 4 = z_28)) ?_ (x) σ_s_26 _ _ _ ⟨hO, hF, hH, hS, lv_sub hl [3, 4, 5, 2, 1, 0] rfl, rx, by first | omega | (dsimp only; omega), by first | omega | (dsimp only; omega), e_27, e_29⟩
            intro x9 σ_J_44 H locs ls hI9 ihJ_44
            obtain ⟨v8q43, ex9⟩ : ∃ z, z = x9 := ⟨_, rfl⟩
            subst ex9
            obtain ⟨hO, hF, hH, hS, hl, rv8q43, J_44_0, J_44_1, J_44_2, J_44_3⟩ := hI9
            have hl : lv_has ls 9 [(0, .ref a), (1, .int (I x)), (3, .int (I ky)), (6, .int (I (z_6 - f + 1))), (7, .int (I z_34)), (8, .int (I v8q43))] := hl
            have rv8q43 : rng v8q43 := rv8q43
            have J_44_0 : 0 ≤ v8q43 := J_44_0
            have J_44_1 : v8q43 ≤ 400 := J_44_1
            have J_44_2 : gI σ_J_44 a 4 = z_24 + (z_6 - f + 1) := J_44_2
            have J_44_3 : gI σ_J_44 b 4 = z_28 := J_44_3
            refine lv_iload hx hb dX9_graft_111 (lv_at hl 5 rfl) ?_
            refine lv_iload_n hx hb dX9_graft_113 rfl (lv_at hl 1 rfl) ?_
            refine lv_iload hx hb dX9_graft_114 (lv_at hl 3 rfl) ?_
            refine lv_iadd hx hb dX9_graft_116 ?_
            refine nq_top (I_add _ _) ?_
            refine lv_icmp_ge (tgt := 147) hx hb dX9_graft_117 (by decide) (fun c_45 => ?_) (fun c_45 => ?_)
            · replace c_45 := (I_le (a := x + (z_6 - f + 1)) (b := v8q43) ⟨by omega, by omega⟩ rv8q43).mp c_45
              refine lv_aload_n hx hb dX9_graft_147 rfl (lv_at hl 0 rfl) ?_
              refine ok.getR hO h_a (by decide) k2_2 (by decide) (fun _ _ he hv kk => th_get (ci := 9) (C := RX9) (T := TX9) (N := 5) hx hb hts inX9 hown hK hH he rfl 2 (by decide) fl2 hv dX9_graft_148 kk) ?_
              refine lv_iload_n hx hb dX9_graft_151 rfl (lv_at hl 1 rfl) ?_
              refine lv_iload_n hx hb dX9_graft_152 rfl (lv_at hl 2 rfl) ?_
              refine ok_iast hx hb hK hH hS h00 hO h_a (by decide) k2_2 isA1 rx (by omega) (by omega) rky el1 dX9_graft_153 (fun σ_s_46 H locs hO hF9 hi9 ha9 hH hS => ?_)
              replace hF := hF.tu hF9 (by decide)
              have e_47 : gI σ_s_46 a 4 = z_24 + (z_6 - f + 1) := (hi9 _ _).trans J_44_2
              have e_48 : gI σ_s_46 b 4 = z_28 := (hi9 _ _).trans J_44_3
              refine lv_iconst (v := I 1) hx hb dX9_graft_154 (by decide) ?_
              exact th_zret hx hb hr hlocks hH hS (z := 1) (by omega) ⟨hO, hF, ⟨by omega, by omega⟩, trivial⟩ dX9_graft_155
            · replace c_45 := mt (I_le (a := x + (z_6 - f + 1)) (b := v8q43) ⟨by omega, by omega⟩ rv8q43).mpr c_45
              refine lv_iload hx hb dX9_graft_120 (lv_at hl 5 rfl) ?_
              refine lv_aload_n hx hb dX9_graft_122 rfl (lv_at hl 0 rfl) ?_
              refine ok.getIc hO h_a (by decide) k2_4 J_44_2 (fun _ _ he hv kk => th_get (ci := 9) (C := RX9) (T := TX9) (N := 5) hx hb hts inX9 hown hK hH he rfl 4 (by decide) fl0 hv dX9_graft_123 kk) ?_
              refine lv_icmp_ge (tgt := 147) hx hb dX9_graft_126 (by decide) (fun c_49 => ?_) (fun c_49 => ?_)
              · replace c_49 := (I_le (a := z_24 + (z_6 - f + 1)) (b := v8q43) ⟨by omega, by omega⟩ rv8q43).mp c_49
                refine lv_aload_n hx hb dX9_graft_147 rfl (lv_at hl 0 rfl) ?_
                refine ok.getR hO h_a (by decide) k2_2 (by decide) (fun _ _ he hv kk => th_get (ci := 9) (C := RX9) (T := TX9) (N := 5) hx hb hts inX9 hown hK hH he rfl 2 (by decide) fl2 hv dX9_graft_148 kk) ?_
                refine lv_iload_n hx hb dX9_graft_151 rfl (lv_at hl 1 rfl) ?_
                refine lv_iload_n hx hb dX9_graft_152 rfl (lv_at hl 2 rfl) ?_
                refine ok_iast hx hb hK hH hS h00 hO h_a (by decide) k2_2 isA1 rx (by omega) (by omega) rky el1 dX9_graft_153 (fun σ_s_50 H locs hO hF9 hi9 ha9 hH hS => ?_)
                replace hF := hF.tu hF9 (by decide)
                have e_51 : gI σ_s_50 a 4 = z_24 + (z_6 - f + 1) := (hi9 _ _).trans J_44_2
                have e_52 : gI σ_s_50 b 4 = z_28 := (hi9 _ _).trans J_44_3
                refine lv_iconst (v := I 1) hx hb dX9_graft_154 (by decide) ?_
                exact th_zret hx hb hr hlocks hH hS (z := 1) (by omega) ⟨hO, hF, ⟨by omega, by omega⟩, trivial⟩ dX9_graft_155
              · replace c_49 := mt (I_le (a := z_24 + (z_6 - f + 1)) (b := v8q43) ⟨by omega, by omega⟩ rv8q43).mpr c_49
                refine lv_aload_n hx hb dX9_graft_129 rfl (lv_at hl 0 rfl) ?_
                refine ok.getR hO h_a (by decide) k2_3 (by decide) (fun _ _ he hv kk => th_get (ci := 9) (C := RX9) (T := TX9) (N := 5) hx hb hts inX9 hown hK hH he rfl 3 (by decide) fl3 hv dX9_graft_130 kk) ?_
                refine lv_iload hx hb dX9_graft_133 (lv_at hl 5 rfl) ?_
                refine lv_dup2_11 hx hb dX9_graft_135 rfl rfl ?_
                refine ok_iald hx hb hK hH hO h_a (by decide) k2_3 isA1 rv8q43 (by omega) (by omega) dX9_graft_136 (fun z_53 ez_53 rz_53 el9 => ?_)
                refine lv_iload hx hb dX9_graft_137 (lv_at hl 4 rfl) ?_
                refine lv_iadd hx hb dX9_graft_139 ?_
                refine th_addo (fun z_54 rz_54 hz_54 => ?_)
                refine ok_iast hx hb hK hH hS h00 hO h_a (by decide) k2_3 isA1 rv8q43 (by omega) (by omega) rz_54 el1 dX9_graft_140 (fun σ_s_55 H locs hO hF9 hi9 ha9 hH hS => ?_)
                replace hF := hF.tu hF9 (by decide)
                have e_56 : gI σ_s_55 a 4 = z_24 + (z_6 - f + 1) := (hi9 _ _).trans J_44_2
                have e_57 : gI σ_s_55 b 4 = z_28 := (hi9 _ _).trans J_44_3
                refine lv_iinc (v := I (v8q43 + 1)) (lv' := [(8, .int (I (v8q43 + 1))), (0, .ref a), (1, .int (I x)), (3, .int (I ky)), (6, .int (I (z_6 - f + 1))), (7, .int (I z_34))]) hx hb dX9_graft_141 hl (k := 5) rfl (I_add _ _) (by decide) rfl (fun ls hl => ?_)
                refine lv_goto (tgt := 111) hx hb dX9_graft_144 (by decide) ?_
                exact ihJ_44 (v8q43 + 1) σ_s_55 _ _ _ (by first | omega | (dsimp only; omega)) ⟨hO, hF, hH, hS, lv_sub hl [1, 2, 3, 4, 5, 0] rfl, ⟨by first | omega | (dsimp only; omega), by first | omega | (dsimp only; omega)⟩, by first | omega | (dsimp only; omega), by first | omega | (dsimp only; omega), e_56, e_57⟩
          · replace c_17 := mt (I_le (a := z_14 + (z_6 - f + 1)) (b := 128) ⟨by omega, by omega⟩ (show rng 128 from ⟨by decide, by decide⟩)).mpr c_17
            refine lv_iconst (v := I 0) hx hb dX9_graft_57 (by decide) ?_
            exact th_zret hx hb hr hlocks hH hS (z := 0) (by omega) ⟨hO, hF, ⟨by omega, by omega⟩, trivial⟩ dX9_graft_58

set_option maxHeartbeats 1000000 in
set_option maxRecDepth 100000 in
theorem t2_cut (l : Launch) (G : va_G) (y : Nat → ClassId) (b0 : Nat) (σ : th_M) (E : th_E) (hO : ok y E σ) (a : Nat) (h_a : kd E a = 2) (i : Int) (ri : rng i) (l_i : -1 ≤ i) (u_i : i ≤ 200) : Met l yX9_cut wsX9_cut ({ frames := 2, cells := 0, slots := 0, locals := 88 }) (th_P G y b0 σ [.ref a, .int (I i)]) (th_Qv G b0 (fun σ1 => ok y E σ1 ∧ fr [2] E σ σ1 ∧ (True))) 0 0 (th_A b0) := by
  refine Met.ofW (cc := cX9_cut) (maxL := 3) (ret := none) (by decide) rfl ?_
  intro p e s m args below meth c s₁ B hml hv
  obtain ⟨rfl, hH, hK⟩ := hv
  have hx := B.exec
  have hb := B.bytes
  have hr := B.returns
  have hts := atoms_spec (ws := wsX9_cut) B.pre
  have hown : s.vm.findClass RX9 = some m.cls := findClass_of_methodNamed B.named
  have hlocks := B.notSynchronized
  have h00 : b0 ≤ s.heap.size := hH.1
  have hS : va_S (th_A b0) s.heap s.heap [] := va_S.rf
  have hF : fr [2] E σ σ := fr.rf
  have inX9 : ∀ w ∈ wsX90, w ∈ wsX9_cut := by decide +kernel
  have fl0 := hts (.fieldLink RX9 24 "NestQuery$Tree" "size" "I") (by decide +kernel)
  have hl := lv_entry ([.ref a, .int (I i)]) (n := 3) (Nat.le_of_ble_eq_true rfl)
  rw [lg_entry_eq]
  generalize (lg_sl ([.ref a, .int (I i)]) ++ List.replicate (3 - (lg_sl ([.ref a, .int (I i)])).length) Slot.unset).toArray = ls at hl ⊢
  have hl : lv_has ls 3 [(0, .ref a), (1, .int (I i))] := hl
  refine lv_aload_n hx hb dX9_cut_0 rfl (lv_at hl 0 rfl) ?_
  refine lv_iload_n hx hb dX9_cut_1 rfl (lv_at hl 1 rfl) ?_
  obtain ⟨z_1, e_2, rz_1, lz_1, uz_1⟩ := hO.gi h_a (by decide) k2_4
  obtain ⟨_, hc_3⟩ := hO.cell h_a (by decide) (ci := 9) rfl
  refine th_calli (va_runV (As := [.int (I i)]) (rest := []) ⟨hx, hb, hml, hown, hts⟩ (t_sizeOf l G y b0 σ a (tvE E σ a 128) i (hO.isT2 h_a) (show rng i from ri)) (cwV 1 hts gX9_cut_X9_sizeOf rfl rfl rfl (by decide +kernel) ⟨Nat.le_of_ble_eq_true rfl, Nat.le_of_ble_eq_true rfl⟩) (th_PV hK hH rfl hc_3) rfl rfl hl.1 rfl (lv_room (Nat.le_of_ble_eq_true rfl)) dX9_cut_2 ⟨Nat.le_of_ble_eq_true rfl, Nat.le_of_ble_eq_true rfl⟩) hS (fun z_6 σ_s_5 H locs rz_6 hw_4 hH hS => ?_)
  obtain ⟨e9, hw_4⟩ := hw_4
  replace e9 := e9.symm
  subst e9
  have hw_4 : ((0 ≤ i ∧ i < (gI σ a 4)) ∧ 1 ≤ z_6 ∧ i + z_6 ≤ (gI σ a 4)) ∨ (z_6 = 0 ∧ ¬ (0 ≤ i ∧ i < (gI σ a 4))) := hw_4
  refine lv_istore_n (lv' := [(2, .int (I z_6)), (0, .ref a), (1, .int (I i))]) hx hb dX9_cut_5 rfl hl (by decide) rfl (fun ls hl => ?_)
  refine lv_iload_n hx hb dX9_cut_6 rfl (lv_at hl 0 rfl) ?_
  refine lv_if_le (tgt := 37) hx hb dX9_cut_7 (by decide) (fun c_7 => ?_) (fun c_7 => ?_)
  · replace c_7 := (I_le (a := z_6) (b := 0) rz_6 (show rng 0 from ⟨by decide, by decide⟩)).mp c_7
    exact th_vret hx hb hr hlocks hH hS ⟨hO, hF, trivial⟩ dX9_cut_37
  · replace c_7 := mt (I_le (a := z_6) (b := 0) rz_6 (show rng 0 from ⟨by decide, by decide⟩)).mpr c_7
    refine lv_aload_n hx hb dX9_cut_10 rfl (lv_at hl 1 rfl) ?_
    refine lv_aload_n hx hb dX9_cut_11 rfl (lv_at hl 1 rfl) ?_
    refine lv_iload_n hx hb dX9_cut_12 rfl (lv_at hl 2 rfl) ?_
    refine lv_iload_n hx hb dX9_cut_13 rfl (lv_at hl 0 rfl) ?_
    refine lv_iadd hx hb dX9_cut_14 ?_
    refine nq_top (I_add _ _) ?_
    refine lv_iload_n hx hb dX9_cut_15 rfl (lv_at hl 2 rfl) ?_
    refine lv_aload_n hx hb dX9_cut_16 rfl (lv_at hl 1 rfl) ?_
    refine ok.getIc hO h_a (by decide) k2_4 e_2 (fun _ _ he hv kk => th_get (ci := 9) (C := RX9) (T := TX9) (N := 5) hx hb hts inX9 hown hK hH he rfl 4 (by decide) fl0 hv dX9_cut_17 kk) ?_
    refine lv_iload_n hx hb dX9_cut_20 rfl (lv_at hl 2 rfl) ?_
    refine lv_isub hx hb dX9_cut_21 ?_
    refine nq_top (I_sub _ _) ?_
    refine lv_iload_n hx hb dX9_cut_22 rfl (lv_at hl 0 rfl) ?_
    refine lv_isub hx hb dX9_cut_23 ?_
    refine nq_top (I_sub _ _) ?_
    obtain ⟨_, hc_8⟩ := hO.cell h_a (by decide) (ci := 9) rfl
    refine th_callv (va_runV (As := [.ref a, .int (I (i + z_6)), .int (I i), .int (I (z_1 - i - z_6))]) (rest := []) ⟨hx, hb, hml, hown, hts⟩ (t22_copyFrom l G y b0 σ E hO a h_a a h_a (i + z_6) (show rng (i + z_6) from ⟨by omega, by omega⟩) (by omega) (by omega) i (show rng i from ri) (by omega) (by omega) (z_1 - i - z_6) (show rng (z_1 - i - z_6) from ⟨by omega, by omega⟩) (by omega) (by omega)) (cwV 4 hts gX9_cut_X9_copyFrom rfl rfl rfl (by decide +kernel) ⟨Nat.le_of_ble_eq_true rfl, Nat.le_of_ble_eq_true rfl⟩) (th_PV hK hH rfl hc_8) rfl rfl hl.1 rfl (lv_room (Nat.le_of_ble_eq_true rfl)) dX9_cut_24 ⟨Nat.le_of_ble_eq_true rfl, Nat.le_of_ble_eq_true rfl⟩) hS (fun σ_s_10 H locs hw_9 hH hS => ?_)
    obtain ⟨hO9, hF9, hw_9⟩ := hw_9
    replace hO := hO9
    replace hF := hF.tu hF9 (by decide)
    have hw_9 : gI σ_s_10 a 4 = gI σ a 4 := hw_9
    refine lv_aload_n hx hb dX9_cut_27 rfl (lv_at hl 1 rfl) ?_
    refine lv_dup hx hb dX9_cut_28 rfl ?_
    refine ok.getI hO h_a (by decide) k2_4 (fun _ _ he hv kk => th_get (ci := 9) (C := RX9) (T := TX9) (N := 5) hx hb hts inX9 hown hK hH he rfl 4 (by decide) fl0 hv dX9_cut_29 kk) (fun z_11 e_12 rz_11 lz_11 uz_11 => ?_)
    refine lv_iload_n hx hb dX9_cut_32 rfl (lv_at hl 0 rfl) ?_
    refine lv_isub hx hb dX9_cut_33 ?_
    refine nq_top (I_sub _ _) ?_
    refine ok.putI hO h_a (by decide) k2_4 ⟨by omega, by omega⟩ (by omega) (by omega) (fun _ he hl9 kk => th_put (ci := 9) (v := .int (I (z_11 - z_6))) (ty := .int) (C := RX9) (T := TX9) (N := 5) hx hb hts inX9 tyX9 tyX9_ok nmX9 hown hK hH hS h00 he rfl 4 (by decide) fl0 rfl (by decide +kernel) rfl rfl hl9 dX9_cut_34 kk) (fun σ_s_13 H locs hO hF9 hg9 hi9 ha9 hH hS => ?_)
    replace hF := hF.tu hF9 (by decide)
    have e_14 := hg9
    exact th_vret hx hb hr hlocks hH hS ⟨hO, hF, trivial⟩ dX9_cut_37

set_option maxHeartbeats 1000000 in
set_option maxRecDepth 100000 in
theorem t21_replace (l : Launch) (G : va_G) (y : Nat → ClassId) (b0 : Nat) (σ : th_M) (E : th_E) (hO : ok y E σ) (a : Nat) (h_a : kd E a = 2) (i : Int) (ri : rng i) (l_i : -1 ≤ i) (u_i : i ≤ 200) (b : Nat) (h_b : kd E b = 1) (f : Int) (rf : rng f) (l_f : -1 ≤ f) (u_f : f ≤ 200) : Met l yX9_replace wsX9_replace ({ frames := 3, cells := 0, slots := 0, locals := 120 }) (th_P G y b0 σ [.ref a, .int (I i), .ref b, .int (I f)]) (th_Qi G b0 (fun r σ1 => ok y E σ1 ∧ fr [2] E σ σ1 ∧ (0 ≤ r ∧ r ≤ 1) ∧ (True))) 0 0 (th_A b0) := by
  refine Met.ofW (cc := cX9_replace) (maxL := 6) (ret := (some .boolean)) (by decide) rfl ?_
  intro p e s m args below meth c s₁ B hml hv
  obtain ⟨rfl, hH, hK⟩ := hv
  have hx := B.exec
  have hb := B.bytes
  have hr := B.returns
  have hts := atoms_spec (ws := wsX9_replace) B.pre
  have hown : s.vm.findClass RX9 = some m.cls := findClass_of_methodNamed B.named
  have hlocks := B.notSynchronized
  have h00 : b0 ≤ s.heap.size := hH.1
  have hS : va_S (th_A b0) s.heap s.heap [] := va_S.rf
  have hF : fr [2] E σ σ := fr.rf
  have hl := lv_entry ([.ref a, .int (I i), .ref b, .int (I f)]) (n := 6) (Nat.le_of_ble_eq_true rfl)
  rw [lg_entry_eq]
  generalize (lg_sl ([.ref a, .int (I i), .ref b, .int (I f)]) ++ List.replicate (6 - (lg_sl ([.ref a, .int (I i), .ref b, .int (I f)])).length) Slot.unset).toArray = ls at hl ⊢
  have hl : lv_has ls 6 [(0, .ref a), (1, .int (I i)), (2, .ref b), (3, .int (I f))] := hl
  refine lv_aload_n hx hb dX9_replace_0 rfl (lv_at hl 0 rfl) ?_
  refine lv_iload_n hx hb dX9_replace_1 rfl (lv_at hl 1 rfl) ?_
  obtain ⟨z_1, e_2, rz_1, lz_1, uz_1⟩ := hO.gi h_a (by decide) k2_4
  obtain ⟨_, hc_3⟩ := hO.cell h_a (by decide) (ci := 9) rfl
  refine th_calli (va_runV (As := [.int (I i)]) (rest := []) ⟨hx, hb, hml, hown, hts⟩ (t_depthAt l G y b0 σ a (tvE E σ a 128) i (hO.isT2 h_a) (show rng i from ri)) (cwV 1 hts gX9_replace_X9_depthAt rfl rfl rfl (by decide +kernel) ⟨Nat.le_of_ble_eq_true rfl, Nat.le_of_ble_eq_true rfl⟩) (th_PV hK hH rfl hc_3) rfl rfl hl.1 rfl (lv_room (Nat.le_of_ble_eq_true rfl)) dX9_replace_2 ⟨Nat.le_of_ble_eq_true rfl, Nat.le_of_ble_eq_true rfl⟩) hS (fun z_6 σ_s_5 H locs rz_6 hw_4 hH hS => ?_)
  obtain ⟨e9, hw_4⟩ := hw_4
  replace e9 := e9.symm
  subst e9
  have hw_4 : ((0 ≤ i ∧ i < (gI σ a 4)) ∧ z_6 = ((aF σ (ad E a 3)) i.toNat).toInt) ∨ (z_6 = -1 ∧ ¬ (0 ≤ i ∧ i < (gI σ a 4))) := hw_4
  refine lv_istore (lv' := [(4, .int (I z_6)), (0, .ref a), (1, .int (I i)), (2, .ref b), (3, .int (I f))]) hx hb dX9_replace_5 hl (by decide) rfl (fun ls hl => ?_)
  refine lv_aload_n hx hb dX9_replace_7 rfl (lv_at hl 1 rfl) ?_
  refine lv_iload_n hx hb dX9_replace_8 rfl (lv_at hl 2 rfl) ?_
  obtain ⟨_, hc_7⟩ := hO.cell h_a (by decide) (ci := 9) rfl
  refine th_calli (va_runV (As := [.int (I i)]) (rest := []) ⟨hx, hb, hml, hown, hts⟩ (t_keyAt l G y b0 σ a (tvE E σ a 128) i (hO.isT2 h_a) (show rng i from ri)) (cwV 1 hts gX9_replace_X9_keyAt rfl rfl rfl (by decide +kernel) ⟨Nat.le_of_ble_eq_true rfl, Nat.le_of_ble_eq_true rfl⟩) (th_PV hK hH rfl hc_7) rfl rfl hl.1 rfl (lv_room (Nat.le_of_ble_eq_true rfl)) dX9_replace_9 ⟨Nat.le_of_ble_eq_true rfl, Nat.le_of_ble_eq_true rfl⟩) hS (fun z_10 σ_s_9 H locs rz_10 hw_8 hH hS => ?_)
  obtain ⟨e9, hw_8⟩ := hw_8
  replace e9 := e9.symm
  subst e9
  refine lv_istore (lv' := [(5, .int (I z_10)), (4, .int (I z_6)), (0, .ref a), (1, .int (I i)), (2, .ref b), (3, .int (I f))]) hx hb dX9_replace_12 hl (by decide) rfl (fun ls hl => ?_)
  refine lv_aload_n hx hb dX9_replace_14 rfl (lv_at hl 2 rfl) ?_
  refine lv_iload_n hx hb dX9_replace_15 rfl (lv_at hl 3 rfl) ?_
  obtain ⟨_, hc_11⟩ := hO.cell h_a (by decide) (ci := 9) rfl
  refine th_callv (va_runV (As := [.int (I i)]) (rest := []) ⟨hx, hb, hml, hown, hts⟩ (t2_cut l G y b0 σ E hO a h_a i (show rng i from ri) (by omega) (by omega)) (cwV 1 hts gX9_replace_X9_cut rfl rfl rfl (by decide +kernel) ⟨Nat.le_of_ble_eq_true rfl, Nat.le_of_ble_eq_true rfl⟩) (th_PV hK hH rfl hc_11) rfl rfl hl.1 rfl (lv_room (Nat.le_of_ble_eq_true rfl)) dX9_replace_16 ⟨Nat.le_of_ble_eq_true rfl, Nat.le_of_ble_eq_true rfl⟩) hS (fun σ_s_13 H locs hw_12 hH hS => ?_)
  obtain ⟨hO9, hF9, hw_12⟩ := hw_12
  replace hO := hO9
  replace hF := hF.tu hF9 (by decide)
  refine lv_aload_n hx hb dX9_replace_19 rfl (lv_at hl 2 rfl) ?_
  refine lv_iload_n hx hb dX9_replace_20 rfl (lv_at hl 3 rfl) ?_
  refine lv_iload hx hb dX9_replace_21 (lv_at hl 1 rfl) ?_
  refine lv_iload hx hb dX9_replace_23 (lv_at hl 0 rfl) ?_
  refine lv_aload_n hx hb dX9_replace_25 rfl (lv_at hl 4 rfl) ?_
  refine lv_iload_n hx hb dX9_replace_26 rfl (lv_at hl 5 rfl) ?_
  obtain ⟨_, hc_14⟩ := hO.cell h_a (by decide) (ci := 9) rfl
  refine th_calli (va_runV (As := [.int (I i), .int (I z_6), .int (I z_10), .ref b, .int (I f)]) (rest := []) ⟨hx, hb, hml, hown, hts⟩ (t21_graft l G y b0 σ_s_13 E hO a h_a i (show rng i from ri) (by omega) (by omega) z_6 (show rng z_6 from rz_6) z_10 (show rng z_10 from rz_10) b h_b f (show rng f from rf) (by omega) (by omega)) (cwV 5 hts gX9_replace_X9_graft rfl rfl rfl (by decide +kernel) ⟨Nat.le_of_ble_eq_true rfl, Nat.le_of_ble_eq_true rfl⟩) (th_PV hK hH rfl hc_14) rfl rfl hl.1 rfl (lv_room (Nat.le_of_ble_eq_true rfl)) dX9_replace_27 ⟨Nat.le_of_ble_eq_true rfl, Nat.le_of_ble_eq_true rfl⟩) hS (fun z_17 σ_s_16 H locs rz_17 hw_15 hH hS => ?_)
  obtain ⟨hO9, hF9, bhw_15, hw_15⟩ := hw_15
  replace hO := hO9
  replace hF := hF.tu hF9 (by decide)
  exact th_zret hx hb hr hlocks hH hS (z := z_17) (by omega) ⟨hO, hF, ⟨by omega, by omega⟩, trivial⟩ dX9_replace_30

set_option maxHeartbeats 1000000 in
set_option maxRecDepth 100000 in
theorem t21_behind (l : Launch) (G : va_G) (y : Nat → ClassId) (b0 : Nat) (σ : th_M) (E : th_E) (hO : ok y E σ) (a : Nat) (h_a : kd E a = 2) (i : Int) (ri : rng i) (ky : Int) (rky : rng ky) (b : Nat) (h_b : kd E b = 1) (f : Int) (rf : rng f) (l_f : -1 ≤ f) (u_f : f ≤ 200) : Met l yX9_graftBehindAll wsX9_graftBehindAll ({ frames := 3, cells := 0, slots := 0, locals := 120 }) (th_P G y b0 σ [.ref a, .int (I i), .int (I ky), .ref b, .int (I f)]) (th_Qi G b0 (fun r σ1 => ok y E σ1 ∧ fr [2] E σ σ1 ∧ (0 ≤ r ∧ r ≤ 1) ∧ (True))) 0 0 (th_A b0) := by
  refine Met.ofW (cc := cX9_graftBehindAll) (maxL := 5) (ret := (some .boolean)) (by decide) rfl ?_
  intro p e s m args below meth c s₁ B hml hv
  obtain ⟨rfl, hH, hK⟩ := hv
  have hx := B.exec
  have hb := B.bytes
  have hr := B.returns
  have hts := atoms_spec (ws := wsX9_graftBehindAll) B.pre
  have hown : s.vm.findClass RX9 = some m.cls := findClass_of_methodNamed B.named
  have hlocks := B.notSynchronized
  have h00 : b0 ≤ s.heap.size := hH.1
  have hS : va_S (th_A b0) s.heap s.heap [] := va_S.rf
  have hF : fr [2] E σ σ := fr.rf
  have hl := lv_entry ([.ref a, .int (I i), .int (I ky), .ref b, .int (I f)]) (n := 5) (Nat.le_of_ble_eq_true rfl)
  rw [lg_entry_eq]
  generalize (lg_sl ([.ref a, .int (I i), .int (I ky), .ref b, .int (I f)]) ++ List.replicate (5 - (lg_sl ([.ref a, .int (I i), .int (I ky), .ref b, .int (I f)])).length) Slot.unset).toArray = ls at hl ⊢
  have hl : lv_has ls 5 [(0, .ref a), (1, .int (I i)), (2, .int (I ky)), (3, .ref b), (4, .int (I f))] := hl
  refine lv_aload_n hx hb dX9_graftBehindAll_0 rfl (lv_at hl 0 rfl) ?_
  refine lv_iload_n hx hb dX9_graftBehindAll_1 rfl (lv_at hl 1 rfl) ?_
  obtain ⟨z_1, e_2, rz_1, lz_1, uz_1⟩ := hO.gi h_a (by decide) k2_4
  obtain ⟨_, hc_3⟩ := hO.cell h_a (by decide) (ci := 9) rfl
  refine th_calli (va_runV (As := [.int (I i)]) (rest := []) ⟨hx, hb, hml, hown, hts⟩ (t_has l G y b0 σ a (tvE E σ a 128) i (hO.isT2 h_a) (show rng i from ri)) (cwV 1 hts gX9_graftBehindAll_X9_has rfl rfl rfl (by decide +kernel) ⟨Nat.le_of_ble_eq_true rfl, Nat.le_of_ble_eq_true rfl⟩) (th_PV hK hH rfl hc_3) rfl rfl hl.1 rfl (lv_room (Nat.le_of_ble_eq_true rfl)) dX9_graftBehindAll_2 ⟨Nat.le_of_ble_eq_true rfl, Nat.le_of_ble_eq_true rfl⟩) hS (fun z_6 σ_s_5 H locs rz_6 hw_4 hH hS => ?_)
  obtain ⟨e9, hw_4⟩ := hw_4
  replace e9 := e9.symm
  subst e9
  have hw_4 : (z_6 = 1 ∧ 0 ≤ i ∧ i < (gI σ a 4)) ∨ (z_6 = 0 ∧ ¬ (0 ≤ i ∧ i < (gI σ a 4))) := hw_4
  refine lv_if_eq (tgt := 37) hx hb dX9_graftBehindAll_5 (by decide) (fun c_7 => ?_) (fun c_7 => ?_)
  · replace c_7 := (I_eq (a := z_6) (b := 0) rz_6 (show rng 0 from ⟨by decide, by decide⟩)).mp c_7
    refine lv_iconst (v := I 0) hx hb dX9_graftBehindAll_37 (by decide) ?_
    exact th_zret hx hb hr hlocks hH hS (z := 0) (by omega) ⟨hO, hF, ⟨by omega, by omega⟩, trivial⟩ dX9_graftBehindAll_38
  · replace c_7 := mt (I_eq (a := z_6) (b := 0) rz_6 (show rng 0 from ⟨by decide, by decide⟩)).mpr c_7
    refine lv_aload_n hx hb dX9_graftBehindAll_8 rfl (lv_at hl 0 rfl) ?_
    refine lv_aload_n hx hb dX9_graftBehindAll_9 rfl (lv_at hl 0 rfl) ?_
    refine lv_iload_n hx hb dX9_graftBehindAll_10 rfl (lv_at hl 1 rfl) ?_
    obtain ⟨_, hc_8⟩ := hO.cell h_a (by decide) (ci := 9) rfl
    refine th_calli (va_runV (As := [.int (I i)]) (rest := [.ref a]) ⟨hx, hb, hml, hown, hts⟩ (t_end l G y b0 σ a (tvE E σ a 128) i (hO.isT2 h_a) (show rng i from ri)) (cwV 1 hts gX9_graftBehindAll_X9_end rfl rfl rfl (by decide +kernel) ⟨Nat.le_of_ble_eq_true rfl, Nat.le_of_ble_eq_true rfl⟩) (th_PV hK hH rfl hc_8) rfl rfl hl.1 rfl (lv_room (Nat.le_of_ble_eq_true rfl)) dX9_graftBehindAll_11 ⟨Nat.le_of_ble_eq_true rfl, Nat.le_of_ble_eq_true rfl⟩) hS (fun z_11 σ_s_10 H locs rz_11 hw_9 hH hS => ?_)
    obtain ⟨e9, hw_9⟩ := hw_9
    replace e9 := e9.symm
    subst e9
    have hw_9 : ((0 ≤ i ∧ i < (gI σ a 4)) ∧ i ≤ z_11 ∧ z_11 < (gI σ a 4)) ∨ (z_11 = -1 ∧ ¬ (0 ≤ i ∧ i < (gI σ a 4))) := hw_9
    refine lv_iconst (v := I 1) hx hb dX9_graftBehindAll_14 (by decide) ?_
    refine lv_iadd hx hb dX9_graftBehindAll_15 ?_
    refine nq_top (I_add _ _) ?_
    refine lv_aload_n hx hb dX9_graftBehindAll_16 rfl (lv_at hl 0 rfl) ?_
    refine lv_iload_n hx hb dX9_graftBehindAll_17 rfl (lv_at hl 1 rfl) ?_
    obtain ⟨_, hc_12⟩ := hO.cell h_a (by decide) (ci := 9) rfl
    refine th_calli (va_runV (As := [.int (I i)]) (rest := [.int (I (z_11 + 1)), .ref a]) ⟨hx, hb, hml, hown, hts⟩ (t_depthAt l G y b0 σ a (tvE E σ a 128) i (hO.isT2 h_a) (show rng i from ri)) (cwV 1 hts gX9_graftBehindAll_X9_depthAt rfl rfl rfl (by decide +kernel) ⟨Nat.le_of_ble_eq_true rfl, Nat.le_of_ble_eq_true rfl⟩) (th_PV hK hH rfl hc_12) rfl rfl hl.1 rfl (lv_room (Nat.le_of_ble_eq_true rfl)) dX9_graftBehindAll_18 ⟨Nat.le_of_ble_eq_true rfl, Nat.le_of_ble_eq_true rfl⟩) hS (fun z_15 σ_s_14 H locs rz_15 hw_13 hH hS => ?_)
    obtain ⟨e9, hw_13⟩ := hw_13
    replace e9 := e9.symm
    subst e9
    have hw_13 : ((0 ≤ i ∧ i < (gI σ a 4)) ∧ z_15 = ((aF σ (ad E a 3)) i.toNat).toInt) ∨ (z_15 = -1 ∧ ¬ (0 ≤ i ∧ i < (gI σ a 4))) := hw_13
    refine lv_iconst (v := I 1) hx hb dX9_graftBehindAll_21 (by decide) ?_
    refine lv_iadd hx hb dX9_graftBehindAll_22 ?_
    refine th_addo (fun z_16 rz_16 hz_16 => ?_)
    refine lv_iload_n hx hb dX9_graftBehindAll_23 rfl (lv_at hl 2 rfl) ?_
    refine lv_aload_n hx hb dX9_graftBehindAll_24 rfl (lv_at hl 3 rfl) ?_
    refine lv_iload hx hb dX9_graftBehindAll_25 (lv_at hl 4 rfl) ?_
    obtain ⟨_, hc_17⟩ := hO.cell h_a (by decide) (ci := 9) rfl
    refine th_calli (va_runV (As := [.int (I (z_11 + 1)), .int (I z_16), .int (I ky), .ref b, .int (I f)]) (rest := []) ⟨hx, hb, hml, hown, hts⟩ (t21_graft l G y b0 σ E hO a h_a (z_11 + 1) (show rng (z_11 + 1) from ⟨by omega, by omega⟩) (by omega) (by omega) z_16 (show rng z_16 from rz_16) ky (show rng ky from rky) b h_b f (show rng f from rf) (by omega) (by omega)) (cwV 5 hts gX9_graftBehindAll_X9_graft rfl rfl rfl (by decide +kernel) ⟨Nat.le_of_ble_eq_true rfl, Nat.le_of_ble_eq_true rfl⟩) (th_PV hK hH rfl hc_17) rfl rfl hl.1 rfl (lv_room (Nat.le_of_ble_eq_true rfl)) dX9_graftBehindAll_27 ⟨Nat.le_of_ble_eq_true rfl, Nat.le_of_ble_eq_true rfl⟩) hS (fun z_20 σ_s_19 H locs rz_20 hw_18 hH hS => ?_)
    obtain ⟨hO9, hF9, bhw_18, hw_18⟩ := hw_18
    replace hO := hO9
    replace hF := hF.tu hF9 (by decide)
    refine lv_if_eq (tgt := 37) hx hb dX9_graftBehindAll_30 (by decide) (fun c_21 => ?_) (fun c_21 => ?_)
    · replace c_21 := (I_eq (a := z_20) (b := 0) rz_20 (show rng 0 from ⟨by decide, by decide⟩)).mp c_21
      refine lv_iconst (v := I 0) hx hb dX9_graftBehindAll_37 (by decide) ?_
      exact th_zret hx hb hr hlocks hH hS (z := 0) (by omega) ⟨hO, hF, ⟨by omega, by omega⟩, trivial⟩ dX9_graftBehindAll_38
    · replace c_21 := mt (I_eq (a := z_20) (b := 0) rz_20 (show rng 0 from ⟨by decide, by decide⟩)).mpr c_21
      refine lv_iconst (v := I 1) hx hb dX9_graftBehindAll_33 (by decide) ?_
      refine lv_goto (tgt := 38) hx hb dX9_graftBehindAll_34 (by decide) ?_
      exact th_zret hx hb hr hlocks hH hS (z := 1) (by omega) ⟨hO, hF, ⟨by omega, by omega⟩, trivial⟩ dX9_graftBehindAll_38

set_option maxHeartbeats 1000000 in
set_option maxRecDepth 100000 in
theorem t22_overlay (l : Launch) (G : va_G) (y : Nat → ClassId) (b0 : Nat) (σ : th_M) (E : th_E) (hO : ok y E σ) (a : Nat) (h_a : kd E a = 2) (x : Int) (rx : rng x) (l_x : -1 ≤ x) (u_x : x ≤ 200) (b : Nat) (h_b : kd E b = 2) : Met l yX9_overlay wsX9_overlay ({ frames := 2, cells := 0, slots := 0, locals := 88 }) (th_P G y b0 σ [.ref a, .int (I x), .ref b]) (th_Qv G b0 (fun σ1 => ok y E σ1 ∧ fr [2] E σ σ1 ∧ (True))) 0 0 (th_A b0) := by
  refine Met.ofW (cc := cX9_overlay) (maxL := 3) (ret := none) (by decide) rfl ?_
  intro p e s m args below meth c s₁ B hml hv
  obtain ⟨rfl, hH, hK⟩ := hv
  have hx := B.exec
  have hb := B.bytes
  have hr := B.returns
  have hts := atoms_spec (ws := wsX9_overlay) B.pre
  have hown : s.vm.findClass RX9 = some m.cls := findClass_of_methodNamed B.named
  have hlocks := B.notSynchronized
  have h00 : b0 ≤ s.heap.size := hH.1
  have hS : va_S (th_A b0) s.heap s.heap [] := va_S.rf
  have hF : fr [2] E σ σ := fr.rf
  have inX9 : ∀ w ∈ wsX90, w ∈ wsX9_overlay := by decide +kernel
  have fl0 := hts (.fieldLink RX9 24 "NestQuery$Tree" "size" "I") (by decide +kernel)
  have hl := lv_entry ([.ref a, .int (I x), .ref b]) (n := 3) (Nat.le_of_ble_eq_true rfl)
  rw [lg_entry_eq]
  generalize (lg_sl ([.ref a, .int (I x), .ref b]) ++ List.replicate (3 - (lg_sl ([.ref a, .int (I x), .ref b])).length) Slot.unset).toArray = ls at hl ⊢
  have hl : lv_has ls 3 [(0, .ref a), (1, .int (I x)), (2, .ref b)] := hl
  refine lv_iload_n hx hb dX9_overlay_0 rfl (lv_at hl 1 rfl) ?_
  refine lv_if_lt (tgt := 28) hx hb dX9_overlay_1 (by decide) (fun c_1 => ?_) (fun c_1 => ?_)
  · replace c_1 := (I_lt (a := x) (b := 0) rx (show rng 0 from ⟨by decide, by decide⟩)).mp c_1
    exact th_vret hx hb hr hlocks hH hS ⟨hO, hF, trivial⟩ dX9_overlay_28
  · replace c_1 := mt (I_lt (a := x) (b := 0) rx (show rng 0 from ⟨by decide, by decide⟩)).mpr c_1
    refine lv_iload_n hx hb dX9_overlay_4 rfl (lv_at hl 1 rfl) ?_
    refine lv_aload_n hx hb dX9_overlay_5 rfl (lv_at hl 2 rfl) ?_
    refine ok.getI hO h_b (by decide) k2_4 (fun _ _ he hv kk => th_get (ci := 9) (C := RX9) (T := TX9) (N := 5) hx hb hts inX9 hown hK hH he rfl 4 (by decide) fl0 hv dX9_overlay_6 kk) (fun z_2 e_3 rz_2 lz_2 uz_2 => ?_)
    refine lv_iadd hx hb dX9_overlay_9 ?_
    refine nq_top (I_add _ _) ?_
    refine lv_aload_n hx hb dX9_overlay_10 rfl (lv_at hl 0 rfl) ?_
    refine ok.getI hO h_a (by decide) k2_4 (fun _ _ he hv kk => th_get (ci := 9) (C := RX9) (T := TX9) (N := 5) hx hb hts inX9 hown hK hH he rfl 4 (by decide) fl0 hv dX9_overlay_11 kk) (fun z_4 e_5 rz_4 lz_4 uz_4 => ?_)
    refine lv_icmp_gt (tgt := 28) hx hb dX9_overlay_14 (by decide) (fun c_6 => ?_) (fun c_6 => ?_)
    · replace c_6 := (I_lt (a := z_4) (b := x + z_2) rz_4 ⟨by omega, by omega⟩).mp c_6
      exact th_vret hx hb hr hlocks hH hS ⟨hO, hF, trivial⟩ dX9_overlay_28
    · replace c_6 := mt (I_lt (a := z_4) (b := x + z_2) rz_4 ⟨by omega, by omega⟩).mpr c_6
      refine lv_aload_n hx hb dX9_overlay_17 rfl (lv_at hl 0 rfl) ?_
      refine lv_aload_n hx hb dX9_overlay_18 rfl (lv_at hl 2 rfl) ?_
      refine lv_iconst (v := I 0) hx hb dX9_overlay_19 (by decide) ?_
      refine lv_iload_n hx hb dX9_overlay_20 rfl (lv_at hl 1 rfl) ?_
      refine lv_aload_n hx hb dX9_overlay_21 rfl (lv_at hl 2 rfl) ?_
      refine ok.getIc hO h_b (by decide) k2_4 e_3 (fun _ _ he hv kk => th_get (ci := 9) (C := RX9) (T := TX9) (N := 5) hx hb hts inX9 hown hK hH he rfl 4 (by decide) fl0 hv dX9_overlay_22 kk) ?_
      obtain ⟨_, hc_7⟩ := hO.cell h_a (by decide) (ci := 9) rfl
      refine th_callv (va_runV (As := [.ref b, .int (I 0), .int (I x), .int (I z_2)]) (rest := []) ⟨hx, hb, hml, hown, hts⟩ (t22_copyFrom l G y b0 σ E hO a h_a b h_b 0 (show rng 0 from (show rng 0 from ⟨by decide, by decide⟩)) (by omega) (by omega) x (show rng x from rx) (by omega) (by omega) z_2 (show rng z_2 from rz_2) (by omega) (by omega)) (cwV 4 hts gX9_overlay_X9_copyFrom rfl rfl rfl (by decide +kernel) ⟨Nat.le_of_ble_eq_true rfl, Nat.le_of_ble_eq_true rfl⟩) (th_PV hK hH rfl hc_7) rfl rfl hl.1 rfl (lv_room (Nat.le_of_ble_eq_true rfl)) dX9_overlay_25 ⟨Nat.le_of_ble_eq_true rfl, Nat.le_of_ble_eq_true rfl⟩) hS (fun σ_s_9 H locs hw_8 hH hS => ?_)
      obtain ⟨hO9, hF9, hw_8⟩ := hw_8
      replace hO := hO9
      replace hF := hF.tu hF9 (by decide)
      have hw_8 : gI σ_s_9 a 4 = gI σ a 4 := hw_8
      exact th_vret hx hb hr hlocks hH hS ⟨hO, hF, trivial⟩ dX9_overlay_28
