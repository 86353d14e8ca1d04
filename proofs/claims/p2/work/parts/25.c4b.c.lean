set_option maxHeartbeats 4000000 in
set_option maxRecDepth 100000 in
theorem m_little (l : Launch) (G : va_G) (y : Nat → ClassId) (b0 : Nat) (σ : th_M) (E : th_E) (hO : ok y E σ) (a : Nat) (h_a : kd E a = 13) (f1 : Nat → Int32) (ef1 : aF σ (ad E a 1) = f1) (Bf : Int → Int) (hsr : sr E σ a Bf) (hy0 : wf f1 0 (mS f1 0)) (hy1 : 1 ≤ mS f1 0 ∧ mS f1 0 ≤ 60) (hy2 : 0 ≤ gI σ a 17 ∧ gI σ a 17 ≤ gI σ a 13 ∧ gI σ a 13 ≤ gI σ a 11 ∧ gI σ a 11 ≤ 400) (hy3 : -1 ≤ gI σ a 30 ∧ gI σ a 30 < mS f1 0) : Met l yX11_little wsX11_little ({ frames := 5, cells := 0, slots := 0, locals := 141 }) (th_P G y b0 σ [.ref a]) (th_Qi G b0 (fun r σ1 => ok y E σ1 ∧ fr [13] E σ σ1 ∧ fm [13, 14, 15, 16, 17, 18, 19, 20, 27] E σ σ1 a ∧ (0 ≤ r ∧ r ≤ 1) ∧ (gI σ a 13 ≤ gI σ1 a 13 ∧ gI σ1 a 13 ≤ gI σ a 11 ∧ 0 ≤ gI σ1 a 17 ∧ gI σ1 a 17 ≤ gI σ1 a 13 ∧ pgo (gI σ1 a 19) (gI σ1 a 14) (gI σ a 13) (gI σ1 a 13)))) 0 0 (th_A b0) := by
  refine Met.ofW (cc := cX11_little) (maxL := 6) (ret := (some .boolean)) (by decide) rfl ?_
  intro p e s m args below meth c s₁ B hml hv
  obtain ⟨rfl, hH, hK⟩ := hv
  have hx := B.exec
  have hb := B.bytes
  have hr := B.returns
  have hts := atoms_spec (ws := wsX11_little) B.pre
  have hown : s.vm.findClass RX11 = some m.cls := findClass_of_methodNamed B.named
  have hlocks := B.notSynchronized
  have h00 : b0 ≤ s.heap.size := hH.1
  have hS : va_S (th_A b0) s.heap s.heap [] := va_S.rf
  have hF : fr [13] E σ σ := fr.rf
  have hM : fm [13, 14, 15, 16, 17, 18, 19, 20, 27] E σ σ a := fm.rf
  have inX11 : ∀ w ∈ wsX110, w ∈ wsX11_little := by decide +kernel
  have fl0 := hts (.fieldLink RX11 162 "NestQueryModel" "bad" "I") (by decide +kernel)
  have fl1 := hts (.fieldLink RX11 276 "NestQueryModel" "littles" "I") (by decide +kernel)
  have fl2 := hts (.fieldLink RX11 316 "NestQueryModel" "asked" "I") (by decide +kernel)
  have fl3 := hts (.fieldLink RX11 9 "NestQueryModel" "tree" "[I") (by decide +kernel)
  have fl4 := hts (.fieldLink RX11 133 "NestQueryModel" "begins" "I") (by decide +kernel)
  have fl5 := hts (.fieldLink RX11 136 "NestQueryModel" "token" "I") (by decide +kernel)
  have fl6 := hts (.fieldLink RX11 300 "NestQueryModel" "isGone" "Z") (by decide +kernel)
  have hl := lv_entry ([.ref a]) (n := 6) (Nat.le_of_ble_eq_true rfl)
  rw [lg_entry_eq]
  generalize (lg_sl ([.ref a]) ++ List.replicate (6 - (lg_sl ([.ref a])).length) Slot.unset).toArray = ls at hl ⊢
  have hl : lv_has ls 6 [(0, .ref a)] := hl
  obtain ⟨a110, ea110, ra110, la110, ua110⟩ := hO.gi h_a (by decide) k13_11
  obtain ⟨a130, ea130, ra130, la130, ua130⟩ := hO.gi h_a (by decide) k13_13
  obtain ⟨a140, ea140, ra140, la140, ua140⟩ := hO.gi h_a (by decide) k13_14
  obtain ⟨a170, ea170, ra170, la170, ua170⟩ := hO.gi h_a (by decide) k13_17
  obtain ⟨a190, ea190, ra190, la190, ua190⟩ := hO.gi h_a (by decide) k13_19
  obtain ⟨a300, ea300, ra300, la300, ua300⟩ := hO.gi h_a (by decide) k13_30
  refine lv_aload_n hx hb dX11_little_0 rfl (lv_at hl 0 rfl) ?_
  refine lv_bipush (v := I 64) hx hb dX11_little_1 (by decide) ?_
  obtain ⟨_, hc_1⟩ := hO.cell h_a (by decide) (ci := 11) rfl
  refine th_calli (va_runV (As := [.int (I 64)]) (rest := []) ⟨hx, hb, hml, hown, hts⟩ (m_isMarked l G y b0 σ E hO a h_a 64 (show rng 64 from (show rng 64 from ⟨by decide, by decide⟩)) Bf hsr (by omega)) (cwV 1 hts gX11_little_X11_isMarked rfl rfl rfl (by decide +kernel) ⟨Nat.le_of_ble_eq_true rfl, Nat.le_of_ble_eq_true rfl⟩) (th_PV hK hH rfl hc_1) rfl rfl hl.1 rfl (lv_room (Nat.le_of_ble_eq_true rfl)) dX11_little_3 ⟨Nat.le_of_ble_eq_true rfl, Nat.le_of_ble_eq_true rfl⟩) hS (fun z_4 σ_s_3 H locs rz_4 hw_2 hH hS => ?_)
  obtain ⟨e9, bhw_2, hw_2⟩ := hw_2
  replace e9 := e9.symm
  subst e9
  have hw_2 : z_4 = 0 ∨ (z_4 = 1 ∧ gI σ a 19 = 0 ∧ gI σ a 14 = 3 ∧ Bf (gI σ a 17) = 64) := hw_2
  refine lv_if_ne (tgt := 14) hx hb dX11_little_6 (by decide) (fun c_5 => ?_) (fun c_5 => ?_)
  · replace c_5 := mt (I_eq (a := z_4) (b := 0) rz_4 (show rng 0 from ⟨by decide, by decide⟩)).mpr c_5
    replace hw_2 := (hw_2.resolve_left c_5).2
    refine lv_aload_n hx hb dX11_little_14 rfl (lv_at hl 0 rfl) ?_
    refine ok.getIc hO h_a (by decide) k13_19 ea190 (fun _ _ he hv kk => th_get (ci := 11) (C := RX11) (T := TX11) (N := 66) hx hb hts inX11 hown hK hH he rfl 19 (by decide) fl0 hv dX11_little_15 kk) ?_
    refine th_join (α := Unit) (J := 42) (stk := fun x9 => []) (fun x9 σ9 H9 l9 ls9 => ok y E σ9 ∧ fr [13] E σ σ9 ∧ fm [13, 14, 15, 16, 17, 18, 19, 20, 27] E σ σ9 a ∧ sr E σ9 a Bf ∧ th_H G b0 σ9 H9 ∧ va_S (th_A b0) s.heap H9 l9 ∧ lv_has ls9 6 [(0, .ref a)] ∧ (gI σ a 13 ≤ gI σ9 a 13 ∧ gI σ9 a 13 ≤ gI σ a 11 ∧ 0 ≤ gI σ9 a 17 ∧ gI σ9 a 17 ≤ gI σ9 a 13) ∧ (gI σ9 a 11 = a110) ∧ (gI σ9 a 13 = a130) ∧ (gI σ9 a 14 = a140) ∧ (gI σ9 a 17 = a170) ∧ (gI σ9 a 30 = a300) ∧ (aF σ9 (ad E a 1) = f1)) ?_ (fun jK_25 => ?_)
    · intro x9 σ_K_25 H locs ls hI9
      obtain ⟨hO, hF, hM, hsr, hH, hS, hl, K_25_0, K_25_1, K_25_2, K_25_3, K_25_4, K_25_5, K_25_6⟩ := hI9
      have hl : lv_has ls 6 [(0, .ref a)] := hl
      have K_25_0 : gI σ a 13 ≤ gI σ_K_25 a 13 ∧ gI σ_K_25 a 13 ≤ gI σ a 11 ∧ 0 ≤ gI σ_K_25 a 17 ∧ gI σ_K_25 a 17 ≤ gI σ_K_25 a 13 := K_25_0
      have K_25_1 : gI σ_K_25 a 11 = a110 := K_25_1
      have K_25_2 : gI σ_K_25 a 13 = a130 := K_25_2
      have K_25_3 : gI σ_K_25 a 14 = a140 := K_25_3
      have K_25_4 : gI σ_K_25 a 17 = a170 := K_25_4
      have K_25_5 : gI σ_K_25 a 30 = a300 := K_25_5
      have K_25_6 : aF σ_K_25 (ad E a 1) = f1 := K_25_6
      refine lv_aload_n hx hb dX11_little_42 rfl (lv_at hl 0 rfl) ?_
      refine lv_dup hx hb dX11_little_43 rfl ?_
      refine ok.getI hO h_a (by decide) k13_27 (fun _ _ he hv kk => th_get (ci := 11) (C := RX11) (T := TX11) (N := 66) hx hb hts inX11 hown hK hH he rfl 27 (by decide) fl1 hv dX11_little_44 kk) (fun z_26 e_27 rz_26 lz_26 uz_26 => ?_)
      refine lv_iconst (v := I 1) hx hb dX11_little_47 (by decide) ?_
      refine lv_iadd hx hb dX11_little_48 ?_
      refine th_addo (fun z_28 rz_28 hz_28 => ?_)
      refine ok.putJ hO h_a k13_27 rz_28 (by omega) (by omega) (fun _ he hl9 kk => th_put (ci := 11) (v := .int (I z_28)) (ty := .int) (C := RX11) (T := TX11) (N := 66) hx hb hts inX11 tyX11 tyX11_ok nmX11 hown hK hH hS h00 he rfl 27 (by decide) fl1 rfl (by decide +kernel) rfl rfl hl9 dX11_little_49 kk) (fun σ_s_29 H locs hO hF9 hM9 hg9 ha9 hH hS => ?_)
      replace hM := hM.tu hM9 (by decide)
      replace hF := hF.tu hF9 (by decide)
      have e_30 : gI σ_s_29 a 11 = a110 := (hM9.i (by decide)).trans K_25_1
      have e_31 : gI σ_s_29 a 13 = a130 := (hM9.i (by decide)).trans K_25_2
      have e_32 : gI σ_s_29 a 14 = a140 := (hM9.i (by decide)).trans K_25_3
      have e_33 : gI σ_s_29 a 17 = a170 := (hM9.i (by decide)).trans K_25_4
      have e_34 : gI σ_s_29 a 30 = a300 := (hM9.i (by decide)).trans K_25_5
      have e_35 : aF σ_s_29 (ad E a 1) = f1 := (hM9.a (by decide) (by decide)).trans K_25_6
      replace hsr := hsr.mv hM9 (by decide) (by decide) (by decide) (by decide) (by decide)
      have e_36 := hg9
      refine lv_aload_n hx hb dX11_little_52 rfl (lv_at hl 0 rfl) ?_
      obtain ⟨_, hc_37⟩ := hO.cell h_a (by decide) (ci := 11) rfl
      refine th_callv (va_runV (As := []) (rest := []) ⟨hx, hb, hml, hown, hts⟩ (m_pass l G y b0 σ_s_29 E hO a h_a Bf hsr (by omega)) (cwV 0 hts gX11_little_X11_pass rfl rfl rfl (by decide +kernel) ⟨Nat.le_of_ble_eq_true rfl, Nat.le_of_ble_eq_true rfl⟩) (th_PV hK hH rfl hc_37) rfl rfl hl.1 rfl (lv_room (Nat.le_of_ble_eq_true rfl)) dX11_little_53 ⟨Nat.le_of_ble_eq_true rfl, Nat.le_of_ble_eq_true rfl⟩) hS (fun σ_s_39 H locs hw_38 hH hS => ?_)
      obtain ⟨hO9, hF9, hM9, hw_38⟩ := hw_38
      replace hM := hM.tu hM9 (by decide)
      replace hF := hF.tu hF9 (by decide)
      have e_40 : gI σ_s_39 a 11 = a110 := (hM9.i (by decide)).trans e_30
      have e_41 : gI σ_s_39 a 30 = a300 := (hM9.i (by decide)).trans e_34
      have e_42 : aF σ_s_39 (ad E a 1) = f1 := (hM9.a (by decide) (by decide)).trans e_35
      have e_43 : gI σ_s_39 a 27 = z_28 := (hM9.i (by decide)).trans e_36
      replace hsr := hsr.mv hM9 (by decide) (by decide) (by decide) (by decide) (by decide)
      replace hO := hO9
      have hw_38 : (gI σ_s_29 a 13 ≤ gI σ_s_39 a 13 ∧ gI σ_s_39 a 13 ≤ gI σ_s_29 a 11 ∧ 0 ≤ gI σ_s_39 a 17 ∧ gI σ_s_39 a 17 ≤ gI σ_s_39 a 13) ∧ pgo (gI σ_s_39 a 19) (gI σ_s_39 a 14) (gI σ_s_29 a 13) (gI σ_s_39 a 13) ∧ gI σ_s_39 a 19 = gI σ_s_29 a 19 := hw_38
      refine lv_aload_n hx hb dX11_little_56 rfl (lv_at hl 0 rfl) ?_
      refine ok.getIc hO h_a (by decide) k13_30 e_41 (fun _ _ he hv kk => th_get (ci := 11) (C := RX11) (T := TX11) (N := 66) hx hb hts inX11 hown hK hH he rfl 30 (by decide) fl2 hv dX11_little_57 kk) ?_
      refine lv_istore_n (lv' := [(1, .int (I a300)), (0, .ref a)]) hx hb dX11_little_60 rfl hl (by decide) rfl (fun ls hl => ?_)
      obtain ⟨z_44, e_45, rz_44, lz_44, uz_44⟩ := hO.gi h_a (by decide) k13_13
      obtain ⟨z_46, e_47, rz_46, lz_46, uz_46⟩ := hO.gi h_a (by decide) k13_14
      obtain ⟨z_48, e_49, rz_48, lz_48, uz_48⟩ := hO.gi h_a (by decide) k13_19
      refine th_loop (α := Int × Int × Int × Int) (pc := 61) (fun x9 => (2 * (gI σ a 11 - x9.2.1) + fg x9.2.2.2 x9.2.2.1).toNat) (fun x9 σ9 H9 l9 ls9 => ok y E σ9 ∧ fr [13] E σ σ9 ∧ fm [13, 14, 15, 16, 17, 18, 19, 20, 27] E σ σ9 a ∧ sr E σ9 a Bf ∧ th_H G b0 σ9 H9 ∧ va_S (th_A b0) s.heap H9 l9 ∧ lv_has ls9 6 [(0, .ref a), (1, .int (I x9.1))] ∧ rng x9.1 ∧ rng x9.2.1 ∧ rng x9.2.2.1 ∧ rng x9.2.2.2 ∧ (gI σ a 13 ≤ x9.2.1) ∧ (x9.2.1 ≤ gI σ a 11) ∧ (0 ≤ gI σ9 a 17) ∧ (gI σ9 a 17 ≤ x9.2.1) ∧ (-1 ≤ x9.1) ∧ (x9.1 < mS f1 0) ∧ (x9.1 ≤ 60) ∧ (pgo x9.2.2.2 x9.2.2.1 (gI σ a 13) x9.2.1) ∧ (gI σ9 a 11 = a110) ∧ (gI σ9 a 30 = a300) ∧ (gI σ9 a 27 = z_28) ∧ (aF σ9 (ad E a 1) = f1) ∧ (gI σ9 a 13 = x9.2.1) ∧ (gI σ9 a 14 = x9.2.2.1) ∧ (gI σ9 a 19 = x9.2.2.2)) ?_ (a300, z_44, z_46, z_48) σ_s_39 _ _ _ ⟨hO, hF, hM, hsr, hH, hS, lv_sub hl [1, 0] rfl, ra300, rz_44, rz_46, rz_48, by first | (dsimp only; omega) | omega, by first | (dsimp only; omega) | omega, by first | (dsimp only; omega) | omega, by first | (dsimp only; omega) | omega, by first | (dsimp only; omega) | omega, by first | (dsimp only; omega) | omega, by first | (dsimp only; omega) | omega, (hw_38.1.2.is (by first | (dsimp only; omega) | omega) (by first | (dsimp only; omega) | omega) (by first | (dsimp only; omega) | omega) (by first | (dsimp only; omega) | omega)), e_40, e_41, e_43, e_42, e_45, e_47, e_49⟩
      intro x9 σ_J_500 H locs ls hI9 ihJ_500
      obtain ⟨v1q499, G13q496, G14q497, G19q498⟩ := x9
      obtain ⟨hO, hF, hM, hsr, hH, hS, hl, rv1q499, rG13q496, rG14q497, rG19q498, J_500_0, J_500_1, J_500_2, J_500_3, J_500_4, J_500_5, J_500_6, J_500_7, J_500_8, J_500_9, J_500_10, J_500_11, J_500_12, J_500_13, J_500_14⟩ := hI9
      have hl : lv_has ls 6 [(0, .ref a), (1, .int (I v1q499))] := hl
      have rv1q499 : rng v1q499 := rv1q499
      have rG13q496 : rng G13q496 := rG13q496
      have rG14q497 : rng G14q497 := rG14q497
      have rG19q498 : rng G19q498 := rG19q498
      have J_500_0 : gI σ a 13 ≤ G13q496 := J_500_0
      have J_500_1 : G13q496 ≤ gI σ a 11 := J_500_1
      have J_500_2 : 0 ≤ gI σ_J_500 a 17 := J_500_2
      have J_500_3 : gI σ_J_500 a 17 ≤ G13q496 := J_500_3
      have J_500_4 : -1 ≤ v1q499 := J_500_4
      have J_500_5 : v1q499 < mS f1 0 := J_500_5
      have J_500_6 : v1q499 ≤ 60 := J_500_6
      have J_500_7 : pgo G19q498 G14q497 (gI σ a 13) G13q496 := J_500_7
      have J_500_8 : gI σ_J_500 a 11 = a110 := J_500_8
      have J_500_9 : gI σ_J_500 a 30 = a300 := J_500_9
      have J_500_10 : gI σ_J_500 a 27 = z_28 := J_500_10
      have J_500_11 : aF σ_J_500 (ad E a 1) = f1 := J_500_11
      have J_500_12 : gI σ_J_500 a 13 = G13q496 := J_500_12
      have J_500_13 : gI σ_J_500 a 14 = G14q497 := J_500_13
      have J_500_14 : gI σ_J_500 a 19 = G19q498 := J_500_14
      refine lv_aload_n hx hb dX11_little_61 rfl (lv_at hl 0 rfl) ?_
      refine lv_bipush (v := I 46) hx hb dX11_little_62 (by decide) ?_
      obtain ⟨_, hc_501⟩ := hO.cell h_a (by decide) (ci := 11) rfl
      refine th_calli (va_runV (As := [.int (I 46)]) (rest := []) ⟨hx, hb, hml, hown, hts⟩ (m_isMarked l G y b0 σ_J_500 E hO a h_a 46 (show rng 46 from (show rng 46 from ⟨by decide, by decide⟩)) Bf hsr (by omega)) (cwV 1 hts gX11_little_X11_isMarked rfl rfl rfl (by decide +kernel) ⟨Nat.le_of_ble_eq_true rfl, Nat.le_of_ble_eq_true rfl⟩) (th_PV hK hH rfl hc_501) rfl rfl hl.1 rfl (lv_room (Nat.le_of_ble_eq_true rfl)) dX11_little_64 ⟨Nat.le_of_ble_eq_true rfl, Nat.le_of_ble_eq_true rfl⟩) hS (fun z_504 σ_s_503 H locs rz_504 hw_502 hH hS => ?_)
      obtain ⟨e9, bhw_502, hw_502⟩ := hw_502
      replace e9 := e9.symm
      subst e9
      have hw_502 : z_504 = 0 ∨ (z_504 = 1 ∧ gI σ_J_500 a 19 = 0 ∧ gI σ_J_500 a 14 = 3 ∧ Bf (gI σ_J_500 a 17) = 46) := hw_502
      refine th_join (α := Unit) (J := 79) (stk := fun x9 => []) (fun x9 σ9 H9 l9 ls9 => σ9 = σ_J_500 ∧ th_H G b0 σ9 H9 ∧ va_S (th_A b0) s.heap H9 l9 ∧ lv_has ls9 6 [(0, .ref a), (1, .int (I v1q499))] ∧ (gI σ9 a 19 = 0 ∧ gI σ9 a 14 = 3)) ?_ (fun jK_605 => ?_)
      · intro x9 σ_K_605 H locs ls hI9
        obtain ⟨eK_605, hH, hS, hl, K_605_0⟩ := hI9
        replace eK_605 := eK_605.symm
        subst eK_605
        have hl : lv_has ls 6 [(0, .ref a), (1, .int (I v1q499))] := hl
        have K_605_0 : gI σ_J_500 a 19 = 0 ∧ gI σ_J_500 a 14 = 3 := K_605_0
        refine lv_aload_n hx hb dX11_little_79 rfl (lv_at hl 0 rfl) ?_
        refine lv_bipush (v := I 46) hx hb dX11_little_80 (by decide) ?_
        obtain ⟨_, hc_606⟩ := hO.cell h_a (by decide) (ci := 11) rfl
        refine th_calli (va_runV (As := [.int (I 46)]) (rest := []) ⟨hx, hb, hml, hown, hts⟩ (m_isMarked l G y b0 σ_J_500 E hO a h_a 46 (show rng 46 from (show rng 46 from ⟨by decide, by decide⟩)) Bf hsr (by omega)) (cwV 1 hts gX11_little_X11_isMarked rfl rfl rfl (by decide +kernel) ⟨Nat.le_of_ble_eq_true rfl, Nat.le_of_ble_eq_true rfl⟩) (th_PV hK hH rfl hc_606) rfl rfl hl.1 rfl (lv_room (Nat.le_of_ble_eq_true rfl)) dX11_little_82 ⟨Nat.le_of_ble_eq_true rfl, Nat.le_of_ble_eq_true rfl⟩) hS (fun z_609 σ_s_608 H locs rz_609 hw_607 hH hS => ?_)
        obtain ⟨e9, bhw_607, hw_607⟩ := hw_607
        replace e9 := e9.symm
        subst e9
        have hw_607 : z_609 = 0 ∨ (z_609 = 1 ∧ gI σ_J_500 a 19 = 0 ∧ gI σ_J_500 a 14 = 3 ∧ Bf (gI σ_J_500 a 17) = 46) := hw_607
        refine lv_istore_n (lv' := [(2, .int (I z_609)), (0, .ref a), (1, .int (I v1q499))]) hx hb dX11_little_85 rfl hl (by decide) rfl (fun ls hl => ?_)
        refine lv_aload_n hx hb dX11_little_86 rfl (lv_at hl 1 rfl) ?_
        obtain ⟨_, hc_610⟩ := hO.cell h_a (by decide) (ci := 11) rfl
        refine th_callv (va_runV (As := []) (rest := []) ⟨hx, hb, hml, hown, hts⟩ (m_pass l G y b0 σ_J_500 E hO a h_a Bf hsr (by omega)) (cwV 0 hts gX11_little_X11_pass rfl rfl rfl (by decide +kernel) ⟨Nat.le_of_ble_eq_true rfl, Nat.le_of_ble_eq_true rfl⟩) (th_PV hK hH rfl hc_610) rfl rfl hl.1 rfl (lv_room (Nat.le_of_ble_eq_true rfl)) dX11_little_87 ⟨Nat.le_of_ble_eq_true rfl, Nat.le_of_ble_eq_true rfl⟩) hS (fun σ_s_612 H locs hw_611 hH hS => ?_)
        obtain ⟨hO9, hF9, hM9, hw_611⟩ := hw_611
        replace hM := hM.tu hM9 (by decide)
        replace hF := hF.tu hF9 (by decide)
        have e_613 : gI σ_s_612 a 11 = a110 := (hM9.i (by decide)).trans J_500_8
        have e_614 : gI σ_s_612 a 30 = a300 := (hM9.i (by decide)).trans J_500_9
        have e_615 : gI σ_s_612 a 27 = z_28 := (hM9.i (by decide)).trans J_500_10
        have e_616 : aF σ_s_612 (ad E a 1) = f1 := (hM9.a (by decide) (by decide)).trans J_500_11
        have e_617 : gI σ_s_612 a 19 = G19q498 := (hM9.i (by decide)).trans J_500_14
        replace hsr := hsr.mv hM9 (by decide) (by decide) (by decide) (by decide) (by decide)
        replace hO := hO9
        have hw_611 : (gI σ_J_500 a 13 ≤ gI σ_s_612 a 13 ∧ gI σ_s_612 a 13 ≤ gI σ_J_500 a 11 ∧ 0 ≤ gI σ_s_612 a 17 ∧ gI σ_s_612 a 17 ≤ gI σ_s_612 a 13) ∧ pgo (gI σ_s_612 a 19) (gI σ_s_612 a 14) (gI σ_J_500 a 13) (gI σ_s_612 a 13) ∧ gI σ_s_612 a 19 = gI σ_J_500 a 19 := hw_611
        refine lv_iload_n hx hb dX11_little_90 rfl (lv_at hl 0 rfl) ?_
        refine lv_if_eq (tgt := 101) hx hb dX11_little_91 (by decide) (fun c_618 => ?_) (fun c_618 => ?_)
        · replace c_618 := (I_eq (a := z_609) (b := 0) rz_609 (show rng 0 from ⟨by decide, by decide⟩)).mp c_618
          clear hw_607
          refine lv_aload_n hx hb dX11_little_101 rfl (lv_at hl 1 rfl) ?_
          obtain ⟨_, hc_619⟩ := hO.cell h_a (by decide) (ci := 11) rfl
          refine th_calli (va_runV (As := []) (rest := []) ⟨hx, hb, hml, hown, hts⟩ (m_readNumber l G y b0 σ_s_612 E hO a h_a Bf hsr (by omega)) (cwV 0 hts gX11_little_X11_readNumber rfl rfl rfl (by decide +kernel) ⟨Nat.le_of_ble_eq_true rfl, Nat.le_of_ble_eq_true rfl⟩) (th_PV hK hH rfl hc_619) rfl rfl hl.1 rfl (lv_room (Nat.le_of_ble_eq_true rfl)) dX11_little_102 ⟨Nat.le_of_ble_eq_true rfl, Nat.le_of_ble_eq_true rfl⟩) hS (fun z_622 σ_s_621 H locs rz_622 hw_620 hH hS => ?_)
          obtain ⟨hO9, hF9, hM9, hw_620⟩ := hw_620
          replace hM := hM.tu hM9 (by decide)
          replace hF := hF.tu hF9 (by decide)
          have e_623 : gI σ_s_621 a 11 = a110 := (hM9.i (by decide)).trans e_613
          have e_624 : gI σ_s_621 a 30 = a300 := (hM9.i (by decide)).trans e_614
          have e_625 : gI σ_s_621 a 27 = z_28 := (hM9.i (by decide)).trans e_615
          have e_626 : aF σ_s_621 (ad E a 1) = f1 := (hM9.a (by decide) (by decide)).trans e_616
          replace hsr := hsr.mv hM9 (by decide) (by decide) (by decide) (by decide) (by decide)
          replace hO := hO9
          have hw_620 : (gI σ_s_612 a 13 ≤ gI σ_s_621 a 13 ∧ gI σ_s_621 a 13 ≤ gI σ_s_612 a 11 ∧ 0 ≤ gI σ_s_621 a 17 ∧ gI σ_s_621 a 17 ≤ gI σ_s_621 a 13) ∧ pgo (gI σ_s_621 a 19) (gI σ_s_621 a 14) (gI σ_s_612 a 13) (gI σ_s_621 a 13) ∧ bdo (gI σ_s_612 a 19) (gI σ_s_621 a 19) := hw_620
          refine lv_istore_n (lv' := [(3, .int (I z_622)), (2, .int (I z_609)), (0, .ref a), (1, .int (I v1q499))]) hx hb dX11_little_105 rfl hl (by decide) rfl (fun ls hl => ?_)
          refine lv_iload_n hx hb dX11_little_106 rfl (lv_at hl 1 rfl) ?_
          refine lv_if_ne (tgt := 116) hx hb dX11_little_107 (by decide) (fun c_627 => ?_) (fun c_627 => ?_)
          · replace c_627 := mt (I_eq (a := z_609) (b := 0) rz_609 (show rng 0 from ⟨by decide, by decide⟩)).mpr c_627
            refine lv_iload_n hx hb dX11_little_116 rfl (lv_at hl 3 rfl) ?_
            refine lv_iconst (v := I (-1)) hx hb dX11_little_117 (by decide) ?_
            refine lv_icmp_ne (tgt := 124) hx hb dX11_little_118 (by decide) (fun c_628 => ?_) (fun c_628 => ?_)
            · replace c_628 := mt (I_eq (a := v1q499) (b := (-1)) rv1q499 (show rng (-1) from ⟨by decide, by decide⟩)).mpr c_628
              have hk1 := hy0 v1q499 (by omega) (by omega)
              refine lv_iload_n hx hb dX11_little_124 rfl (lv_at hl 1 rfl) ?_
              refine lv_if_eq (tgt := 156) hx hb dX11_little_125 (by decide) (fun c_629 => ?_) (fun c_629 => ?_)
              · replace c_629 := (I_eq (a := z_609) (b := 0) rz_609 (show rng 0 from ⟨by decide, by decide⟩)).mp c_629
                refine lv_aload_n hx hb dX11_little_156 rfl (lv_at hl 2 rfl) ?_
                refine ok.getR hO h_a (by decide) k13_1 (by decide) (fun _ _ he hv kk => th_get (ci := 11) (C := RX11) (T := TX11) (N := 66) hx hb hts inX11 hown hK hH he rfl 1 (by decide) fl3 hv dX11_little_157 kk) ?_
                refine lv_iload_n hx hb dX11_little_160 rfl (lv_at hl 3 rfl) ?_
                refine th_calli (va_runS (As := [.ref (ad E a 1), .int (I v1q499)]) (rest := []) ⟨hx, hb, hml, hown, hts⟩ (w_kind l G y b0 σ_s_621 E hO (ad E a 1) 240 f1 (hO.roww h_a k13_1 isA1 e_626 rfl) v1q499 (show rng v1q499 from rv1q499) (by omega) (by omega) (by omega)) (va_cwS 2 hts gX11_little_X11_kind rfl rfl rfl (by decide +kernel) ⟨Nat.le_of_ble_eq_true rfl, Nat.le_of_ble_eq_true rfl⟩) (th_PS hK hH) rfl rfl hl.1 rfl (lv_room (Nat.le_of_ble_eq_true rfl)) dX11_little_161 ⟨Nat.le_of_ble_eq_true rfl, Nat.le_of_ble_eq_true rfl⟩) hS (fun z_632 σ_s_631 H locs rz_632 hw_630 hH hS => ?_)
                obtain ⟨e9, hw_630⟩ := hw_630
                replace e9 := e9.symm
                subst e9
                have hw_630 : z_632 = mK f1 v1q499 := hw_630
                refine lv_iconst (v := I 2) hx hb dX11_little_164 (by decide) ?_
                refine lv_icmp_ne (tgt := 180) hx hb dX11_little_165 (by decide) (fun c_633 => ?_) (fun c_633 => ?_)
                · replace c_633 := mt (I_eq (a := z_632) (b := 2) rz_632 (show rng 2 from ⟨by decide, by decide⟩)).mpr c_633
                  refine lv_iconst (v := I (-1)) hx hb dX11_little_180 (by decide) ?_
                  refine lv_istore_n (lv' := [(1, .int (I (-1))), (3, .int (I z_622)), (2, .int (I z_609)), (0, .ref a)]) hx hb dX11_little_181 rfl hl (by decide) rfl (fun ls hl => ?_)
                  refine lv_goto (tgt := 61) hx hb dX11_little_182 (by decide) ?_
                  replace hl : lv_has ls 6 [(1, .int (I (-1))), (0, .ref a)] := lv_sub hl [0, 3] rfl
                  obtain ⟨z_634, e_635, rz_634, lz_634, uz_634⟩ := hO.gi h_a (by decide) k13_13
                  obtain ⟨z_636, e_637, rz_636, lz_636, uz_636⟩ := hO.gi h_a (by decide) k13_14
                  obtain ⟨z_638, e_639, rz_638, lz_638, uz_638⟩ := hO.gi h_a (by decide) k13_19
                  exact ihJ_500 ((-1), z_634, z_636, z_638) σ_s_621 _ _ _ (by have h8 := hw_620.1.2; unfold pgo at h8; simp only [fg]; omega) ⟨hO, hF, hM, hsr, hH, hS, lv_sub hl [1, 0] rfl, (show rng (-1) from ⟨by decide, by decide⟩), rz_634, rz_636, rz_638, by first | (dsimp only; omega) | omega, by first | (dsimp only; omega) | omega, by first | (dsimp only; omega) | omega, by first | (dsimp only; omega) | omega, by first | (dsimp only; omega) | omega, by first | (dsimp only; omega) | omega, by first | (dsimp only; omega) | omega, (hw_620.1.2.is (by first | (dsimp only; omega) | omega) (by first | (dsimp only; omega) | omega) (by first | (dsimp only; omega) | omega) (by first | (dsimp only; omega) | omega)), e_623, e_624, e_625, e_626, e_635, e_637, e_639⟩
                · replace c_633 := (I_eq (a := z_632) (b := 2) rz_632 (show rng 2 from ⟨by decide, by decide⟩)).mp c_633
                  refine lv_aload_n hx hb dX11_little_168 rfl (lv_at hl 2 rfl) ?_
                  refine ok.getR hO h_a (by decide) k13_1 (by decide) (fun _ _ he hv kk => th_get (ci := 11) (C := RX11) (T := TX11) (N := 66) hx hb hts inX11 hown hK hH he rfl 1 (by decide) fl3 hv dX11_little_169 kk) ?_
                  refine lv_iload_n hx hb dX11_little_172 rfl (lv_at hl 3 rfl) ?_
                  refine lv_iload_n hx hb dX11_little_173 rfl (lv_at hl 0 rfl) ?_
                  refine th_calli (va_runS (As := [.ref (ad E a 1), .int (I v1q499), .int (I z_622)]) (rest := []) ⟨hx, hb, hml, hown, hts⟩ (w_byPlace l G y b0 σ_s_621 E hO (ad E a 1) 240 f1 (hO.roww h_a k13_1 isA1 e_626 rfl) v1q499 (show rng v1q499 from rv1q499) (by omega) (by omega) z_622 (show rng z_622 from rz_622) (by first | exact hy0 | exact (hy0).sub (by omega) (by omega)) (by omega) (by omega) (by omega)) (va_cwS 3 hts gX11_little_X11_byPlace rfl rfl rfl (by decide +kernel) ⟨Nat.le_of_ble_eq_true rfl, Nat.le_of_ble_eq_true rfl⟩) (th_PS hK hH) rfl rfl hl.1 rfl (lv_room (Nat.le_of_ble_eq_true rfl)) dX11_little_174 ⟨Nat.le_of_ble_eq_true rfl, Nat.le_of_ble_eq_true rfl⟩) hS (fun z_642 σ_s_641 H locs rz_642 hw_640 hH hS => ?_)
                  obtain ⟨e9, hw_640⟩ := hw_640
                  replace e9 := e9.symm
                  subst e9
                  have hw_640 : z_642 = -1 ∨ (kid f1 v1q499 z_642 ∧ v1q499 < z_642 ∧ z_642 < v1q499 + mS f1 v1q499) := hw_640
                  refine lv_goto (tgt := 181) hx hb dX11_little_177 (by decide) ?_
                  refine lv_istore_n (lv' := [(1, .int (I z_642)), (3, .int (I z_622)), (2, .int (I z_609)), (0, .ref a)]) hx hb dX11_little_181 rfl hl (by decide) rfl (fun ls hl => ?_)
                  refine lv_goto (tgt := 61) hx hb dX11_little_182 (by decide) ?_
                  replace hl : lv_has ls 6 [(1, .int (I z_642)), (0, .ref a)] := lv_sub hl [0, 3] rfl
                  obtain ⟨z_643, e_644, rz_643, lz_643, uz_643⟩ := hO.gi h_a (by decide) k13_13
                  obtain ⟨z_645, e_646, rz_645, lz_645, uz_645⟩ := hO.gi h_a (by decide) k13_14
                  obtain ⟨z_647, e_648, rz_647, lz_647, uz_647⟩ := hO.gi h_a (by decide) k13_19
                  exact ihJ_500 (z_642, z_643, z_645, z_647) σ_s_621 _ _ _ (by have h8 := hw_620.1.2; unfold pgo at h8; simp only [fg]; omega) ⟨hO, hF, hM, hsr, hH, hS, lv_sub hl [1, 0] rfl, rz_642, rz_643, rz_645, rz_647, by first | (dsimp only; omega) | omega, by first | (dsimp only; omega) | omega, by first | (dsimp only; omega) | omega, by first | (dsimp only; omega) | omega, by first | (dsimp only; omega) | omega, by first | (dsimp only; omega) | omega, by first | (dsimp only; omega) | omega, (hw_620.1.2.is (by first | (dsimp only; omega) | omega) (by first | (dsimp only; omega) | omega) (by first | (dsimp only; omega) | omega) (by first | (dsimp only; omega) | omega)), e_623, e_624, e_625, e_626, e_644, e_646, e_648⟩
              · replace c_629 := mt (I_eq (a := z_609) (b := 0) rz_609 (show rng 0 from ⟨by decide, by decide⟩)).mpr c_629
                refine lv_aload_n hx hb dX11_little_128 rfl (lv_at hl 2 rfl) ?_
                refine ok.getR hO h_a (by decide) k13_1 (by decide) (fun _ _ he hv kk => th_get (ci := 11) (C := RX11) (T := TX11) (N := 66) hx hb hts inX11 hown hK hH he rfl 1 (by decide) fl3 hv dX11_little_129 kk) ?_
                refine lv_iload_n hx hb dX11_little_132 rfl (lv_at hl 3 rfl) ?_
                refine th_calli (va_runS (As := [.ref (ad E a 1), .int (I v1q499)]) (rest := []) ⟨hx, hb, hml, hown, hts⟩ (w_kind l G y b0 σ_s_621 E hO (ad E a 1) 240 f1 (hO.roww h_a k13_1 isA1 e_626 rfl) v1q499 (show rng v1q499 from rv1q499) (by omega) (by omega) (by omega)) (va_cwS 2 hts gX11_little_X11_kind rfl rfl rfl (by decide +kernel) ⟨Nat.le_of_ble_eq_true rfl, Nat.le_of_ble_eq_true rfl⟩) (th_PS hK hH) rfl rfl hl.1 rfl (lv_room (Nat.le_of_ble_eq_true rfl)) dX11_little_133 ⟨Nat.le_of_ble_eq_true rfl, Nat.le_of_ble_eq_true rfl⟩) hS (fun z_651 σ_s_650 H locs rz_651 hw_649 hH hS => ?_)
                obtain ⟨e9, hw_649⟩ := hw_649
                replace e9 := e9.symm
                subst e9
                have hw_649 : z_651 = mK f1 v1q499 := hw_649
                refine lv_iconst (v := I 3) hx hb dX11_little_136 (by decide) ?_
                refine lv_icmp_ne (tgt := 152) hx hb dX11_little_137 (by decide) (fun c_652 => ?_) (fun c_652 => ?_)
                · replace c_652 := mt (I_eq (a := z_651) (b := 3) rz_651 (show rng 3 from ⟨by decide, by decide⟩)).mpr c_652
                  refine lv_iconst (v := I (-1)) hx hb dX11_little_152 (by decide) ?_
                  refine lv_goto (tgt := 181) hx hb dX11_little_153 (by decide) ?_
                  refine lv_istore_n (lv' := [(1, .int (I (-1))), (3, .int (I z_622)), (2, .int (I z_609)), (0, .ref a)]) hx hb dX11_little_181 rfl hl (by decide) rfl (fun ls hl => ?_)
                  refine lv_goto (tgt := 61) hx hb dX11_little_182 (by decide) ?_
                  replace hl : lv_has ls 6 [(1, .int (I (-1))), (0, .ref a)] := lv_sub hl [0, 3] rfl
                  obtain ⟨z_653, e_654, rz_653, lz_653, uz_653⟩ := hO.gi h_a (by decide) k13_13
                  obtain ⟨z_655, e_656, rz_655, lz_655, uz_655⟩ := hO.gi h_a (by decide) k13_14
                  obtain ⟨z_657, e_658, rz_657, lz_657, uz_657⟩ := hO.gi h_a (by decide) k13_19
                  exact ihJ_500 ((-1), z_653, z_655, z_657) σ_s_621 _ _ _ (by have h8 := hw_620.1.2; unfold pgo at h8; simp only [fg]; omega) ⟨hO, hF, hM, hsr, hH, hS, lv_sub hl [1, 0] rfl, (show rng (-1) from ⟨by decide, by decide⟩), rz_653, rz_655, rz_657, by first | (dsimp only; omega) | omega, by first | (dsimp only; omega) | omega, by first | (dsimp only; omega) | omega, by first | (dsimp only; omega) | omega, by first | (dsimp only; omega) | omega, by first | (dsimp only; omega) | omega, by first | (dsimp only; omega) | omega, (hw_620.1.2.is (by first | (dsimp only; omega) | omega) (by first | (dsimp only; omega) | omega) (by first | (dsimp only; omega) | omega) (by first | (dsimp only; omega) | omega)), e_623, e_624, e_625, e_626, e_654, e_656, e_658⟩
                · replace c_652 := (I_eq (a := z_651) (b := 3) rz_651 (show rng 3 from ⟨by decide, by decide⟩)).mp c_652
                  refine lv_aload_n hx hb dX11_little_140 rfl (lv_at hl 2 rfl) ?_
                  refine ok.getR hO h_a (by decide) k13_1 (by decide) (fun _ _ he hv kk => th_get (ci := 11) (C := RX11) (T := TX11) (N := 66) hx hb hts inX11 hown hK hH he rfl 1 (by decide) fl3 hv dX11_little_141 kk) ?_
                  refine lv_iload_n hx hb dX11_little_144 rfl (lv_at hl 3 rfl) ?_
                  refine lv_iload_n hx hb dX11_little_145 rfl (lv_at hl 0 rfl) ?_
                  refine th_calli (va_runS (As := [.ref (ad E a 1), .int (I v1q499), .int (I z_622)]) (rest := []) ⟨hx, hb, hml, hown, hts⟩ (w_byKey l G y b0 σ_s_621 E hO (ad E a 1) 240 f1 (hO.roww h_a k13_1 isA1 e_626 rfl) v1q499 (show rng v1q499 from rv1q499) (by omega) (by omega) z_622 (show rng z_622 from rz_622) (by first | exact hy0 | exact (hy0).sub (by omega) (by omega)) (by omega) (by omega) (by omega)) (va_cwS 3 hts gX11_little_X11_byKey rfl rfl rfl (by decide +kernel) ⟨Nat.le_of_ble_eq_true rfl, Nat.le_of_ble_eq_true rfl⟩) (th_PS hK hH) rfl rfl hl.1 rfl (lv_room (Nat.le_of_ble_eq_true rfl)) dX11_little_146 ⟨Nat.le_of_ble_eq_true rfl, Nat.le_of_ble_eq_true rfl⟩) hS (fun z_661 σ_s_660 H locs rz_661 hw_659 hH hS => ?_)
                  obtain ⟨e9, hw_659⟩ := hw_659
                  replace e9 := e9.symm
                  subst e9
                  have hw_659 : (z_661 = -1 ∧ nok f1 (v1q499 + 1) (v1q499 + mS f1 v1q499) z_622) ∨ (kid f1 v1q499 z_661 ∧ mY f1 z_661 = z_622 ∧ v1q499 < z_661 ∧ z_661 < v1q499 + mS f1 v1q499) := hw_659
                  refine lv_goto (tgt := 181) hx hb dX11_little_149 (by decide) ?_
                  refine lv_istore_n (lv' := [(1, .int (I z_661)), (3, .int (I z_622)), (2, .int (I z_609)), (0, .ref a)]) hx hb dX11_little_181 rfl hl (by decide) rfl (fun ls hl => ?_)
                  refine lv_goto (tgt := 61) hx hb dX11_little_182 (by decide) ?_
                  replace hl : lv_has ls 6 [(1, .int (I z_661)), (0, .ref a)] := lv_sub hl [0, 3] rfl
                  obtain ⟨z_662, e_663, rz_662, lz_662, uz_662⟩ := hO.gi h_a (by decide) k13_13
                  obtain ⟨z_664, e_665, rz_664, lz_664, uz_664⟩ := hO.gi h_a (by decide) k13_14
                  obtain ⟨z_666, e_667, rz_666, lz_666, uz_666⟩ := hO.gi h_a (by decide) k13_19
                  exact ihJ_500 (z_661, z_662, z_664, z_666) σ_s_621 _ _ _ (by have h8 := hw_620.1.2; unfold pgo at h8; simp only [fg]; omega) ⟨hO, hF, hM, hsr, hH, hS, lv_sub hl [1, 0] rfl, rz_661, rz_662, rz_664, rz_666, by first | (dsimp only; omega) | omega, by first | (dsimp only; omega) | omega, by first | (dsimp only; omega) | omega, by first | (dsimp only; omega) | omega, by first | (dsimp only; omega) | omega, by first | (dsimp only; omega) | omega, by first | (dsimp only; omega) | omega, (hw_620.1.2.is (by first | (dsimp only; omega) | omega) (by first | (dsimp only; omega) | omega) (by first | (dsimp only; omega) | omega) (by first | (dsimp only; omega) | omega)), e_623, e_624, e_625, e_626, e_663, e_665, e_667⟩
            · replace c_628 := (I_eq (a := v1q499) (b := (-1)) rv1q499 (show rng (-1) from ⟨by decide, by decide⟩)).mp c_628
              refine lv_goto (tgt := 61) hx hb dX11_little_121 (by decide) ?_
              replace hl : lv_has ls 6 [(0, .ref a), (1, .int (I v1q499))] := lv_sub hl [2, 3] rfl
              obtain ⟨z_668, e_669, rz_668, lz_668, uz_668⟩ := hO.gi h_a (by decide) k13_13
              obtain ⟨z_670, e_671, rz_670, lz_670, uz_670⟩ := hO.gi h_a (by decide) k13_14
              obtain ⟨z_672, e_673, rz_672, lz_672, uz_672⟩ := hO.gi h_a (by decide) k13_19
              exact ihJ_500 (v1q499, z_668, z_670, z_672) σ_s_621 _ _ _ (by have h8 := hw_620.1.2; unfold pgo at h8; simp only [fg]; omega) ⟨hO, hF, hM, hsr, hH, hS, lv_sub hl [0, 1] rfl, rv1q499, rz_668, rz_670, rz_672, by first | (dsimp only; omega) | omega, by first | (dsimp only; omega) | omega, by first | (dsimp only; omega) | omega, by first | (dsimp only; omega) | omega, by first | (dsimp only; omega) | omega, by first | (dsimp only; omega) | omega, by first | (dsimp only; omega) | omega, (hw_620.1.2.is (by first | (dsimp only; omega) | omega) (by first | (dsimp only; omega) | omega) (by first | (dsimp only; omega) | omega) (by first | (dsimp only; omega) | omega)), e_623, e_624, e_625, e_626, e_669, e_671, e_673⟩
          · replace c_627 := (I_eq (a := z_609) (b := 0) rz_609 (show rng 0 from ⟨by decide, by decide⟩)).mp c_627
            refine lv_aload_n hx hb dX11_little_110 rfl (lv_at hl 2 rfl) ?_
            refine lv_bipush (v := I 93) hx hb dX11_little_111 (by decide) ?_
            obtain ⟨_, hc_674⟩ := hO.cell h_a (by decide) (ci := 11) rfl
            refine th_callv (va_runV (As := [.int (I 93)]) (rest := []) ⟨hx, hb, hml, hown, hts⟩ (m_need l G y b0 σ_s_621 E hO a h_a 93 (show rng 93 from (show rng 93 from ⟨by decide, by decide⟩)) Bf hsr (by omega)) (cwV 1 hts gX11_little_X11_need rfl rfl rfl (by decide +kernel) ⟨Nat.le_of_ble_eq_true rfl, Nat.le_of_ble_eq_true rfl⟩) (th_PV hK hH rfl hc_674) rfl rfl hl.1 rfl (lv_room (Nat.le_of_ble_eq_true rfl)) dX11_little_113 ⟨Nat.le_of_ble_eq_true rfl, Nat.le_of_ble_eq_true rfl⟩) hS (fun σ_s_676 H locs hw_675 hH hS => ?_)
            obtain ⟨hO9, hF9, hM9, hw_675⟩ := hw_675
            replace hM := hM.tu hM9 (by decide)
            replace hF := hF.tu hF9 (by decide)
            have e_677 : gI σ_s_676 a 11 = a110 := (hM9.i (by decide)).trans e_623
            have e_678 : gI σ_s_676 a 30 = a300 := (hM9.i (by decide)).trans e_624
            have e_679 : gI σ_s_676 a 27 = z_28 := (hM9.i (by decide)).trans e_625
            have e_680 : aF σ_s_676 (ad E a 1) = f1 := (hM9.a (by decide) (by decide)).trans e_626
            replace hsr := hsr.mv hM9 (by decide) (by decide) (by decide) (by decide) (by decide)
            replace hO := hO9
            have hw_675 : (gI σ_s_621 a 13 ≤ gI σ_s_676 a 13 ∧ gI σ_s_676 a 13 ≤ gI σ_s_621 a 11 ∧ 0 ≤ gI σ_s_676 a 17 ∧ gI σ_s_676 a 17 ≤ gI σ_s_676 a 13) ∧ pgo (gI σ_s_676 a 19) (gI σ_s_676 a 14) (gI σ_s_621 a 13) (gI σ_s_676 a 13) ∧ bdo (gI σ_s_621 a 19) (gI σ_s_676 a 19) := hw_675
            refine lv_iload_n hx hb dX11_little_116 rfl (lv_at hl 3 rfl) ?_
            refine lv_iconst (v := I (-1)) hx hb dX11_little_117 (by decide) ?_
            refine lv_icmp_ne (tgt := 124) hx hb dX11_little_118 (by decide) (fun c_681 => ?_) (fun c_681 => ?_)
            · replace c_681 := mt (I_eq (a := v1q499) (b := (-1)) rv1q499 (show rng (-1) from ⟨by decide, by decide⟩)).mpr c_681
              have hk1 := hy0 v1q499 (by omega) (by omega)
              refine lv_iload_n hx hb dX11_little_124 rfl (lv_at hl 1 rfl) ?_
              refine lv_if_eq (tgt := 156) hx hb dX11_little_125 (by decide) (fun c_682 => ?_) (fun c_682 => ?_)
              · replace c_682 := (I_eq (a := z_609) (b := 0) rz_609 (show rng 0 from ⟨by decide, by decide⟩)).mp c_682
                refine lv_aload_n hx hb dX11_little_156 rfl (lv_at hl 2 rfl) ?_
                refine ok.getR hO h_a (by decide) k13_1 (by decide) (fun _ _ he hv kk => th_get (ci := 11) (C := RX11) (T := TX11) (N := 66) hx hb hts inX11 hown hK hH he rfl 1 (by decide) fl3 hv dX11_little_157 kk) ?_
                refine lv_iload_n hx hb dX11_little_160 rfl (lv_at hl 3 rfl) ?_
                refine th_calli (va_runS (As := [.ref (ad E a 1), .int (I v1q499)]) (rest := []) ⟨hx, hb, hml, hown, hts⟩ (w_kind l G y b0 σ_s_676 E hO (ad E a 1) 240 f1 (hO.roww h_a k13_1 isA1 e_680 rfl) v1q499 (show rng v1q499 from rv1q499) (by omega) (by omega) (by omega)) (va_cwS 2 hts gX11_little_X11_kind rfl rfl rfl (by decide +kernel) ⟨Nat.le_of_ble_eq_true rfl, Nat.le_of_ble_eq_true rfl⟩) (th_PS hK hH) rfl rfl hl.1 rfl (lv_room (Nat.le_of_ble_eq_true rfl)) dX11_little_161 ⟨Nat.le_of_ble_eq_true rfl, Nat.le_of_ble_eq_true rfl⟩) hS (fun z_685 σ_s_684 H locs rz_685 hw_683 hH hS => ?_)
                obtain ⟨e9, hw_683⟩ := hw_683
                replace e9 := e9.symm
                subst e9
                have hw_683 : z_685 = mK f1 v1q499 := hw_683
                refine lv_iconst (v := I 2) hx hb dX11_little_164 (by decide) ?_
                refine lv_icmp_ne (tgt := 180) hx hb dX11_little_165 (by decide) (fun c_686 => ?_) (fun c_686 => ?_)
                · replace c_686 := mt (I_eq (a := z_685) (b := 2) rz_685 (show rng 2 from ⟨by decide, by decide⟩)).mpr c_686
                  refine lv_iconst (v := I (-1)) hx hb dX11_little_180 (by decide) ?_
                  refine lv_istore_n (lv' := [(1, .int (I (-1))), (3, .int (I z_622)), (2, .int (I z_609)), (0, .ref a)]) hx hb dX11_little_181 rfl hl (by decide) rfl (fun ls hl => ?_)
                  refine lv_goto (tgt := 61) hx hb dX11_little_182 (by decide) ?_
                  replace hl : lv_has ls 6 [(1, .int (I (-1))), (0, .ref a)] := lv_sub hl [0, 3] rfl
                  obtain ⟨z_687, e_688, rz_687, lz_687, uz_687⟩ := hO.gi h_a (by decide) k13_13
                  obtain ⟨z_689, e_690, rz_689, lz_689, uz_689⟩ := hO.gi h_a (by decide) k13_14
                  obtain ⟨z_691, e_692, rz_691, lz_691, uz_691⟩ := hO.gi h_a (by decide) k13_19
                  exact ihJ_500 ((-1), z_687, z_689, z_691) σ_s_676 _ _ _ (by have h8 := hw_675.1.2; unfold pgo at h8; simp only [fg]; omega) ⟨hO, hF, hM, hsr, hH, hS, lv_sub hl [1, 0] rfl, (show rng (-1) from ⟨by decide, by decide⟩), rz_687, rz_689, rz_691, by first | (dsimp only; omega) | omega, by first | (dsimp only; omega) | omega, by first | (dsimp only; omega) | omega, by first | (dsimp only; omega) | omega, by first | (dsimp only; omega) | omega, by first | (dsimp only; omega) | omega, by first | (dsimp only; omega) | omega, (hw_675.1.2.is (by first | (dsimp only; omega) | omega) (by first | (dsimp only; omega) | omega) (by first | (dsimp only; omega) | omega) (by first | (dsimp only; omega) | omega)), e_677, e_678, e_679, e_680, e_688, e_690, e_692⟩
                · replace c_686 := (I_eq (a := z_685) (b := 2) rz_685 (show rng 2 from ⟨by decide, by decide⟩)).mp c_686
                  refine lv_aload_n hx hb dX11_little_168 rfl (lv_at hl 2 rfl) ?_
                  refine ok.getR hO h_a (by decide) k13_1 (by decide) (fun _ _ he hv kk => th_get (ci := 11) (C := RX11) (T := TX11) (N := 66) hx hb hts inX11 hown hK hH he rfl 1 (by decide) fl3 hv dX11_little_169 kk) ?_
                  refine lv_iload_n hx hb dX11_little_172 rfl (lv_at hl 3 rfl) ?_
                  refine lv_iload_n hx hb dX11_little_173 rfl (lv_at hl 0 rfl) ?_
                  refine th_calli (va_runS (As := [.ref (ad E a 1), .int (I v1q499), .int (I z_622)]) (rest := []) ⟨hx, hb, hml, hown, hts⟩ (w_byPlace l G y b0 σ_s_676 E hO (ad E a 1) 240 f1 (hO.roww h_a k13_1 isA1 e_680 rfl) v1q499 (show rng v1q499 from rv1q499) (by omega) (by omega) z_622 (show rng z_622 from rz_622) (by first | exact hy0 | exact (hy0).sub (by omega) (by omega)) (by omega) (by omega) (by omega)) (va_cwS 3 hts gX11_little_X11_byPlace rfl rfl rfl (by decide +kernel) ⟨Nat.le_of_ble_eq_true rfl, Nat.le_of_ble_eq_true rfl⟩) (th_PS hK hH) rfl rfl hl.1 rfl (lv_room (Nat.le_of_ble_eq_true rfl)) dX11_little_174 ⟨Nat.le_of_ble_eq_true rfl, Nat.le_of_ble_eq_true rfl⟩) hS (fun z_695 σ_s_694 H locs rz_695 hw_693 hH hS => ?_)
                  obtain ⟨e9, hw_693⟩ := hw_693
                  replace e9 := e9.symm
                  subst e9
                  have hw_693 : z_695 = -1 ∨ (kid f1 v1q499 z_695 ∧ v1q499 < z_695 ∧ z_695 < v1q499 + mS f1 v1q499) := hw_693
                  refine lv_goto (tgt := 181) hx hb dX11_little_177 (by decide) ?_
                  refine lv_istore_n (lv' := [(1, .int (I z_695)), (3, .int (I z_622)), (2, .int (I z_609)), (0, .ref a)]) hx hb dX11_little_181 rfl hl (by decide) rfl (fun ls hl => ?_)
                  refine lv_goto (tgt := 61) hx hb dX11_little_182 (by decide) ?_
                  replace hl : lv_has ls 6 [(1, .int (I z_695)), (0, .ref a)] := lv_sub hl [0, 3] rfl
                  obtain ⟨z_696, e_697, rz_696, lz_696, uz_696⟩ := hO.gi h_a (by decide) k13_13
                  obtain ⟨z_698, e_699, rz_698, lz_698, uz_698⟩ := hO.gi h_a (by decide) k13_14
                  obtain ⟨z_700, e_701, rz_700, lz_700, uz_700⟩ := hO.gi h_a (by decide) k13_19
                  exact ihJ_500 (z_695, z_696, z_698, z_700) σ_s_676 _ _ _ (by have h8 := hw_675.1.2; unfold pgo at h8; simp only [fg]; omega) ⟨hO, hF, hM, hsr, hH, hS, lv_sub hl [1, 0] rfl, rz_695, rz_696, rz_698, rz_700, by first | (dsimp only; omega) | omega, by first | (dsimp only; omega) | omega, by first | (dsimp only; omega) | omega, by first | (dsimp only; omega) | omega, by first | (dsimp only; omega) | omega, by first | (dsimp only; omega) | omega, by first | (dsimp only; omega) | omega, (hw_675.1.2.is (by first | (dsimp only; omega) | omega) (by first | (dsimp only; omega) | omega) (by first | (dsimp only; omega) | omega) (by first | (dsimp only; omega) | omega)), e_677, e_678, e_679, e_680, e_697, e_699, e_701⟩
              · replace c_682 := mt (I_eq (a := z_609) (b := 0) rz_609 (show rng 0 from ⟨by decide, by decide⟩)).mpr c_682
                refine lv_aload_n hx hb dX11_little_128 rfl (lv_at hl 2 rfl) ?_
                refine ok.getR hO h_a (by decide) k13_1 (by decide) (fun _ _ he hv kk => th_get (ci := 11) (C := RX11) (T := TX11) (N := 66) hx hb hts inX11 hown hK hH he rfl 1 (by decide) fl3 hv dX11_little_129 kk) ?_
                refine lv_iload_n hx hb dX11_little_132 rfl (lv_at hl 3 rfl) ?_
                refine th_calli (va_runS (As := [.ref (ad E a 1), .int (I v1q499)]) (rest := []) ⟨hx, hb, hml, hown, hts⟩ (w_kind l G y b0 σ_s_676 E hO (ad E a 1) 240 f1 (hO.roww h_a k13_1 isA1 e_680 rfl) v1q499 (show rng v1q499 from rv1q499) (by omega) (by omega) (by omega)) (va_cwS 2 hts gX11_little_X11_kind rfl rfl rfl (by decide +kernel) ⟨Nat.le_of_ble_eq_true rfl, Nat.le_of_ble_eq_true rfl⟩) (th_PS hK hH) rfl rfl hl.1 rfl (lv_room (Nat.le_of_ble_eq_true rfl)) dX11_little_133 ⟨Nat.le_of_ble_eq_true rfl, Nat.le_of_ble_eq_true rfl⟩) hS (fun z_704 σ_s_703 H locs rz_704 hw_702 hH hS => ?_)
                obtain ⟨e9, hw_702⟩ := hw_702
                replace e9 := e9.symm
                subst e9
                have hw_702 : z_704 = mK f1 v1q499 := hw_702
                refine lv_iconst (v := I 3) hx hb dX11_little_136 (by decide) ?_
                refine lv_icmp_ne (tgt := 152) hx hb dX11_little_137 (by decide) (fun c_705 => ?_) (fun c_705 => ?_)
                · replace c_705 := mt (I_eq (a := z_704) (b := 3) rz_704 (show rng 3 from ⟨by decide, by decide⟩)).mpr c_705
                  refine lv_iconst (v := I (-1)) hx hb dX11_little_152 (by decide) ?_
                  refine lv_goto (tgt := 181) hx hb dX11_little_153 (by decide) ?_
                  refine lv_istore_n (lv' := [(1, .int (I (-1))), (3, .int (I z_622)), (2, .int (I z_609)), (0, .ref a)]) hx hb dX11_little_181 rfl hl (by decide) rfl (fun ls hl => ?_)
                  refine lv_goto (tgt := 61) hx hb dX11_little_182 (by decide) ?_
                  replace hl : lv_has ls 6 [(1, .int (I (-1))), (0, .ref a)] := lv_sub hl [0, 3] rfl
                  obtain ⟨z_706, e_707, rz_706, lz_706, uz_706⟩ := hO.gi h_a (by decide) k13_13
                  obtain ⟨z_708, e_709, rz_708, lz_708, uz_708⟩ := hO.gi h_a (by decide) k13_14
                  obtain ⟨z_710, e_711, rz_710, lz_710, uz_710⟩ := hO.gi h_a (by decide) k13_19
                  exact ihJ_500 ((-1), z_706, z_708, z_710) σ_s_676 _ _ _ (by have h8 := hw_675.1.2; unfold pgo at h8; simp only [fg]; omega) ⟨hO, hF, hM, hsr, hH, hS, lv_sub hl [1, 0] rfl, (show rng (-1) from ⟨by decide, by decide⟩), rz_706, rz_708, rz_710, by first | (dsimp only; omega) | omega, by first | (dsimp only; omega) | omega, by first | (dsimp only; omega) | omega, by first | (dsimp only; omega) | omega, by first | (dsimp only; omega) | omega, by first | (dsimp only; omega) | omega, by first | (dsimp only; omega) | omega, (hw_675.1.2.is (by first | (dsimp only; omega) | omega) (by first | (dsimp only; omega) | omega) (by first | (dsimp only; omega) | omega) (by first | (dsimp only; omega) | omega)), e_677, e_678, e_679, e_680, e_707, e_709, e_711⟩
                · replace c_705 := (I_eq (a := z_704) (b := 3) rz_704 (show rng 3 from ⟨by decide, by decide⟩)).mp c_705
                  refine lv_aload_n hx hb dX11_little_140 rfl (lv_at hl 2 rfl) ?_
                  refine ok.getR hO h_a (by decide) k13_1 (by decide) (fun _ _ he hv kk => th_get (ci := 11) (C := RX11) (T := TX11) (N := 66) hx hb hts inX11 hown hK hH he rfl 1 (by decide) fl3 hv dX11_little_141 kk) ?_
                  refine lv_iload_n hx hb dX11_little_144 rfl (lv_at hl 3 rfl) ?_
                  refine lv_iload_n hx hb dX11_little_145 rfl (lv_at hl 0 rfl) ?_
                  refine th_calli (va_runS (As := [.ref (ad E a 1), .int (I v1q499), .int (I z_622)]) (rest := []) ⟨hx, hb, hml, hown, hts⟩ (w_byKey l G y b0 σ_s_676 E hO (ad E a 1) 240 f1 (hO.roww h_a k13_1 isA1 e_680 rfl) v1q499 (show rng v1q499 from rv1q499) (by omega) (by omega) z_622 (show rng z_622 from rz_622) (by first | exact hy0 | exact (hy0).sub (by omega) (by omega)) (by omega) (by omega) (by omega)) (va_cwS 3 hts gX11_little_X11_byKey rfl rfl rfl (by decide +kernel) ⟨Nat.le_of_ble_eq_true rfl, Nat.le_of_ble_eq_true rfl⟩) (th_PS hK hH) rfl rfl hl.1 rfl (lv_room (Nat.le_of_ble_eq_true rfl)) dX11_little_146 ⟨Nat.le_of_ble_eq_true rfl, Nat.le_of_ble_eq_true rfl⟩) hS (fun z_714 σ_s_713 H locs rz_714 hw_712 hH hS => ?_)
                  obtain ⟨e9, hw_712⟩ := hw_712
                  replace e9 := e9.symm
                  subst e9
                  have hw_712 : (z_714 = -1 ∧ nok f1 (v1q499 + 1) (v1q499 + mS f1 v1q499) z_622) ∨ (kid f1 v1q499 z_714 ∧ mY f1 z_714 = z_622 ∧ v1q499 < z_714 ∧ z_714 < v1q499 + mS f1 v1q499) := hw_712
                  refine lv_goto (tgt := 181) hx hb dX11_little_149 (by decide) ?_
                  refine lv_istore_n (lv' := [(1, .int (I z_714)), (3, .int (I z_622)), (2, .int (I z_609)), (0, .ref a)]) hx hb dX11_little_181 rfl hl (by decide) rfl (fun ls hl => ?_)
                  refine lv_goto (tgt := 61) hx hb dX11_little_182 (by decide) ?_
                  replace hl : lv_has ls 6 [(1, .int (I z_714)), (0, .ref a)] := lv_sub hl [0, 3] rfl
                  obtain ⟨z_715, e_716, rz_715, lz_715, uz_715⟩ := hO.gi h_a (by decide) k13_13
                  obtain ⟨z_717, e_718, rz_717, lz_717, uz_717⟩ := hO.gi h_a (by decide) k13_14
                  obtain ⟨z_719, e_720, rz_719, lz_719, uz_719⟩ := hO.gi h_a (by decide) k13_19
                  exact ihJ_500 (z_714, z_715, z_717, z_719) σ_s_676 _ _ _ (by have h8 := hw_675.1.2; unfold pgo at h8; simp only [fg]; omega) ⟨hO, hF, hM, hsr, hH, hS, lv_sub hl [1, 0] rfl, rz_714, rz_715, rz_717, rz_719, by first | (dsimp only; omega) | omega, by first | (dsimp only; omega) | omega, by first | (dsimp only; omega) | omega, by first | (dsimp only; omega) | omega, by first | (dsimp only; omega) | omega, by first | (dsimp only; omega) | omega, by first | (dsimp only; omega) | omega, (hw_675.1.2.is (by first | (dsimp only; omega) | omega) (by first | (dsimp only; omega) | omega) (by first | (dsimp only; omega) | omega) (by first | (dsimp only; omega) | omega)), e_677, e_678, e_679, e_680, e_716, e_718, e_720⟩
            · replace c_681 := (I_eq (a := v1q499) (b := (-1)) rv1q499 (show rng (-1) from ⟨by decide, by decide⟩)).mp c_681
              refine lv_goto (tgt := 61) hx hb dX11_little_121 (by decide) ?_
              replace hl : lv_has ls 6 [(0, .ref a), (1, .int (I v1q499))] := lv_sub hl [2, 3] rfl
              obtain ⟨z_721, e_722, rz_721, lz_721, uz_721⟩ := hO.gi h_a (by decide) k13_13
              obtain ⟨z_723, e_724, rz_723, lz_723, uz_723⟩ := hO.gi h_a (by decide) k13_14
              obtain ⟨z_725, e_726, rz_725, lz_725, uz_725⟩ := hO.gi h_a (by decide) k13_19
              exact ihJ_500 (v1q499, z_721, z_723, z_725) σ_s_676 _ _ _ (by have h8 := hw_675.1.2; unfold pgo at h8; simp only [fg]; omega) ⟨hO, hF, hM, hsr, hH, hS, lv_sub hl [0, 1] rfl, rv1q499, rz_721, rz_723, rz_725, by first | (dsimp only; omega) | omega, by first | (dsimp only; omega) | omega, by first | (dsimp only; omega) | omega, by first | (dsimp only; omega) | omega, by first | (dsimp only; omega) | omega, by first | (dsimp only; omega) | omega, by first | (dsimp only; omega) | omega, (hw_675.1.2.is (by first | (dsimp only; omega) | omega) (by first | (dsimp only; omega) | omega) (by first | (dsimp only; omega) | omega) (by first | (dsimp only; omega) | omega)), e_677, e_678, e_679, e_680, e_722, e_724, e_726⟩
        · replace c_618 := mt (I_eq (a := z_609) (b := 0) rz_609 (show rng 0 from ⟨by decide, by decide⟩)).mpr c_618
          replace hw_607 := (hw_607.resolve_left c_618).2
          refine lv_aload_n hx hb dX11_little_94 rfl (lv_at hl 1 rfl) ?_
          obtain ⟨_, hc_727⟩ := hO.cell h_a (by decide) (ci := 11) rfl
          refine th_calli (va_runV (As := []) (rest := []) ⟨hx, hb, hml, hown, hts⟩ (m_readWord l G y b0 σ_s_612 E hO a h_a Bf hsr (by omega)) (cwV 0 hts gX11_little_X11_readWord rfl rfl rfl (by decide +kernel) ⟨Nat.le_of_ble_eq_true rfl, Nat.le_of_ble_eq_true rfl⟩) (th_PV hK hH rfl hc_727) rfl rfl hl.1 rfl (lv_room (Nat.le_of_ble_eq_true rfl)) dX11_little_95 ⟨Nat.le_of_ble_eq_true rfl, Nat.le_of_ble_eq_true rfl⟩) hS (fun z_730 σ_s_729 H locs rz_730 hw_728 hH hS => ?_)
          obtain ⟨hO9, hF9, hM9, hw_728⟩ := hw_728
          replace hM := hM.tu hM9 (by decide)
          replace hF := hF.tu hF9 (by decide)
          have e_731 : gI σ_s_729 a 11 = a110 := (hM9.i (by decide)).trans e_613
          have e_732 : gI σ_s_729 a 30 = a300 := (hM9.i (by decide)).trans e_614
          have e_733 : gI σ_s_729 a 27 = z_28 := (hM9.i (by decide)).trans e_615
          have e_734 : aF σ_s_729 (ad E a 1) = f1 := (hM9.a (by decide) (by decide)).trans e_616
          replace hsr := hsr.mv hM9 (by decide) (by decide) (by decide) (by decide) (by decide)
          replace hO := hO9
          have hw_728 : (gI σ_s_612 a 13 ≤ gI σ_s_729 a 13 ∧ gI σ_s_729 a 13 ≤ gI σ_s_612 a 11 ∧ 0 ≤ gI σ_s_729 a 17 ∧ gI σ_s_729 a 17 ≤ gI σ_s_729 a 13) ∧ pgo (gI σ_s_729 a 19) (gI σ_s_729 a 14) (gI σ_s_612 a 13) (gI σ_s_729 a 13) ∧ bdo (gI σ_s_612 a 19) (gI σ_s_729 a 19) := hw_728
          refine lv_goto (tgt := 105) hx hb dX11_little_98 (by decide) ?_
          refine lv_istore_n (lv' := [(3, .int (I z_730)), (2, .int (I z_609)), (0, .ref a), (1, .int (I v1q499))]) hx hb dX11_little_105 rfl hl (by decide) rfl (fun ls hl => ?_)
          refine lv_iload_n hx hb dX11_little_106 rfl (lv_at hl 1 rfl) ?_
          refine lv_if_ne (tgt := 116) hx hb dX11_little_107 (by decide) (fun c_735 => ?_) (fun c_735 => ?_)
          · replace c_735 := mt (I_eq (a := z_609) (b := 0) rz_609 (show rng 0 from ⟨by decide, by decide⟩)).mpr c_735
            refine lv_iload_n hx hb dX11_little_116 rfl (lv_at hl 3 rfl) ?_
            refine lv_iconst (v := I (-1)) hx hb dX11_little_117 (by decide) ?_
            refine lv_icmp_ne (tgt := 124) hx hb dX11_little_118 (by decide) (fun c_736 => ?_) (fun c_736 => ?_)
            · replace c_736 := mt (I_eq (a := v1q499) (b := (-1)) rv1q499 (show rng (-1) from ⟨by decide, by decide⟩)).mpr c_736
              have hk1 := hy0 v1q499 (by omega) (by omega)
              refine lv_iload_n hx hb dX11_little_124 rfl (lv_at hl 1 rfl) ?_
              refine lv_if_eq (tgt := 156) hx hb dX11_little_125 (by decide) (fun c_737 => ?_) (fun c_737 => ?_)
              · replace c_737 := (I_eq (a := z_609) (b := 0) rz_609 (show rng 0 from ⟨by decide, by decide⟩)).mp c_737
                refine lv_aload_n hx hb dX11_little_156 rfl (lv_at hl 2 rfl) ?_
                refine ok.getR hO h_a (by decide) k13_1 (by decide) (fun _ _ he hv kk => th_get (ci := 11) (C := RX11) (T := TX11) (N := 66) hx hb hts inX11 hown hK hH he rfl 1 (by decide) fl3 hv dX11_little_157 kk) ?_
                refine lv_iload_n hx hb dX11_little_160 rfl (lv_at hl 3 rfl) ?_
                refine th_calli (va_runS (As := [.ref (ad E a 1), .int (I v1q499)]) (rest := []) ⟨hx, hb, hml, hown, hts⟩ (w_kind l G y b0 σ_s_729 E hO (ad E a 1) 240 f1 (hO.roww h_a k13_1 isA1 e_734 rfl) v1q499 (show rng v1q499 from rv1q499) (by omega) (by omega) (by omega)) (va_cwS 2 hts gX11_little_X11_kind rfl rfl rfl (by decide +kernel) ⟨Nat.le_of_ble_eq_true rfl, Nat.le_of_ble_eq_true rfl⟩) (th_PS hK hH) rfl rfl hl.1 rfl (lv_room (Nat.le_of_ble_eq_true rfl)) dX11_little_161 ⟨Nat.le_of_ble_eq_true rfl, Nat.le_of_ble_eq_true rfl⟩) hS (fun z_740 σ_s_739 H locs rz_740 hw_738 hH hS => ?_)
                obtain ⟨e9, hw_738⟩ := hw_738
                replace e9 := e9.symm
                subst e9
                have hw_738 : z_740 = mK f1 v1q499 := hw_738
                refine lv_iconst (v := I 2) hx hb dX11_little_164 (by decide) ?_
                refine lv_icmp_ne (tgt := 180) hx hb dX11_little_165 (by decide) (fun c_741 => ?_) (fun c_741 => ?_)
                · replace c_741 := mt (I_eq (a := z_740) (b := 2) rz_740 (show rng 2 from ⟨by decide, by decide⟩)).mpr c_741
                  refine lv_iconst (v := I (-1)) hx hb dX11_little_180 (by decide) ?_
                  refine lv_istore_n (lv' := [(1, .int (I (-1))), (3, .int (I z_730)), (2, .int (I z_609)), (0, .ref a)]) hx hb dX11_little_181 rfl hl (by decide) rfl (fun ls hl => ?_)
                  refine lv_goto (tgt := 61) hx hb dX11_little_182 (by decide) ?_
                  replace hl : lv_has ls 6 [(1, .int (I (-1))), (0, .ref a)] := lv_sub hl [0, 3] rfl
                  obtain ⟨z_742, e_743, rz_742, lz_742, uz_742⟩ := hO.gi h_a (by decide) k13_13
                  obtain ⟨z_744, e_745, rz_744, lz_744, uz_744⟩ := hO.gi h_a (by decide) k13_14
                  obtain ⟨z_746, e_747, rz_746, lz_746, uz_746⟩ := hO.gi h_a (by decide) k13_19
                  exact ihJ_500 ((-1), z_742, z_744, z_746) σ_s_729 _ _ _ (by have h8 := hw_728.1.2; unfold pgo at h8; simp only [fg]; omega) ⟨hO, hF, hM, hsr, hH, hS, lv_sub hl [1, 0] rfl, (show rng (-1) from ⟨by decide, by decide⟩), rz_742, rz_744, rz_746, by first | (dsimp only; omega) | omega, by first | (dsimp only; omega) | omega, by first | (dsimp only; omega) | omega, by first | (dsimp only; omega) | omega, by first | (dsimp only; omega) | omega, by first | (dsimp only; omega) | omega, by first | (dsimp only; omega) | omega, (hw_728.1.2.is (by first | (dsimp only; omega) | omega) (by first | (dsimp only; omega) | omega) (by first | (dsimp only; omega) | omega) (by first | (dsimp only; omega) | omega)), e_731, e_732, e_733, e_734, e_743, e_745, e_747⟩
                · replace c_741 := (I_eq (a := z_740) (b := 2) rz_740 (show rng 2 from ⟨by decide, by decide⟩)).mp c_741
                  refine lv_aload_n hx hb dX11_little_168 rfl (lv_at hl 2 rfl) ?_
                  refine ok.getR hO h_a (by decide) k13_1 (by decide) (fun _ _ he hv kk => th_get (ci := 11) (C := RX11) (T := TX11) (N := 66) hx hb hts inX11 hown hK hH he rfl 1 (by decide) fl3 hv dX11_little_169 kk) ?_
                  refine lv_iload_n hx hb dX11_little_172 rfl (lv_at hl 3 rfl) ?_
                  refine lv_iload_n hx hb dX11_little_173 rfl (lv_at hl 0 rfl) ?_
                  refine th_calli (va_runS (As := [.ref (ad E a 1), .int (I v1q499), .int (I z_730)]) (rest := []) ⟨hx, hb, hml, hown, hts⟩ (w_byPlace l G y b0 σ_s_729 E hO (ad E a 1) 240 f1 (hO.roww h_a k13_1 isA1 e_734 rfl) v1q499 (show rng v1q499 from rv1q499) (by omega) (by omega) z_730 (show rng z_730 from rz_730) (by first | exact hy0 | exact (hy0).sub (by omega) (by omega)) (by omega) (by omega) (by omega)) (va_cwS 3 hts gX11_little_X11_byPlace rfl rfl rfl (by decide +kernel) ⟨Nat.le_of_ble_eq_true rfl, Nat.le_of_ble_eq_true rfl⟩) (th_PS hK hH) rfl rfl hl.1 rfl (lv_room (Nat.le_of_ble_eq_true rfl)) dX11_little_174 ⟨Nat.le_of_ble_eq_true rfl, Nat.le_of_ble_eq_true rfl⟩) hS (fun z_750 σ_s_749 H locs rz_750 hw_748 hH hS => ?_)
                  obtain ⟨e9, hw_748⟩ := hw_748
                  replace e9 := e9.symm
                  subst e9
                  have hw_748 : z_750 = -1 ∨ (kid f1 v1q499 z_750 ∧ v1q499 < z_750 ∧ z_750 < v1q499 + mS f1 v1q499) := hw_748
                  refine lv_goto (tgt := 181) hx hb dX11_little_177 (by decide) ?_
                  refine lv_istore_n (lv' := [(1, .int (I z_750)), (3, .int (I z_730)), (2, .int (I z_609)), (0, .ref a)]) hx hb dX11_little_181 rfl hl (by decide) rfl (fun ls hl => ?_)
                  refine lv_goto (tgt := 61) hx hb dX11_little_182 (by decide) ?_
                  replace hl : lv_has ls 6 [(1, .int (I z_750)), (0, .ref a)] := lv_sub hl [0, 3] rfl
                  obtain ⟨z_751, e_752, rz_751, lz_751, uz_751⟩ := hO.gi h_a (by decide) k13_13
                  obtain ⟨z_753, e_754, rz_753, lz_753, uz_753⟩ := hO.gi h_a (by decide) k13_14
                  obtain ⟨z_755, e_756, rz_755, lz_755, uz_755⟩ := hO.gi h_a (by decide) k13_19
                  exact ihJ_500 (z_750, z_751, z_753, z_755) σ_s_729 _ _ _ (by have h8 := hw_728.1.2; unfold pgo at h8; simp only [fg]; omega) ⟨hO, hF, hM, hsr, hH, hS, lv_sub hl [1, 0] rfl, rz_750, rz_751, rz_753, rz_755, by first | (dsimp only; omega) | omega, by first | (dsimp only; omega) | omega, by first | (dsimp only; omega) | omega, by first | (dsimp only; omega) | omega, by first | (dsimp only; omega) | omega, by first | (dsimp only; omega) | omega, by first | (dsimp only; omega) | omega, (hw_728.1.2.is (by first | (dsimp only; omega) | omega) (by first | (dsimp only; omega) | omega) (by first | (dsimp only; omega) | omega) (by first | (dsimp only; omega) | omega)), e_731, e_732, e_733, e_734, e_752, e_754, e_756⟩
              · replace c_737 := mt (I_eq (a := z_609) (b := 0) rz_609 (show rng 0 from ⟨by decide, by decide⟩)).mpr c_737
                refine lv_aload_n hx hb dX11_little_128 rfl (lv_at hl 2 rfl) ?_
                refine ok.getR hO h_a (by decide) k13_1 (by decide) (fun _ _ he hv kk => th_get (ci := 11) (C := RX11) (T := TX11) (N := 66) hx hb hts inX11 hown hK hH he rfl 1 (by decide) fl3 hv dX11_little_129 kk) ?_
                refine lv_iload_n hx hb dX11_little_132 rfl (lv_at hl 3 rfl) ?_
                refine th_calli (va_runS (As := [.ref (ad E a 1), .int (I v1q499)]) (rest := []) ⟨hx, hb, hml, hown, hts⟩ (w_kind l G y b0 σ_s_729 E hO (ad E a 1) 240 f1 (hO.roww h_a k13_1 isA1 e_734 rfl) v1q499 (show rng v1q499 from rv1q499) (by omega) (by omega) (by omega)) (va_cwS 2 hts gX11_little_X11_kind rfl rfl rfl (by decide +kernel) ⟨Nat.le_of_ble_eq_true rfl, Nat.le_of_ble_eq_true rfl⟩) (th_PS hK hH) rfl rfl hl.1 rfl (lv_room (Nat.le_of_ble_eq_true rfl)) dX11_little_133 ⟨Nat.le_of_ble_eq_true rfl, Nat.le_of_ble_eq_true rfl⟩) hS (fun z_759 σ_s_758 H locs rz_759 hw_757 hH hS => ?_)
                obtain ⟨e9, hw_757⟩ := hw_757
                replace e9 := e9.symm
                subst e9
                have hw_757 : z_759 = mK f1 v1q499 := hw_757
                refine lv_iconst (v := I 3) hx hb dX11_little_136 (by decide) ?_
                refine lv_icmp_ne (tgt := 152) hx hb dX11_little_137 (by decide) (fun c_760 => ?_) (fun c_760 => ?_)
                · replace c_760 := mt (I_eq (a := z_759) (b := 3) rz_759 (show rng 3 from ⟨by decide, by decide⟩)).mpr c_760
                  refine lv_iconst (v := I (-1)) hx hb dX11_little_152 (by decide) ?_
                  refine lv_goto (tgt := 181) hx hb dX11_little_153 (by decide) ?_
                  refine lv_istore_n (lv' := [(1, .int (I (-1))), (3, .int (I z_730)), (2, .int (I z_609)), (0, .ref a)]) hx hb dX11_little_181 rfl hl (by decide) rfl (fun ls hl => ?_)
                  refine lv_goto (tgt := 61) hx hb dX11_little_182 (by decide) ?_
                  replace hl : lv_has ls 6 [(1, .int (I (-1))), (0, .ref a)] := lv_sub hl [0, 3] rfl
                  obtain ⟨z_761, e_762, rz_761, lz_761, uz_761⟩ := hO.gi h_a (by decide) k13_13
                  obtain ⟨z_763, e_764, rz_763, lz_763, uz_763⟩ := hO.gi h_a (by decide) k13_14
                  obtain ⟨z_765, e_766, rz_765, lz_765, uz_765⟩ := hO.gi h_a (by decide) k13_19
                  exact ihJ_500 ((-1), z_761, z_763, z_765) σ_s_729 _ _ _ (by have h8 := hw_728.1.2; unfold pgo at h8; simp only [fg]; omega) ⟨hO, hF, hM, hsr, hH, hS, lv_sub hl [1, 0] rfl, (show rng (-1) from ⟨by decide, by decide⟩), rz_761, rz_763, rz_765, by first | (dsimp only; omega) | omega, by first | (dsimp only; omega) | omega, by first | (dsimp only; omega) | omega, by first | (dsimp only; omega) | omega, by first | (dsimp only; omega) | omega, by first | (dsimp only; omega) | omega, by first | (dsimp only; omega) | omega, (hw_728.1.2.is (by first | (dsimp only; omega) | omega) (by first | (dsimp only; omega) | omega) (by first | (dsimp only; omega) | omega) (by first | (dsimp only; omega) | omega)), e_731, e_732, e_733, e_734, e_762, e_764, e_766⟩
                · replace c_760 := (I_eq (a := z_759) (b := 3) rz_759 (show rng 3 from ⟨by decide, by decide⟩)).mp c_760
                  refine lv_aload_n hx hb dX11_little_140 rfl (lv_at hl 2 rfl) ?_
                  refine ok.getR hO h_a (by decide) k13_1 (by decide) (fun _ _ he hv kk => th_get (ci := 11) (C := RX11) (T := TX11) (N := 66) hx hb hts inX11 hown hK hH he rfl 1 (by decide) fl3 hv dX11_little_141 kk) ?_
                  refine lv_iload_n hx hb dX11_little_144 rfl (lv_at hl 3 rfl) ?_
                  refine lv_iload_n hx hb dX11_little_145 rfl (lv_at hl 0 rfl) ?_
                  refine th_calli (va_runS (As := [.ref (ad E a 1), .int (I v1q499), .int (I z_730)]) (rest := []) ⟨hx, hb, hml, hown, hts⟩ (w_byKey l G y b0 σ_s_729 E hO (ad E a 1) 240 f1 (hO.roww h_a k13_1 isA1 e_734 rfl) v1q499 (show rng v1q499 from rv1q499) (by omega) (by omega) z_730 (show rng z_730 from rz_730) (by first | exact hy0 | exact (hy0).sub (by omega) (by omega)) (by omega) (by omega) (by omega)) (va_cwS 3 hts gX11_little_X11_byKey rfl rfl rfl (by decide +kernel) ⟨Nat.le_of_ble_eq_true rfl, Nat.le_of_ble_eq_true rfl⟩) (th_PS hK hH) rfl rfl hl.1 rfl (lv_room (Nat.le_of_ble_eq_true rfl)) dX11_little_146 ⟨Nat.le_of_ble_eq_true rfl, Nat.le_of_ble_eq_true rfl⟩) hS (fun z_769 σ_s_768 H locs rz_769 hw_767 hH hS => ?_)
                  obtain ⟨e9, hw_767⟩ := hw_767
                  replace e9 := e9.symm
                  subst e9
                  have hw_767 : (z_769 = -1 ∧ nok f1 (v1q499 + 1) (v1q499 + mS f1 v1q499) z_730) ∨ (kid f1 v1q499 z_769 ∧ mY f1 z_769 = z_730 ∧ v1q499 < z_769 ∧ z_769 < v1q499 + mS f1 v1q499) := hw_767
                  refine lv_goto (tgt := 181) hx hb dX11_little_149 (by decide) ?_
                  refine lv_istore_n (lv' := [(1, .int (I z_769)), (3, .int (I z_730)), (2, .int (I z_609)), (0, .ref a)]) hx hb dX11_little_181 rfl hl (by decide) rfl (fun ls hl => ?_)
                  refine lv_goto (tgt := 61) hx hb dX11_little_182 (by decide) ?_
                  replace hl : lv_has ls 6 [(1, .int (I z_769)), (0, .ref a)] := lv_sub hl [0, 3] rfl
                  obtain ⟨z_770, e_771, rz_770, lz_770, uz_770⟩ := hO.gi h_a (by decide) k13_13
                  obtain ⟨z_772, e_773, rz_772, lz_772, uz_772⟩ := hO.gi h_a (by decide) k13_14
                  obtain ⟨z_774, e_775, rz_774, lz_774, uz_774⟩ := hO.gi h_a (by decide) k13_19
                  exact ihJ_500 (z_769, z_770, z_772, z_774) σ_s_729 _ _ _ (by have h8 := hw_728.1.2; unfold pgo at h8; simp only [fg]; omega) ⟨hO, hF, hM, hsr, hH, hS, lv_sub hl [1, 0] rfl, rz_769, rz_770, rz_772, rz_774, by first | (dsimp only; omega) | omega, by first | (dsimp only; omega) | omega, by first | (dsimp only; omega) | omega, by first | (dsimp only; omega) | omega, by first | (dsimp only; omega) | omega, by first | (dsimp only; omega) | omega, by first | (dsimp only; omega) | omega, (hw_728.1.2.is (by first | (dsimp only; omega) | omega) (by first | (dsimp only; omega) | omega) (by first | (dsimp only; omega) | omega) (by first | (dsimp only; omega) | omega)), e_731, e_732, e_733, e_734, e_771, e_773, e_775⟩
            · replace c_736 := (I_eq (a := v1q499) (b := (-1)) rv1q499 (show rng (-1) from ⟨by decide, by decide⟩)).mp c_736
              refine lv_goto (tgt := 61) hx hb dX11_little_121 (by decide) ?_
              replace hl : lv_has ls 6 [(0, .ref a), (1, .int (I v1q499))] := lv_sub hl [2, 3] rfl
              obtain ⟨z_776, e_777, rz_776, lz_776, uz_776⟩ := hO.gi h_a (by decide) k13_13
              obtain ⟨z_778, e_779, rz_778, lz_778, uz_778⟩ := hO.gi h_a (by decide) k13_14
              obtain ⟨z_780, e_781, rz_780, lz_780, uz_780⟩ := hO.gi h_a (by decide) k13_19
              exact ihJ_500 (v1q499, z_776, z_778, z_780) σ_s_729 _ _ _ (by have h8 := hw_728.1.2; unfold pgo at h8; simp only [fg]; omega) ⟨hO, hF, hM, hsr, hH, hS, lv_sub hl [0, 1] rfl, rv1q499, rz_776, rz_778, rz_780, by first | (dsimp only; omega) | omega, by first | (dsimp only; omega) | omega, by first | (dsimp only; omega) | omega, by first | (dsimp only; omega) | omega, by first | (dsimp only; omega) | omega, by first | (dsimp only; omega) | omega, by first | (dsimp only; omega) | omega, (hw_728.1.2.is (by first | (dsimp only; omega) | omega) (by first | (dsimp only; omega) | omega) (by first | (dsimp only; omega) | omega) (by first | (dsimp only; omega) | omega)), e_731, e_732, e_733, e_734, e_777, e_779, e_781⟩
          · replace c_735 := (I_eq (a := z_609) (b := 0) rz_609 (show rng 0 from ⟨by decide, by decide⟩)).mp c_735
            refine lv_aload_n hx hb dX11_little_110 rfl (lv_at hl 2 rfl) ?_
            refine lv_bipush (v := I 93) hx hb dX11_little_111 (by decide) ?_
            obtain ⟨_, hc_782⟩ := hO.cell h_a (by decide) (ci := 11) rfl
            refine th_callv (va_runV (As := [.int (I 93)]) (rest := []) ⟨hx, hb, hml, hown, hts⟩ (m_need l G y b0 σ_s_729 E hO a h_a 93 (show rng 93 from (show rng 93 from ⟨by decide, by decide⟩)) Bf hsr (by omega)) (cwV 1 hts gX11_little_X11_need rfl rfl rfl (by decide +kernel) ⟨Nat.le_of_ble_eq_true rfl, Nat.le_of_ble_eq_true rfl⟩) (th_PV hK hH rfl hc_782) rfl rfl hl.1 rfl (lv_room (Nat.le_of_ble_eq_true rfl)) dX11_little_113 ⟨Nat.le_of_ble_eq_true rfl, Nat.le_of_ble_eq_true rfl⟩) hS (fun σ_s_784 H locs hw_783 hH hS => ?_)
            obtain ⟨hO9, hF9, hM9, hw_783⟩ := hw_783
            replace hM := hM.tu hM9 (by decide)
            replace hF := hF.tu hF9 (by decide)
            have e_785 : gI σ_s_784 a 11 = a110 := (hM9.i (by decide)).trans e_731
            have e_786 : gI σ_s_784 a 30 = a300 := (hM9.i (by decide)).trans e_732
            have e_787 : gI σ_s_784 a 27 = z_28 := (hM9.i (by decide)).trans e_733
            have e_788 : aF σ_s_784 (ad E a 1) = f1 := (hM9.a (by decide) (by decide)).trans e_734
            replace hsr := hsr.mv hM9 (by decide) (by decide) (by decide) (by decide) (by decide)
            replace hO := hO9
            have hw_783 : (gI σ_s_729 a 13 ≤ gI σ_s_784 a 13 ∧ gI σ_s_784 a 13 ≤ gI σ_s_729 a 11 ∧ 0 ≤ gI σ_s_784 a 17 ∧ gI σ_s_784 a 17 ≤ gI σ_s_784 a 13) ∧ pgo (gI σ_s_784 a 19) (gI σ_s_784 a 14) (gI σ_s_729 a 13) (gI σ_s_784 a 13) ∧ bdo (gI σ_s_729 a 19) (gI σ_s_784 a 19) := hw_783
            refine lv_iload_n hx hb dX11_little_116 rfl (lv_at hl 3 rfl) ?_
            refine lv_iconst (v := I (-1)) hx hb dX11_little_117 (by decide) ?_
            refine lv_icmp_ne (tgt := 124) hx hb dX11_little_118 (by decide) (fun c_789 => ?_) (fun c_789 => ?_)
            · replace c_789 := mt (I_eq (a := v1q499) (b := (-1)) rv1q499 (show rng (-1) from ⟨by decide, by decide⟩)).mpr c_789
              have hk1 := hy0 v1q499 (by omega) (by omega)
              refine lv_iload_n hx hb dX11_little_124 rfl (lv_at hl 1 rfl) ?_
              refine lv_if_eq (tgt := 156) hx hb dX11_little_125 (by decide) (fun c_790 => ?_) (fun c_790 => ?_)
              · replace c_790 := (I_eq (a := z_609) (b := 0) rz_609 (show rng 0 from ⟨by decide, by decide⟩)).mp c_790
                refine lv_aload_n hx hb dX11_little_156 rfl (lv_at hl 2 rfl) ?_
                refine ok.getR hO h_a (by decide) k13_1 (by decide) (fun _ _ he hv kk => th_get (ci := 11) (C := RX11) (T := TX11) (N := 66) hx hb hts inX11 hown hK hH he rfl 1 (by decide) fl3 hv dX11_little_157 kk) ?_
                refine lv_iload_n hx hb dX11_little_160 rfl (lv_at hl 3 rfl) ?_
                refine th_calli (va_runS (As := [.ref (ad E a 1), .int (I v1q499)]) (rest := []) ⟨hx, hb, hml, hown, hts⟩ (w_kind l G y b0 σ_s_784 E hO (ad E a 1) 240 f1 (hO.roww h_a k13_1 isA1 e_788 rfl) v1q499 (show rng v1q499 from rv1q499) (by omega) (by omega) (by omega)) (va_cwS 2 hts gX11_little_X11_kind rfl rfl rfl (by decide +kernel) ⟨Nat.le_of_ble_eq_true rfl, Nat.le_of_ble_eq_true rfl⟩) (th_PS hK hH) rfl rfl hl.1 rfl (lv_room (Nat.le_of_ble_eq_true rfl)) dX11_little_161 ⟨Nat.le_of_ble_eq_true rfl, Nat.le_of_ble_eq_true rfl⟩) hS (fun z_793 σ_s_792 H locs rz_793 hw_791 hH hS => ?_)
                obtain ⟨e9, hw_791⟩ := hw_791
                replace e9 := e9.symm
                subst e9
                have hw_791 : z_793 = mK f1 v1q499 := hw_791
                refine lv_iconst (v := I 2) hx hb dX11_little_164 (by decide) ?_
                refine lv_icmp_ne (tgt := 180) hx hb dX11_little_165 (by decide) (fun c_794 => ?_) (fun c_794 => ?_)
                · replace c_794 := mt (I_eq (a := z_793) (b := 2) rz_793 (show rng 2 from ⟨by decide, by decide⟩)).mpr c_794
                  refine lv_iconst (v := I (-1)) hx hb dX11_little_180 (by decide) ?_
                  refine lv_istore_n (lv' := [(1, .int (I (-1))), (3, .int (I z_730)), (2, .int (I z_609)), (0, .ref a)]) hx hb dX11_little_181 rfl hl (by decide) rfl (fun ls hl => ?_)
                  refine lv_goto (tgt := 61) hx hb dX11_little_182 (by decide) ?_
                  replace hl : lv_has ls 6 [(1, .int (I (-1))), (0, .ref a)] := lv_sub hl [0, 3] rfl
                  obtain ⟨z_795, e_796, rz_795, lz_795, uz_795⟩ := hO.gi h_a (by decide) k13_13
                  obtain ⟨z_797, e_798, rz_797, lz_797, uz_797⟩ := hO.gi h_a (by decide) k13_14
                  obtain ⟨z_799, e_800, rz_799, lz_799, uz_799⟩ := hO.gi h_a (by decide) k13_19
                  exact ihJ_500 ((-1), z_795, z_797, z_799) σ_s_784 _ _ _ (by have h8 := hw_783.1.2; unfold pgo at h8; simp only [fg]; omega) ⟨hO, hF, hM, hsr, hH, hS, lv_sub hl [1, 0] rfl, (show rng (-1) from ⟨by decide, by decide⟩), rz_795, rz_797, rz_799, by first | (dsimp only; omega) | omega, by first | (dsimp only; omega) | omega, by first | (dsimp only; omega) | omega, by first | (dsimp only; omega) | omega, by first | (dsimp only; omega) | omega, by first | (dsimp only; omega) | omega, by first | (dsimp only; omega) | omega, (hw_783.1.2.is (by first | (dsimp only; omega) | omega) (by first | (dsimp only; omega) | omega) (by first | (dsimp only; omega) | omega) (by first | (dsimp only; omega) | omega)), e_785, e_786, e_787, e_788, e_796, e_798, e_800⟩
                · replace c_794 := (I_eq (a := z_793) (b := 2) rz_793 (show rng 2 from ⟨by decide, by decide⟩)).mp c_794
                  refine lv_aload_n hx hb dX11_little_168 rfl (lv_at hl 2 rfl) ?_
                  refine ok.getR hO h_a (by decide) k13_1 (by decide) (fun _ _ he hv kk => th_get (ci := 11) (C := RX11) (T := TX11) (N := 66) hx hb hts inX11 hown hK hH he rfl 1 (by decide) fl3 hv dX11_little_169 kk) ?_
                  refine lv_iload_n hx hb dX11_little_172 rfl (lv_at hl 3 rfl) ?_
                  refine lv_iload_n hx hb dX11_little_173 rfl (lv_at hl 0 rfl) ?_
                  refine th_calli (va_runS (As := [.ref (ad E a 1), .int (I v1q499), .int (I z_730)]) (rest := []) ⟨hx, hb, hml, hown, hts⟩ (w_byPlace l G y b0 σ_s_784 E hO (ad E a 1) 240 f1 (hO.roww h_a k13_1 isA1 e_788 rfl) v1q499 (show rng v1q499 from rv1q499) (by omega) (by omega) z_730 (show rng z_730 from rz_730) (by first | exact hy0 | exact (hy0).sub (by omega) (by omega)) (by omega) (by omega) (by omega)) (va_cwS 3 hts gX11_little_X11_byPlace rfl rfl rfl (by decide +kernel) ⟨Nat.le_of_ble_eq_true rfl, Nat.le_of_ble_eq_true rfl⟩) (th_PS hK hH) rfl rfl hl.1 rfl (lv_room (Nat.le_of_ble_eq_true rfl)) dX11_little_174 ⟨Nat.le_of_ble_eq_true rfl, Nat.le_of_ble_eq_true rfl⟩) hS (fun z_803 σ_s_802 H locs rz_803 hw_801 hH hS => ?_)
                  obtain ⟨e9, hw_801⟩ := hw_801
                  replace e9 := e9.symm
                  subst e9
                  have hw_801 : z_803 = -1 ∨ (kid f1 v1q499 z_803 ∧ v1q499 < z_803 ∧ z_803 < v1q499 + mS f1 v1q499) := hw_801
                  refine lv_goto (tgt := 181) hx hb dX11_little_177 (by decide) ?_
                  refine lv_istore_n (lv' := [(1, .int (I z_803)), (3, .int (I z_730)), (2, .int (I z_609)), (0, .ref a)]) hx hb dX11_little_181 rfl hl (by decide) rfl (fun ls hl => ?_)
                  refine lv_goto (tgt := 61) hx hb dX11_little_182 (by decide) ?_
                  replace hl : lv_has ls 6 [(1, .int (I z_803)), (0, .ref a)] := lv_sub hl [0, 3] rfl
                  obtain ⟨z_804, e_805, rz_804, lz_804, uz_804⟩ := hO.gi h_a (by decide) k13_13
                  obtain ⟨z_806, e_807, rz_806, lz_806, uz_806⟩ := hO.gi h_a (by decide) k13_14
                  obtain ⟨z_808, e_809, rz_808, lz_808, uz_808⟩ := hO.gi h_a (by decide) k13_19
                  exact ihJ_500 (z_803, z_804, z_806, z_808) σ_s_784 _ _ _ (by have h8 := hw_783.1.2; unfold pgo at h8; simp only [fg]; omega) ⟨hO, hF, hM, hsr, hH, hS, lv_sub hl [1, 0] rfl, rz_803, rz_804, rz_806, rz_808, by first | (dsimp only; omega) | omega, by first | (dsimp only; omega) | omega, by first | (dsimp only; omega) | omega, by first | (dsimp only; omega) | omega, by first | (dsimp only; omega) | omega, by first | (dsimp only; omega) | omega, by first | (dsimp only; omega) | omega, (hw_783.1.2.is (by first | (dsimp only; omega) | omega) (by first | (dsimp only; omega) | omega) (by first | (dsimp only; omega) | omega) (by first | (dsimp only; omega) | omega)), e_785, e_786, e_787, e_788, e_805, e_807, e_809⟩
              · replace c_790 := mt (I_eq (a := z_609) (b := 0) rz_609 (show rng 0 from ⟨by decide, by decide⟩)).mpr c_790
                refine lv_aload_n hx hb dX11_little_128 rfl (lv_at hl 2 rfl) ?_
                refine ok.getR hO h_a (by decide) k13_1 (by decide) (fun _ _ he hv kk => th_get (ci := 11) (C := RX11) (T := TX11) (N := 66) hx hb hts inX11 hown hK hH he rfl 1 (by decide) fl3 hv dX11_little_129 kk) ?_
                refine lv_iload_n hx hb dX11_little_132 rfl (lv_at hl 3 rfl) ?_
                refine th_calli (va_runS (As := [.ref (ad E a 1), .int (I v1q499)]) (rest := []) ⟨hx, hb, hml, hown, hts⟩ (w_kind l G y b0 σ_s_784 E hO (ad E a 1) 240 f1 (hO.roww h_a k13_1 isA1 e_788 rfl) v1q499 (show rng v1q499 from rv1q499) (by omega) (by omega) (by omega)) (va_cwS 2 hts gX11_little_X11_kind rfl rfl rfl (by decide +kernel) ⟨Nat.le_of_ble_eq_true rfl, Nat.le_of_ble_eq_true rfl⟩) (th_PS hK hH) rfl rfl hl.1 rfl (lv_room (Nat.le_of_ble_eq_true rfl)) dX11_little_133 ⟨Nat.le_of_ble_eq_true rfl, Nat.le_of_ble_eq_true rfl⟩) hS (fun z_812 σ_s_811 H locs rz_812 hw_810 hH hS => ?_)
                obtain ⟨e9, hw_810⟩ := hw_810
                replace e9 := e9.symm
                subst e9
                have hw_810 : z_812 = mK f1 v1q499 := hw_810
                refine lv_iconst (v := I 3) hx hb dX11_little_136 (by decide) ?_
                refine lv_icmp_ne (tgt := 152) hx hb dX11_little_137 (by decide) (fun c_813 => ?_) (fun c_813 => ?_)
                · replace c_813 := mt (I_eq (a := z_812) (b := 3) rz_812 (show rng 3 from ⟨by decide, by decide⟩)).mpr c_813
                  refine lv_iconst (v := I (-1)) hx hb dX11_little_152 (by decide) ?_
                  refine lv_goto (tgt := 181) hx hb dX11_little_153 (by decide) ?_
                  refine lv_istore_n (lv' := [(1, .int (I (-1))), (3, .int (I z_730)), (2, .int (I z_609)), (0, .ref a)]) hx hb dX11_little_181 rfl hl (by decide) rfl (fun ls hl => ?_)
                  refine lv_goto (tgt := 61) hx hb dX11_little_182 (by decide) ?_
                  replace hl : lv_has ls 6 [(1, .int (I (-1))), (0, .ref a)] := lv_sub hl [0, 3] rfl
                  obtain ⟨z_814, e_815, rz_814, lz_814, uz_814⟩ := hO.gi h_a (by decide) k13_13
                  obtain ⟨z_816, e_817, rz_816, lz_816, uz_816⟩ := hO.gi h_a (by decide) k13_14
                  obtain ⟨z_818, e_819, rz_818, lz_818, uz_818⟩ := hO.gi h_a (by decide) k13_19
                  exact ihJ_500 ((-1), z_814, z_816, z_818) σ_s_784 _ _ _ (by have h8 := hw_783.1.2; unfold pgo at h8; simp only [fg]; omega) ⟨hO, hF, hM, hsr, hH, hS, lv_sub hl [1, 0] rfl, (show rng (-1) from ⟨by decide, by decide⟩), rz_814, rz_816, rz_818, by first | (dsimp only; omega) | omega, by first | (dsimp only; omega) | omega, by first | (dsimp only; omega) | omega, by first | (dsimp only; omega) | omega, by first | (dsimp only; omega) | omega, by first | (dsimp only; omega) | omega, by first | (dsimp only; omega) | omega, (hw_783.1.2.is (by first | (dsimp only; omega) | omega) (by first | (dsimp only; omega) | omega) (by first | (dsimp only; omega) | omega) (by first | (dsimp only; omega) | omega)), e_785, e_786, e_787, e_788, e_815, e_817, e_819⟩
                · replace c_813 := (I_eq (a := z_812) (b := 3) rz_812 (show rng 3 from ⟨by decide, by decide⟩)).mp c_813
                  refine lv_aload_n hx hb dX11_little_140 rfl (lv_at hl 2 rfl) ?_
                  refine ok.getR hO h_a (by decide) k13_1 (by decide) (fun _ _ he hv kk => th_get (ci := 11) (C := RX11) (T := TX11) (N := 66) hx hb hts inX11 hown hK hH he rfl 1 (by decide) fl3 hv dX11_little_141 kk) ?_
                  refine lv_iload_n hx hb dX11_little_144 rfl (lv_at hl 3 rfl) ?_
                  refine lv_iload_n hx hb dX11_little_145 rfl (lv_at hl 0 rfl) ?_
                  refine th_calli (va_runS (As := [.ref (ad E a 1), .int (I v1q499), .int (I z_730)]) (rest := []) ⟨hx, hb, hml, hown, hts⟩ (w_byKey l G y b0 σ_s_784 E hO (ad E a 1) 240 f1 (hO.roww h_a k13_1 isA1 e_788 rfl) v1q499 (show rng v1q499 from rv1q499) (by omega) (by omega) z_730 (show rng z_730 from rz_730) (by first | exact hy0 | exact (hy0).sub (by omega) (by omega)) (by omega) (by omega) (by omega)) (va_cwS 3 hts gX11_little_X11_byKey rfl rfl rfl (by decide +kernel) ⟨Nat.le_of_ble_eq_true rfl, Nat.le_of_ble_eq_true rfl⟩) (th_PS hK hH) rfl rfl hl.1 rfl (lv_room (Nat.le_of_ble_eq_true rfl)) dX11_little_146 ⟨Nat.le_of_ble_eq_true rfl, Nat.le_of_ble_eq_true rfl⟩) hS (fun z_822 σ_s_821 H locs rz_822 hw_820 hH hS => ?_)
                  obtain ⟨e9, hw_820⟩ := hw_820
                  replace e9 := e9.symm
                  subst e9
                  have hw_820 : (z_822 = -1 ∧ nok f1 (v1q499 + 1) (v1q499 + mS f1 v1q499) z_730) ∨ (kid f1 v1q499 z_822 ∧ mY f1 z_822 = z_730 ∧ v1q499 < z_822 ∧ z_822 < v1q499 + mS f1 v1q499) := hw_820
                  refine lv_goto (tgt := 181) hx hb dX11_little_149 (by decide) ?_
                  refine lv_istore_n (lv' := [(1, .int (I z_822)), (3, .int (I z_730)), (2, .int (I z_609)), (0, .ref a)]) hx hb dX11_little_181 rfl hl (by decide) rfl (fun ls hl => ?_)
                  refine lv_goto (tgt := 61) hx hb dX11_little_182 (by decide) ?_
                  replace hl : lv_has ls 6 [(1, .int (I z_822)), (0, .ref a)] := lv_sub hl [0, 3] rfl
                  obtain ⟨z_823, e_824, rz_823, lz_823, uz_823⟩ := hO.gi h_a (by decide) k13_13
                  obtain ⟨z_825, e_826, rz_825, lz_825, uz_825⟩ := hO.gi h_a (by decide) k13_14
                  obtain ⟨z_827, e_828, rz_827, lz_827, uz_827⟩ := hO.gi h_a (by decide) k13_19
                  exact ihJ_500 (z_822, z_823, z_825, z_827) σ_s_784 _ _ _ (by have h8 := hw_783.1.2; unfold pgo at h8; simp only [fg]; omega) ⟨hO, hF, hM, hsr, hH, hS, lv_sub hl [1, 0] rfl, rz_822, rz_823, rz_825, rz_827, by first | (dsimp only; omega) | omega, by first | (dsimp only; omega) | omega, by first | (dsimp only; omega) | omega, by first | (dsimp only; omega) | omega, by first | (dsimp only; omega) | omega, by first | (dsimp only; omega) | omega, by first | (dsimp only; omega) | omega, (hw_783.1.2.is (by first | (dsimp only; omega) | omega) (by first | (dsimp only; omega) | omega) (by first | (dsimp only; omega) | omega) (by first | (dsimp only; omega) | omega)), e_785, e_786, e_787, e_788, e_824, e_826, e_828⟩
            · replace c_789 := (I_eq (a := v1q499) (b := (-1)) rv1q499 (show rng (-1) from ⟨by decide, by decide⟩)).mp c_789
              refine lv_goto (tgt := 61) hx hb dX11_little_121 (by decide) ?_
              replace hl : lv_has ls 6 [(0, .ref a), (1, .int (I v1q499))] := lv_sub hl [2, 3] rfl
              obtain ⟨z_829, e_830, rz_829, lz_829, uz_829⟩ := hO.gi h_a (by decide) k13_13
              obtain ⟨z_831, e_832, rz_831, lz_831, uz_831⟩ := hO.gi h_a (by decide) k13_14
              obtain ⟨z_833, e_834, rz_833, lz_833, uz_833⟩ := hO.gi h_a (by decide) k13_19
              exact ihJ_500 (v1q499, z_829, z_831, z_833) σ_s_784 _ _ _ (by have h8 := hw_783.1.2; unfold pgo at h8; simp only [fg]; omega) ⟨hO, hF, hM, hsr, hH, hS, lv_sub hl [0, 1] rfl, rv1q499, rz_829, rz_831, rz_833, by first | (dsimp only; omega) | omega, by first | (dsimp only; omega) | omega, by first | (dsimp only; omega) | omega, by first | (dsimp only; omega) | omega, by first | (dsimp only; omega) | omega, by first | (dsimp only; omega) | omega, by first | (dsimp only; omega) | omega, (hw_783.1.2.is (by first | (dsimp only; omega) | omega) (by first | (dsimp only; omega) | omega) (by first | (dsimp only; omega) | omega) (by first | (dsimp only; omega) | omega)), e_785, e_786, e_787, e_788, e_830, e_832, e_834⟩
      · refine lv_if_ne (tgt := 79) hx hb dX11_little_67 (by decide) (fun c_835 => ?_) (fun c_835 => ?_)
        · replace c_835 := mt (I_eq (a := z_504) (b := 0) rz_504 (show rng 0 from ⟨by decide, by decide⟩)).mpr c_835
          exact jK_605 () σ_J_500 _ _ _ ⟨rfl, hH, hS, lv_sub hl [0, 1] rfl, by first | (dsimp only; omega) | omega⟩
        · replace c_835 := (I_eq (a := z_504) (b := 0) rz_504 (show rng 0 from ⟨by decide, by decide⟩)).mp c_835
          refine lv_aload_n hx hb dX11_little_70 rfl (lv_at hl 0 rfl) ?_
          refine lv_bipush (v := I 91) hx hb dX11_little_71 (by decide) ?_
          obtain ⟨_, hc_836⟩ := hO.cell h_a (by decide) (ci := 11) rfl
          refine th_calli (va_runV (As := [.int (I 91)]) (rest := []) ⟨hx, hb, hml, hown, hts⟩ (m_isMarked l G y b0 σ_J_500 E hO a h_a 91 (show rng 91 from (show rng 91 from ⟨by decide, by decide⟩)) Bf hsr (by omega)) (cwV 1 hts gX11_little_X11_isMarked rfl rfl rfl (by decide +kernel) ⟨Nat.le_of_ble_eq_true rfl, Nat.le_of_ble_eq_true rfl⟩) (th_PV hK hH rfl hc_836) rfl rfl hl.1 rfl (lv_room (Nat.le_of_ble_eq_true rfl)) dX11_little_73 ⟨Nat.le_of_ble_eq_true rfl, Nat.le_of_ble_eq_true rfl⟩) hS (fun z_839 σ_s_838 H locs rz_839 hw_837 hH hS => ?_)
          obtain ⟨e9, bhw_837, hw_837⟩ := hw_837
          replace e9 := e9.symm
          subst e9
          have hw_837 : z_839 = 0 ∨ (z_839 = 1 ∧ gI σ_J_500 a 19 = 0 ∧ gI σ_J_500 a 14 = 3 ∧ Bf (gI σ_J_500 a 17) = 91) := hw_837
          refine lv_if_eq (tgt := 185) hx hb dX11_little_76 (by decide) (fun c_840 => ?_) (fun c_840 => ?_)
          · replace c_840 := (I_eq (a := z_839) (b := 0) rz_839 (show rng 0 from ⟨by decide, by decide⟩)).mp c_840
            clear hw_837
            refine lv_aload_n hx hb dX11_little_185 rfl (lv_at hl 0 rfl) ?_
            refine lv_bipush (v := I 61) hx hb dX11_little_186 (by decide) ?_
            obtain ⟨_, hc_841⟩ := hO.cell h_a (by decide) (ci := 11) rfl
            refine th_calli (va_runV (As := [.int (I 61)]) (rest := []) ⟨hx, hb, hml, hown, hts⟩ (m_isMarked l G y b0 σ_J_500 E hO a h_a 61 (show rng 61 from (show rng 61 from ⟨by decide, by decide⟩)) Bf hsr (by omega)) (cwV 1 hts gX11_little_X11_isMarked rfl rfl rfl (by decide +kernel) ⟨Nat.le_of_ble_eq_true rfl, Nat.le_of_ble_eq_true rfl⟩) (th_PV hK hH rfl hc_841) rfl rfl hl.1 rfl (lv_room (Nat.le_of_ble_eq_true rfl)) dX11_little_188 ⟨Nat.le_of_ble_eq_true rfl, Nat.le_of_ble_eq_true rfl⟩) hS (fun z_844 σ_s_843 H locs rz_844 hw_842 hH hS => ?_)
            obtain ⟨e9, bhw_842, hw_842⟩ := hw_842
            replace e9 := e9.symm
            subst e9
            have hw_842 : z_844 = 0 ∨ (z_844 = 1 ∧ gI σ_J_500 a 19 = 0 ∧ gI σ_J_500 a 14 = 3 ∧ Bf (gI σ_J_500 a 17) = 61) := hw_842
            refine th_join (α := Int) (J := 217) (stk := fun x9 => [.int (I x9)]) (fun x9 σ9 H9 l9 ls9 => σ9 = σ_J_500 ∧ th_H G b0 σ9 H9 ∧ va_S (th_A b0) s.heap H9 l9 ∧ lv_has ls9 6 [(0, .ref a), (1, .int (I v1q499))] ∧ rng x9 ∧ (x9 = 0 ∨ x9 = 1)) ?_ (fun jK_857 => ?_)
            · intro x9 σ_K_857 H locs ls hI9
              obtain ⟨w0q856, ex9⟩ : ∃ z, z = x9 := ⟨_, rfl⟩
              subst ex9
              obtain ⟨eK_857, hH, hS, hl, rw0q856, K_857_0⟩ := hI9
              replace eK_857 := eK_857.symm
              subst eK_857
              have hl : lv_has ls 6 [(0, .ref a), (1, .int (I v1q499))] := hl
              have rw0q856 : rng w0q856 := rw0q856
              have K_857_0 : w0q856 = 0 ∨ w0q856 = 1 := K_857_0
              refine lv_istore_n (lv' := [(2, .int (I w0q856)), (0, .ref a), (1, .int (I v1q499))]) hx hb dX11_little_217 rfl hl (by decide) rfl (fun ls hl => ?_)
              refine lv_iload_n hx hb dX11_little_218 rfl (lv_at hl 0 rfl) ?_
              refine lv_if_ne (tgt := 233) hx hb dX11_little_219 (by decide) (fun c_858 => ?_) (fun c_858 => ?_)
              · replace c_858 := mt (I_eq (a := w0q856) (b := 0) rw0q856 (show rng 0 from ⟨by decide, by decide⟩)).mpr c_858
                refine lv_aload_n hx hb dX11_little_233 rfl (lv_at hl 1 rfl) ?_
                refine lv_aload_n hx hb dX11_little_234 rfl (lv_at hl 1 rfl) ?_
                refine ok.getI hO h_a (by decide) k13_17 (fun _ _ he hv kk => th_get (ci := 11) (C := RX11) (T := TX11) (N := 66) hx hb hts inX11 hown hK hH he rfl 17 (by decide) fl4 hv dX11_little_235 kk) (fun z_859 e_860 rz_859 lz_859 uz_859 => ?_)
                obtain ⟨_, hc_861⟩ := hO.cell h_a (by decide) (ci := 11) rfl
                refine th_calli (va_runV (As := [.int (I z_859)]) (rest := []) ⟨hx, hb, hml, hown, hts⟩ (m_byteAt l G y b0 σ_J_500 E hO a h_a z_859 (show rng z_859 from rz_859) (by omega) (by omega) Bf hsr) (cwV 1 hts gX11_little_X11_byteAt rfl rfl rfl (by decide +kernel) ⟨Nat.le_of_ble_eq_true rfl, Nat.le_of_ble_eq_true rfl⟩) (th_PV hK hH rfl hc_861) rfl rfl hl.1 rfl (lv_room (Nat.le_of_ble_eq_true rfl)) dX11_little_238 ⟨Nat.le_of_ble_eq_true rfl, Nat.le_of_ble_eq_true rfl⟩) hS (fun z_864 σ_s_863 H locs rz_864 hw_862 hH hS => ?_)
                obtain ⟨e9, hw_862⟩ := hw_862
                replace e9 := e9.symm
                subst e9
                have hw_862 : z_864 = Bf z_859 ∧ (z_864 = -1 ∨ z_859 < gI σ_J_500 a 11) := hw_862
                refine lv_istore_n (lv' := [(3, .int (I z_864)), (2, .int (I w0q856)), (0, .ref a), (1, .int (I v1q499))]) hx hb dX11_little_241 rfl hl (by decide) rfl (fun ls hl => ?_)
                refine lv_aload_n hx hb dX11_little_242 rfl (lv_at hl 2 rfl) ?_
                obtain ⟨_, hc_865⟩ := hO.cell h_a (by decide) (ci := 11) rfl
                refine th_callv (va_runV (As := []) (rest := []) ⟨hx, hb, hml, hown, hts⟩ (m_pass l G y b0 σ_J_500 E hO a h_a Bf hsr (by omega)) (cwV 0 hts gX11_little_X11_pass rfl rfl rfl (by decide +kernel) ⟨Nat.le_of_ble_eq_true rfl, Nat.le_of_ble_eq_true rfl⟩) (th_PV hK hH rfl hc_865) rfl rfl hl.1 rfl (lv_room (Nat.le_of_ble_eq_true rfl)) dX11_little_243 ⟨Nat.le_of_ble_eq_true rfl, Nat.le_of_ble_eq_true rfl⟩) hS (fun σ_s_867 H locs hw_866 hH hS => ?_)
                obtain ⟨hO9, hF9, hM9, hw_866⟩ := hw_866
                replace hM := hM.tu hM9 (by decide)
                replace hF := hF.tu hF9 (by decide)
                have e_868 : gI σ_s_867 a 11 = a110 := (hM9.i (by decide)).trans J_500_8
                have e_869 : gI σ_s_867 a 30 = a300 := (hM9.i (by decide)).trans J_500_9
                have e_870 : gI σ_s_867 a 27 = z_28 := (hM9.i (by decide)).trans J_500_10
                have e_871 : aF σ_s_867 (ad E a 1) = f1 := (hM9.a (by decide) (by decide)).trans J_500_11
                have e_872 : gI σ_s_867 a 19 = G19q498 := (hM9.i (by decide)).trans J_500_14
                replace hsr := hsr.mv hM9 (by decide) (by decide) (by decide) (by decide) (by decide)
                replace hO := hO9
                have hw_866 : (gI σ_J_500 a 13 ≤ gI σ_s_867 a 13 ∧ gI σ_s_867 a 13 ≤ gI σ_J_500 a 11 ∧ 0 ≤ gI σ_s_867 a 17 ∧ gI σ_s_867 a 17 ≤ gI σ_s_867 a 13) ∧ pgo (gI σ_s_867 a 19) (gI σ_s_867 a 14) (gI σ_J_500 a 13) (gI σ_s_867 a 13) ∧ gI σ_s_867 a 19 = gI σ_J_500 a 19 := hw_866
                refine lv_aload_n hx hb dX11_little_246 rfl (lv_at hl 2 rfl) ?_
                refine ok.getI hO h_a (by decide) k13_14 (fun _ _ he hv kk => th_get (ci := 11) (C := RX11) (T := TX11) (N := 66) hx hb hts inX11 hown hK hH he rfl 14 (by decide) fl5 hv dX11_little_247 kk) (fun z_873 e_874 rz_873 lz_873 uz_873 => ?_)
                refine lv_iconst (v := I 1) hx hb dX11_little_250 (by decide) ?_
                refine lv_icmp_ne (tgt := 258) hx hb dX11_little_251 (by decide) (fun c_875 => ?_) (fun c_875 => ?_)
                · replace c_875 := mt (I_eq (a := z_873) (b := 1) rz_873 (show rng 1 from ⟨by decide, by decide⟩)).mpr c_875
                  refine lv_iconst (v := I 0) hx hb dX11_little_258 (by decide) ?_
                  refine lv_istore (lv' := [(4, .int (I 0)), (3, .int (I z_864)), (2, .int (I w0q856)), (0, .ref a), (1, .int (I v1q499))]) hx hb dX11_little_259 hl (by decide) rfl (fun ls hl => ?_)
                  refine lv_iload hx hb dX11_little_261 (lv_at hl 0 rfl) ?_
                  refine lv_if_eq (tgt := 273) hx hb dX11_little_263 (by decide) (fun _ => ?_) (fun c_876 => absurd (by decide) c_876)
                  refine lv_aload_n hx hb dX11_little_273 rfl (lv_at hl 3 rfl) ?_
                  obtain ⟨_, hc_877⟩ := hO.cell h_a (by decide) (ci := 11) rfl
                  refine th_calli (va_runV (As := []) (rest := []) ⟨hx, hb, hml, hown, hts⟩ (m_readNumber l G y b0 σ_s_867 E hO a h_a Bf hsr (by omega)) (cwV 0 hts gX11_little_X11_readNumber rfl rfl rfl (by decide +kernel) ⟨Nat.le_of_ble_eq_true rfl, Nat.le_of_ble_eq_true rfl⟩) (th_PV hK hH rfl hc_877) rfl rfl hl.1 rfl (lv_room (Nat.le_of_ble_eq_true rfl)) dX11_little_274 ⟨Nat.le_of_ble_eq_true rfl, Nat.le_of_ble_eq_true rfl⟩) hS (fun z_880 σ_s_879 H locs rz_880 hw_878 hH hS => ?_)
                  obtain ⟨hO9, hF9, hM9, hw_878⟩ := hw_878
                  replace hM := hM.tu hM9 (by decide)
                  replace hF := hF.tu hF9 (by decide)
                  have e_881 : gI σ_s_879 a 11 = a110 := (hM9.i (by decide)).trans e_868
                  have e_882 : gI σ_s_879 a 30 = a300 := (hM9.i (by decide)).trans e_869
                  have e_883 : gI σ_s_879 a 27 = z_28 := (hM9.i (by decide)).trans e_870
                  have e_884 : aF σ_s_879 (ad E a 1) = f1 := (hM9.a (by decide) (by decide)).trans e_871
                  replace hsr := hsr.mv hM9 (by decide) (by decide) (by decide) (by decide) (by decide)
                  replace hO := hO9
                  have hw_878 : (gI σ_s_867 a 13 ≤ gI σ_s_879 a 13 ∧ gI σ_s_879 a 13 ≤ gI σ_s_867 a 11 ∧ 0 ≤ gI σ_s_879 a 17 ∧ gI σ_s_879 a 17 ≤ gI σ_s_879 a 13) ∧ pgo (gI σ_s_879 a 19) (gI σ_s_879 a 14) (gI σ_s_867 a 13) (gI σ_s_879 a 13) ∧ bdo (gI σ_s_867 a 19) (gI σ_s_879 a 19) := hw_878
                  refine lv_istore (lv' := [(5, .int (I z_880)), (4, .int (I 0)), (3, .int (I z_864)), (2, .int (I w0q856)), (0, .ref a), (1, .int (I v1q499))]) hx hb dX11_little_277 hl (by decide) rfl (fun ls hl => ?_)
                  refine lv_iload_n hx hb dX11_little_279 rfl (lv_at hl 5 rfl) ?_
                  refine lv_iconst (v := I (-1)) hx hb dX11_little_280 (by decide) ?_
                  refine lv_icmp_eq (tgt := 352) hx hb dX11_little_281 (by decide) (fun c_885 => ?_) (fun c_885 => ?_)
                  · replace c_885 := (I_eq (a := v1q499) (b := (-1)) rv1q499 (show rng (-1) from ⟨by decide, by decide⟩)).mp c_885
                    refine lv_iconst (v := I 0) hx hb dX11_little_352 (by decide) ?_
                    exact th_zret hx hb hr hlocks hH hS (z := 0) (by omega) ⟨hO, hF, hM, ⟨by omega, by omega⟩, ⟨by omega, hw_878.1.2.is (by first | (dsimp only; omega) | omega) (by first | (dsimp only; omega) | omega) (by first | (dsimp only; omega) | omega) (by first | (dsimp only; omega) | omega)⟩⟩ dX11_little_353
                  · replace c_885 := mt (I_eq (a := v1q499) (b := (-1)) rv1q499 (show rng (-1) from ⟨by decide, by decide⟩)).mpr c_885
                    have hk1 := hy0 v1q499 (by omega) (by omega)
                    refine lv_aload_n hx hb dX11_little_284 rfl (lv_at hl 4 rfl) ?_
                    refine ok.getR hO h_a (by decide) k13_1 (by decide) (fun _ _ he hv kk => th_get (ci := 11) (C := RX11) (T := TX11) (N := 66) hx hb hts inX11 hown hK hH he rfl 1 (by decide) fl3 hv dX11_little_285 kk) ?_
                    refine lv_iload_n hx hb dX11_little_288 rfl (lv_at hl 5 rfl) ?_
                    refine th_calli (va_runS (As := [.ref (ad E a 1), .int (I v1q499)]) (rest := []) ⟨hx, hb, hml, hown, hts⟩ (w_kind l G y b0 σ_s_879 E hO (ad E a 1) 240 f1 (hO.roww h_a k13_1 isA1 e_884 rfl) v1q499 (show rng v1q499 from rv1q499) (by omega) (by omega) (by omega)) (va_cwS 2 hts gX11_little_X11_kind rfl rfl rfl (by decide +kernel) ⟨Nat.le_of_ble_eq_true rfl, Nat.le_of_ble_eq_true rfl⟩) (th_PS hK hH) rfl rfl hl.1 rfl (lv_room (Nat.le_of_ble_eq_true rfl)) dX11_little_289 ⟨Nat.le_of_ble_eq_true rfl, Nat.le_of_ble_eq_true rfl⟩) hS (fun z_888 σ_s_887 H locs rz_888 hw_886 hH hS => ?_)
                    obtain ⟨e9, hw_886⟩ := hw_886
                    replace e9 := e9.symm
                    subst e9
                    have hw_886 : z_888 = mK f1 v1q499 := hw_886
                    refine lv_iload hx hb dX11_little_292 (lv_at hl 1 rfl) ?_
                    refine lv_if_eq (tgt := 301) hx hb dX11_little_294 (by decide) (fun _ => ?_) (fun c_889 => absurd (by decide) c_889)
                    refine lv_iconst (v := I 0) hx hb dX11_little_301 (by decide) ?_
                    refine lv_icmp_ne (tgt := 352) hx hb dX11_little_302 (by decide) (fun c_890 => ?_) (fun c_890 => ?_)
                    · replace c_890 := mt (I_eq (a := z_888) (b := 0) rz_888 (show rng 0 from ⟨by decide, by decide⟩)).mpr c_890
                      refine lv_iconst (v := I 0) hx hb dX11_little_352 (by decide) ?_
                      exact th_zret hx hb hr hlocks hH hS (z := 0) (by omega) ⟨hO, hF, hM, ⟨by omega, by omega⟩, ⟨by omega, hw_878.1.2.is (by first | (dsimp only; omega) | omega) (by first | (dsimp only; omega) | omega) (by first | (dsimp only; omega) | omega) (by first | (dsimp only; omega) | omega)⟩⟩ dX11_little_353
                    · replace c_890 := (I_eq (a := z_888) (b := 0) rz_888 (show rng 0 from ⟨by decide, by decide⟩)).mp c_890
                      refine lv_iload_n hx hb dX11_little_305 rfl (lv_at hl 2 rfl) ?_
                      refine lv_iload hx hb dX11_little_306 (lv_at hl 1 rfl) ?_
                      refine lv_if_eq (tgt := 329) hx hb dX11_little_308 (by decide) (fun _ => ?_) (fun c_891 => absurd (by decide) c_891)
                      refine lv_aload_n hx hb dX11_little_329 rfl (lv_at hl 4 rfl) ?_
                      refine ok.getR hO h_a (by decide) k13_1 (by decide) (fun _ _ he hv kk => th_get (ci := 11) (C := RX11) (T := TX11) (N := 66) hx hb hts inX11 hown hK hH he rfl 1 (by decide) fl3 hv dX11_little_330 kk) ?_
                      refine lv_iconst (v := I 4) hx hb dX11_little_333 (by decide) ?_
                      refine lv_iload_n hx hb dX11_little_334 rfl (lv_at hl 5 rfl) ?_
                      refine lv_imul hx hb dX11_little_335 ?_
                      refine nq_top (I_mul _ _) ?_
                      refine lv_iconst (v := I 1) hx hb dX11_little_336 (by decide) ?_
                      refine lv_iadd hx hb dX11_little_337 ?_
                      refine nq_top (I_add _ _) ?_
                      refine m_iald hx hb hK hH hO h_a k13_1 isA1 e_884 ⟨by omega, by omega⟩ (by omega) (by omega) dX11_little_338 (fun z_892 ez_892 rz_892 elx9 => ?_)
                      refine lv_iload hx hb dX11_little_339 (lv_at hl 0 rfl) ?_
                      refine lv_isub hx hb dX11_little_341 ?_
                      refine th_subo (fun z_893 rz_893 hz_893 => ?_)
                      refine th_calli (va_runS (As := [.int (I z_864), .int (I z_893)]) (rest := []) ⟨hx, hb, hml, hown, hts⟩ (w_isSigned l G y b0 σ_s_879 E hO z_864 (show rng z_864 from rz_864) z_893 (show rng z_893 from rz_893)) (va_cwS 2 hts gX11_little_X11_isSigned rfl rfl rfl (by decide +kernel) ⟨Nat.le_of_ble_eq_true rfl, Nat.le_of_ble_eq_true rfl⟩) (th_PS hK hH) rfl rfl hl.1 rfl (lv_room (Nat.le_of_ble_eq_true rfl)) dX11_little_342 ⟨Nat.le_of_ble_eq_true rfl, Nat.le_of_ble_eq_true rfl⟩) hS (fun z_896 σ_s_895 H locs rz_896 hw_894 hH hS => ?_)
                      obtain ⟨e9, bhw_894, hw_894⟩ := hw_894
                      replace e9 := e9.symm
                      subst e9
                      refine lv_if_eq (tgt := 352) hx hb dX11_little_345 (by decide) (fun c_897 => ?_) (fun c_897 => ?_)
                      · replace c_897 := (I_eq (a := z_896) (b := 0) rz_896 (show rng 0 from ⟨by decide, by decide⟩)).mp c_897
                        refine lv_iconst (v := I 0) hx hb dX11_little_352 (by decide) ?_
                        exact th_zret hx hb hr hlocks hH hS (z := 0) (by omega) ⟨hO, hF, hM, ⟨by omega, by omega⟩, ⟨by omega, hw_878.1.2.is (by first | (dsimp only; omega) | omega) (by first | (dsimp only; omega) | omega) (by first | (dsimp only; omega) | omega) (by first | (dsimp only; omega) | omega)⟩⟩ dX11_little_353
                      · replace c_897 := mt (I_eq (a := z_896) (b := 0) rz_896 (show rng 0 from ⟨by decide, by decide⟩)).mpr c_897
                        refine lv_iconst (v := I 1) hx hb dX11_little_348 (by decide) ?_
                        refine lv_goto (tgt := 353) hx hb dX11_little_349 (by decide) ?_
                        exact th_zret hx hb hr hlocks hH hS (z := 1) (by omega) ⟨hO, hF, hM, ⟨by omega, by omega⟩, ⟨by omega, hw_878.1.2.is (by first | (dsimp only; omega) | omega) (by first | (dsimp only; omega) | omega) (by first | (dsimp only; omega) | omega) (by first | (dsimp only; omega) | omega)⟩⟩ dX11_little_353
                · replace c_875 := (I_eq (a := z_873) (b := 1) rz_873 (show rng 1 from ⟨by decide, by decide⟩)).mp c_875
                  refine lv_iconst (v := I 1) hx hb dX11_little_254 (by decide) ?_
                  refine lv_goto (tgt := 259) hx hb dX11_little_255 (by decide) ?_
                  refine lv_istore (lv' := [(4, .int (I 1)), (3, .int (I z_864)), (2, .int (I w0q856)), (0, .ref a), (1, .int (I v1q499))]) hx hb dX11_little_259 hl (by decide) rfl (fun ls hl => ?_)
                  refine lv_iload hx hb dX11_little_261 (lv_at hl 0 rfl) ?_
                  refine lv_if_eq (tgt := 273) hx hb dX11_little_263 (by decide) (fun c_898 => absurd c_898 (by decide)) (fun _ => ?_)
                  refine lv_aload_n hx hb dX11_little_266 rfl (lv_at hl 3 rfl) ?_
                  obtain ⟨_, hc_899⟩ := hO.cell h_a (by decide) (ci := 11) rfl
                  refine th_calli (va_runV (As := []) (rest := []) ⟨hx, hb, hml, hown, hts⟩ (m_readWord l G y b0 σ_s_867 E hO a h_a Bf hsr (by omega)) (cwV 0 hts gX11_little_X11_readWord rfl rfl rfl (by decide +kernel) ⟨Nat.le_of_ble_eq_true rfl, Nat.le_of_ble_eq_true rfl⟩) (th_PV hK hH rfl hc_899) rfl rfl hl.1 rfl (lv_room (Nat.le_of_ble_eq_true rfl)) dX11_little_267 ⟨Nat.le_of_ble_eq_true rfl, Nat.le_of_ble_eq_true rfl⟩) hS (fun z_902 σ_s_901 H locs rz_902 hw_900 hH hS => ?_)
                  obtain ⟨hO9, hF9, hM9, hw_900⟩ := hw_900
                  replace hM := hM.tu hM9 (by decide)
                  replace hF := hF.tu hF9 (by decide)
                  have e_903 : gI σ_s_901 a 11 = a110 := (hM9.i (by decide)).trans e_868
                  have e_904 : gI σ_s_901 a 30 = a300 := (hM9.i (by decide)).trans e_869
                  have e_905 : gI σ_s_901 a 27 = z_28 := (hM9.i (by decide)).trans e_870
                  have e_906 : aF σ_s_901 (ad E a 1) = f1 := (hM9.a (by decide) (by decide)).trans e_871
                  replace hsr := hsr.mv hM9 (by decide) (by decide) (by decide) (by decide) (by decide)
                  replace hO := hO9
                  have hw_900 : (gI σ_s_867 a 13 ≤ gI σ_s_901 a 13 ∧ gI σ_s_901 a 13 ≤ gI σ_s_867 a 11 ∧ 0 ≤ gI σ_s_901 a 17 ∧ gI σ_s_901 a 17 ≤ gI σ_s_901 a 13) ∧ pgo (gI σ_s_901 a 19) (gI σ_s_901 a 14) (gI σ_s_867 a 13) (gI σ_s_901 a 13) ∧ bdo (gI σ_s_867 a 19) (gI σ_s_901 a 19) := hw_900
                  refine lv_goto (tgt := 277) hx hb dX11_little_270 (by decide) ?_
                  refine lv_istore (lv' := [(5, .int (I z_902)), (4, .int (I 1)), (3, .int (I z_864)), (2, .int (I w0q856)), (0, .ref a), (1, .int (I v1q499))]) hx hb dX11_little_277 hl (by decide) rfl (fun ls hl => ?_)
                  refine lv_iload_n hx hb dX11_little_279 rfl (lv_at hl 5 rfl) ?_
                  refine lv_iconst (v := I (-1)) hx hb dX11_little_280 (by decide) ?_
                  refine lv_icmp_eq (tgt := 352) hx hb dX11_little_281 (by decide) (fun c_907 => ?_) (fun c_907 => ?_)
                  · replace c_907 := (I_eq (a := v1q499) (b := (-1)) rv1q499 (show rng (-1) from ⟨by decide, by decide⟩)).mp c_907
                    refine lv_iconst (v := I 0) hx hb dX11_little_352 (by decide) ?_
                    exact th_zret hx hb hr hlocks hH hS (z := 0) (by omega) ⟨hO, hF, hM, ⟨by omega, by omega⟩, ⟨by omega, hw_900.1.2.is (by first | (dsimp only; omega) | omega) (by first | (dsimp only; omega) | omega) (by first | (dsimp only; omega) | omega) (by first | (dsimp only; omega) | omega)⟩⟩ dX11_little_353
                  · replace c_907 := mt (I_eq (a := v1q499) (b := (-1)) rv1q499 (show rng (-1) from ⟨by decide, by decide⟩)).mpr c_907
                    have hk1 := hy0 v1q499 (by omega) (by omega)
                    refine lv_aload_n hx hb dX11_little_284 rfl (lv_at hl 4 rfl) ?_
                    refine ok.getR hO h_a (by decide) k13_1 (by decide) (fun _ _ he hv kk => th_get (ci := 11) (C := RX11) (T := TX11) (N := 66) hx hb hts inX11 hown hK hH he rfl 1 (by decide) fl3 hv dX11_little_285 kk) ?_
                    refine lv_iload_n hx hb dX11_little_288 rfl (lv_at hl 5 rfl) ?_
                    refine th_calli (va_runS (As := [.ref (ad E a 1), .int (I v1q499)]) (rest := []) ⟨hx, hb, hml, hown, hts⟩ (w_kind l G y b0 σ_s_901 E hO (ad E a 1) 240 f1 (hO.roww h_a k13_1 isA1 e_906 rfl) v1q499 (show rng v1q499 from rv1q499) (by omega) (by omega) (by omega)) (va_cwS 2 hts gX11_little_X11_kind rfl rfl rfl (by decide +kernel) ⟨Nat.le_of_ble_eq_true rfl, Nat.le_of_ble_eq_true rfl⟩) (th_PS hK hH) rfl rfl hl.1 rfl (lv_room (Nat.le_of_ble_eq_true rfl)) dX11_little_289 ⟨Nat.le_of_ble_eq_true rfl, Nat.le_of_ble_eq_true rfl⟩) hS (fun z_910 σ_s_909 H locs rz_910 hw_908 hH hS => ?_)
                    obtain ⟨e9, hw_908⟩ := hw_908
                    replace e9 := e9.symm
                    subst e9
                    have hw_908 : z_910 = mK f1 v1q499 := hw_908
                    refine lv_iload hx hb dX11_little_292 (lv_at hl 1 rfl) ?_
                    refine lv_if_eq (tgt := 301) hx hb dX11_little_294 (by decide) (fun c_911 => absurd c_911 (by decide)) (fun _ => ?_)
                    refine lv_iconst (v := I 1) hx hb dX11_little_297 (by decide) ?_
                    refine lv_goto (tgt := 302) hx hb dX11_little_298 (by decide) ?_
                    refine lv_icmp_ne (tgt := 352) hx hb dX11_little_302 (by decide) (fun c_912 => ?_) (fun c_912 => ?_)
                    · replace c_912 := mt (I_eq (a := z_910) (b := 1) rz_910 (show rng 1 from ⟨by decide, by decide⟩)).mpr c_912
                      refine lv_iconst (v := I 0) hx hb dX11_little_352 (by decide) ?_
                      exact th_zret hx hb hr hlocks hH hS (z := 0) (by omega) ⟨hO, hF, hM, ⟨by omega, by omega⟩, ⟨by omega, hw_900.1.2.is (by first | (dsimp only; omega) | omega) (by first | (dsimp only; omega) | omega) (by first | (dsimp only; omega) | omega) (by first | (dsimp only; omega) | omega)⟩⟩ dX11_little_353
                    · replace c_912 := (I_eq (a := z_910) (b := 1) rz_910 (show rng 1 from ⟨by decide, by decide⟩)).mp c_912
                      refine lv_iload_n hx hb dX11_little_305 rfl (lv_at hl 2 rfl) ?_
                      refine lv_iload hx hb dX11_little_306 (lv_at hl 1 rfl) ?_
                      refine lv_if_eq (tgt := 329) hx hb dX11_little_308 (by decide) (fun c_913 => absurd c_913 (by decide)) (fun _ => ?_)
                      refine lv_aload_n hx hb dX11_little_311 rfl (lv_at hl 4 rfl) ?_
                      refine ok.getR hO h_a (by decide) k13_1 (by decide) (fun _ _ he hv kk => th_get (ci := 11) (C := RX11) (T := TX11) (N := 66) hx hb hts inX11 hown hK hH he rfl 1 (by decide) fl3 hv dX11_little_312 kk) ?_
                      refine lv_iconst (v := I 4) hx hb dX11_little_315 (by decide) ?_
                      refine lv_iload_n hx hb dX11_little_316 rfl (lv_at hl 5 rfl) ?_
                      refine lv_imul hx hb dX11_little_317 ?_
                      refine nq_top (I_mul _ _) ?_
                      refine lv_iconst (v := I 1) hx hb dX11_little_318 (by decide) ?_
                      refine lv_iadd hx hb dX11_little_319 ?_
                      refine nq_top (I_add _ _) ?_
                      refine m_iald hx hb hK hH hO h_a k13_1 isA1 e_906 ⟨by omega, by omega⟩ (by omega) (by omega) dX11_little_320 (fun z_914 ez_914 rz_914 elx9 => ?_)
                      refine lv_iload hx hb dX11_little_321 (lv_at hl 0 rfl) ?_
                      refine th_calli (va_runS (As := [.int (I z_914), .int (I z_902)]) (rest := [.int (I z_864)]) ⟨hx, hb, hml, hown, hts⟩ (w_compareWords l G y b0 σ_s_901 E hO z_914 (show rng z_914 from rz_914) z_902 (show rng z_902 from rz_902)) (va_cwS 2 hts gX11_little_X11_compareWords rfl rfl rfl (by decide +kernel) ⟨Nat.le_of_ble_eq_true rfl, Nat.le_of_ble_eq_true rfl⟩) (th_PS hK hH) rfl rfl hl.1 rfl (lv_room (Nat.le_of_ble_eq_true rfl)) dX11_little_323 ⟨Nat.le_of_ble_eq_true rfl, Nat.le_of_ble_eq_true rfl⟩) hS (fun z_917 σ_s_916 H locs rz_917 hw_915 hH hS => ?_)
                      obtain ⟨e9, hw_915⟩ := hw_915
                      replace e9 := e9.symm
                      subst e9
                      refine lv_goto (tgt := 342) hx hb dX11_little_326 (by decide) ?_
                      refine th_calli (va_runS (As := [.int (I z_864), .int (I z_917)]) (rest := []) ⟨hx, hb, hml, hown, hts⟩ (w_isSigned l G y b0 σ_s_901 E hO z_864 (show rng z_864 from rz_864) z_917 (show rng z_917 from rz_917)) (va_cwS 2 hts gX11_little_X11_isSigned rfl rfl rfl (by decide +kernel) ⟨Nat.le_of_ble_eq_true rfl, Nat.le_of_ble_eq_true rfl⟩) (th_PS hK hH) rfl rfl hl.1 rfl (lv_room (Nat.le_of_ble_eq_true rfl)) dX11_little_342 ⟨Nat.le_of_ble_eq_true rfl, Nat.le_of_ble_eq_true rfl⟩) hS (fun z_920 σ_s_919 H locs rz_920 hw_918 hH hS => ?_)
                      obtain ⟨e9, bhw_918, hw_918⟩ := hw_918
                      replace e9 := e9.symm
                      subst e9
                      refine lv_if_eq (tgt := 352) hx hb dX11_little_345 (by decide) (fun c_921 => ?_) (fun c_921 => ?_)
                      · replace c_921 := (I_eq (a := z_920) (b := 0) rz_920 (show rng 0 from ⟨by decide, by decide⟩)).mp c_921
                        refine lv_iconst (v := I 0) hx hb dX11_little_352 (by decide) ?_
                        exact th_zret hx hb hr hlocks hH hS (z := 0) (by omega) ⟨hO, hF, hM, ⟨by omega, by omega⟩, ⟨by omega, hw_900.1.2.is (by first | (dsimp only; omega) | omega) (by first | (dsimp only; omega) | omega) (by first | (dsimp only; omega) | omega) (by first | (dsimp only; omega) | omega)⟩⟩ dX11_little_353
                      · replace c_921 := mt (I_eq (a := z_920) (b := 0) rz_920 (show rng 0 from ⟨by decide, by decide⟩)).mpr c_921
                        refine lv_iconst (v := I 1) hx hb dX11_little_348 (by decide) ?_
                        refine lv_goto (tgt := 353) hx hb dX11_little_349 (by decide) ?_
                        exact th_zret hx hb hr hlocks hH hS (z := 1) (by omega) ⟨hO, hF, hM, ⟨by omega, by omega⟩, ⟨by omega, hw_900.1.2.is (by first | (dsimp only; omega) | omega) (by first | (dsimp only; omega) | omega) (by first | (dsimp only; omega) | omega) (by first | (dsimp only; omega) | omega)⟩⟩ dX11_little_353
              · replace c_858 := (I_eq (a := w0q856) (b := 0) rw0q856 (show rng 0 from ⟨by decide, by decide⟩)).mp c_858
                refine lv_iload_n hx hb dX11_little_222 rfl (lv_at hl 2 rfl) ?_
                refine lv_iconst (v := I (-1)) hx hb dX11_little_223 (by decide) ?_
                refine lv_icmp_eq (tgt := 231) hx hb dX11_little_224 (by decide) (fun c_922 => ?_) (fun c_922 => ?_)
                · replace c_922 := (I_eq (a := v1q499) (b := (-1)) rv1q499 (show rng (-1) from ⟨by decide, by decide⟩)).mp c_922
                  refine lv_iconst (v := I 0) hx hb dX11_little_231 (by decide) ?_
                  exact th_zret hx hb hr hlocks hH hS (z := 0) (by omega) ⟨hO, hF, hM, ⟨by omega, by omega⟩, ⟨by omega, J_500_7.is (by first | (dsimp only; omega) | omega) (by first | (dsimp only; omega) | omega) (by first | (dsimp only; omega) | omega) (by first | (dsimp only; omega) | omega)⟩⟩ dX11_little_232
                · replace c_922 := mt (I_eq (a := v1q499) (b := (-1)) rv1q499 (show rng (-1) from ⟨by decide, by decide⟩)).mpr c_922
                  refine lv_iconst (v := I 1) hx hb dX11_little_227 (by decide) ?_
                  refine lv_goto (tgt := 232) hx hb dX11_little_228 (by decide) ?_
                  exact th_zret hx hb hr hlocks hH hS (z := 1) (by omega) ⟨hO, hF, hM, ⟨by omega, by omega⟩, ⟨by omega, J_500_7.is (by first | (dsimp only; omega) | omega) (by first | (dsimp only; omega) | omega) (by first | (dsimp only; omega) | omega) (by first | (dsimp only; omega) | omega)⟩⟩ dX11_little_232
            · refine lv_if_ne (tgt := 212) hx hb dX11_little_191 (by decide) (fun c_923 => ?_) (fun c_923 => ?_)
              · replace c_923 := mt (I_eq (a := z_844) (b := 0) rz_844 (show rng 0 from ⟨by decide, by decide⟩)).mpr c_923
                refine lv_iconst (v := I 1) hx hb dX11_little_212 (by decide) ?_
                refine lv_goto (tgt := 217) hx hb dX11_little_213 (by decide) ?_
                exact jK_857 (1) σ_J_500 _ _ _ ⟨rfl, hH, hS, lv_sub hl [0, 1] rfl, (show rng 1 from ⟨by decide, by decide⟩), by first | (dsimp only; omega) | omega⟩
              · replace c_923 := (I_eq (a := z_844) (b := 0) rz_844 (show rng 0 from ⟨by decide, by decide⟩)).mp c_923
                refine lv_aload_n hx hb dX11_little_194 rfl (lv_at hl 0 rfl) ?_
                refine lv_bipush (v := I 60) hx hb dX11_little_195 (by decide) ?_
                obtain ⟨_, hc_924⟩ := hO.cell h_a (by decide) (ci := 11) rfl
                refine th_calli (va_runV (As := [.int (I 60)]) (rest := []) ⟨hx, hb, hml, hown, hts⟩ (m_isMarked l G y b0 σ_J_500 E hO a h_a 60 (show rng 60 from (show rng 60 from ⟨by decide, by decide⟩)) Bf hsr (by omega)) (cwV 1 hts gX11_little_X11_isMarked rfl rfl rfl (by decide +kernel) ⟨Nat.le_of_ble_eq_true rfl, Nat.le_of_ble_eq_true rfl⟩) (th_PV hK hH rfl hc_924) rfl rfl hl.1 rfl (lv_room (Nat.le_of_ble_eq_true rfl)) dX11_little_197 ⟨Nat.le_of_ble_eq_true rfl, Nat.le_of_ble_eq_true rfl⟩) hS (fun z_927 σ_s_926 H locs rz_927 hw_925 hH hS => ?_)
                obtain ⟨e9, bhw_925, hw_925⟩ := hw_925
                replace e9 := e9.symm
                subst e9
                have hw_925 : z_927 = 0 ∨ (z_927 = 1 ∧ gI σ_J_500 a 19 = 0 ∧ gI σ_J_500 a 14 = 3 ∧ Bf (gI σ_J_500 a 17) = 60) := hw_925
                refine lv_if_ne (tgt := 212) hx hb dX11_little_200 (by decide) (fun c_928 => ?_) (fun c_928 => ?_)
                · replace c_928 := mt (I_eq (a := z_927) (b := 0) rz_927 (show rng 0 from ⟨by decide, by decide⟩)).mpr c_928
                  replace hw_925 := (hw_925.resolve_left c_928).2
                  refine lv_iconst (v := I 1) hx hb dX11_little_212 (by decide) ?_
                  refine lv_goto (tgt := 217) hx hb dX11_little_213 (by decide) ?_
                  exact jK_857 (1) σ_J_500 _ _ _ ⟨rfl, hH, hS, lv_sub hl [0, 1] rfl, (show rng 1 from ⟨by decide, by decide⟩), by first | (dsimp only; omega) | omega⟩
                · replace c_928 := (I_eq (a := z_927) (b := 0) rz_927 (show rng 0 from ⟨by decide, by decide⟩)).mp c_928
                  clear hw_925
                  refine lv_aload_n hx hb dX11_little_203 rfl (lv_at hl 0 rfl) ?_
                  refine lv_bipush (v := I 62) hx hb dX11_little_204 (by decide) ?_
                  obtain ⟨_, hc_929⟩ := hO.cell h_a (by decide) (ci := 11) rfl
                  refine th_calli (va_runV (As := [.int (I 62)]) (rest := []) ⟨hx, hb, hml, hown, hts⟩ (m_isMarked l G y b0 σ_J_500 E hO a h_a 62 (show rng 62 from (show rng 62 from ⟨by decide, by decide⟩)) Bf hsr (by omega)) (cwV 1 hts gX11_little_X11_isMarked rfl rfl rfl (by decide +kernel) ⟨Nat.le_of_ble_eq_true rfl, Nat.le_of_ble_eq_true rfl⟩) (th_PV hK hH rfl hc_929) rfl rfl hl.1 rfl (lv_room (Nat.le_of_ble_eq_true rfl)) dX11_little_206 ⟨Nat.le_of_ble_eq_true rfl, Nat.le_of_ble_eq_true rfl⟩) hS (fun z_932 σ_s_931 H locs rz_932 hw_930 hH hS => ?_)
                  obtain ⟨e9, bhw_930, hw_930⟩ := hw_930
                  replace e9 := e9.symm
                  subst e9
                  have hw_930 : z_932 = 0 ∨ (z_932 = 1 ∧ gI σ_J_500 a 19 = 0 ∧ gI σ_J_500 a 14 = 3 ∧ Bf (gI σ_J_500 a 17) = 62) := hw_930
                  refine lv_if_eq (tgt := 216) hx hb dX11_little_209 (by decide) (fun c_933 => ?_) (fun c_933 => ?_)
                  · replace c_933 := (I_eq (a := z_932) (b := 0) rz_932 (show rng 0 from ⟨by decide, by decide⟩)).mp c_933
                    clear hw_930
                    refine lv_iconst (v := I 0) hx hb dX11_little_216 (by decide) ?_
                    exact jK_857 (0) σ_J_500 _ _ _ ⟨rfl, hH, hS, lv_sub hl [0, 1] rfl, (show rng 0 from ⟨by decide, by decide⟩), by first | (dsimp only; omega) | omega⟩
                  · replace c_933 := mt (I_eq (a := z_932) (b := 0) rz_932 (show rng 0 from ⟨by decide, by decide⟩)).mpr c_933
                    replace hw_930 := (hw_930.resolve_left c_933).2
                    refine lv_iconst (v := I 1) hx hb dX11_little_212 (by decide) ?_
                    refine lv_goto (tgt := 217) hx hb dX11_little_213 (by decide) ?_
                    exact jK_857 (1) σ_J_500 _ _ _ ⟨rfl, hH, hS, lv_sub hl [0, 1] rfl, (show rng 1 from ⟨by decide, by decide⟩), by first | (dsimp only; omega) | omega⟩
          · replace c_840 := mt (I_eq (a := z_839) (b := 0) rz_839 (show rng 0 from ⟨by decide, by decide⟩)).mpr c_840
            replace hw_837 := (hw_837.resolve_left c_840).2
            exact jK_605 () σ_J_500 _ _ _ ⟨rfl, hH, hS, lv_sub hl [0, 1] rfl, by first | (dsimp only; omega) | omega⟩
    · refine lv_if_ne (tgt := 42) hx hb dX11_little_18 (by decide) (fun c_934 => ?_) (fun c_934 => ?_)
      · replace c_934 := mt (I_eq (a := a190) (b := 0) ra190 (show rng 0 from ⟨by decide, by decide⟩)).mpr c_934
        exact jK_25 () σ _ _ _ ⟨hO, hF, hM, hsr, hH, hS, lv_sub hl [0] rfl, by first | (dsimp only; omega) | omega, ea110, ea130, ea140, ea170, ea300, ef1⟩
      · replace c_934 := (I_eq (a := a190) (b := 0) ra190 (show rng 0 from ⟨by decide, by decide⟩)).mp c_934
        refine lv_aload_n hx hb dX11_little_21 rfl (lv_at hl 0 rfl) ?_
        refine ok.getI hO h_a (by decide) k13_27 (fun _ _ he hv kk => th_get (ci := 11) (C := RX11) (T := TX11) (N := 66) hx hb hts inX11 hown hK hH he rfl 27 (by decide) fl1 hv dX11_little_22 kk) (fun z_935 e_936 rz_935 lz_935 uz_935 => ?_)
        refine lv_bipush (v := I 12) hx hb dX11_little_25 (by decide) ?_
        refine lv_icmp_ne (tgt := 42) hx hb dX11_little_27 (by decide) (fun c_937 => ?_) (fun c_937 => ?_)
        · replace c_937 := mt (I_eq (a := z_935) (b := 12) rz_935 (show rng 12 from ⟨by decide, by decide⟩)).mpr c_937
          exact jK_25 () σ _ _ _ ⟨hO, hF, hM, hsr, hH, hS, lv_sub hl [0] rfl, by first | (dsimp only; omega) | omega, ea110, ea130, ea140, ea170, ea300, ef1⟩
        · replace c_937 := (I_eq (a := z_935) (b := 12) rz_935 (show rng 12 from ⟨by decide, by decide⟩)).mp c_937
          refine lv_aload_n hx hb dX11_little_30 rfl (lv_at hl 0 rfl) ?_
          refine ok.getI hO h_a (by decide) k13_25 (fun _ _ he hv kk => th_get (ci := 11) (C := RX11) (T := TX11) (N := 66) hx hb hts inX11 hown hK hH he rfl 25 (by decide) fl6 hv dX11_little_31 kk) (fun z_938 e_939 rz_938 lz_938 uz_938 => ?_)
          refine lv_if_ne (tgt := 42) hx hb dX11_little_34 (by decide) (fun c_940 => ?_) (fun c_940 => ?_)
          · replace c_940 := mt (I_eq (a := z_938) (b := 0) rz_938 (show rng 0 from ⟨by decide, by decide⟩)).mpr c_940
            exact jK_25 () σ _ _ _ ⟨hO, hF, hM, hsr, hH, hS, lv_sub hl [0] rfl, by first | (dsimp only; omega) | omega, ea110, ea130, ea140, ea170, ea300, ef1⟩
          · replace c_940 := (I_eq (a := z_938) (b := 0) rz_938 (show rng 0 from ⟨by decide, by decide⟩)).mp c_940
            refine lv_aload_n hx hb dX11_little_37 rfl (lv_at hl 0 rfl) ?_
            refine lv_iconst (v := I 2) hx hb dX11_little_38 (by decide) ?_
            obtain ⟨_, hc_941⟩ := hO.cell h_a (by decide) (ci := 11) rfl
            refine th_callv (va_runV (As := [.int (I 2)]) (rest := []) ⟨hx, hb, hml, hown, hts⟩ (m_wrong l G y b0 σ E hO a h_a 2 (show rng 2 from (show rng 2 from ⟨by decide, by decide⟩)) (by omega) (by omega)) (cwV 1 hts gX11_little_X11_wrong rfl rfl rfl (by decide +kernel) ⟨Nat.le_of_ble_eq_true rfl, Nat.le_of_ble_eq_true rfl⟩) (th_PV hK hH rfl hc_941) rfl rfl hl.1 rfl (lv_room (Nat.le_of_ble_eq_true rfl)) dX11_little_39 ⟨Nat.le_of_ble_eq_true rfl, Nat.le_of_ble_eq_true rfl⟩) hS (fun σ_s_943 H locs hw_942 hH hS => ?_)
            obtain ⟨hO9, hF9, hM9, hw_942⟩ := hw_942
            replace hM := hM.tu hM9 (by decide)
            replace hF := hF.tu hF9 (by decide)
            have e_944 : aF σ_s_943 (ad E a 1) = f1 := (hM9.a (by decide) (by decide)).trans ef1
            have e_945 : gI σ_s_943 a 11 = a110 := (hM9.i (by decide)).trans ea110
            have e_946 : gI σ_s_943 a 13 = a130 := (hM9.i (by decide)).trans ea130
            have e_947 : gI σ_s_943 a 14 = a140 := (hM9.i (by decide)).trans ea140
            have e_948 : gI σ_s_943 a 17 = a170 := (hM9.i (by decide)).trans ea170
            have e_949 : gI σ_s_943 a 30 = a300 := (hM9.i (by decide)).trans ea300
            have e_950 : gI σ_s_943 a 27 = z_935 := (hM9.i (by decide)).trans e_936
            have e_951 : gI σ_s_943 a 25 = z_938 := (hM9.i (by decide)).trans e_939
            replace hsr := hsr.mv hM9 (by decide) (by decide) (by decide) (by decide) (by decide)
            replace hO := hO9
            have hw_942 : ¬ gI σ_s_943 a 19 = 0 ∧ (gI σ a 19 = 0 ∨ gI σ_s_943 a 19 = gI σ a 19) := hw_942
            exact jK_25 () σ_s_943 _ _ _ ⟨hO, hF, hM, hsr, hH, hS, lv_sub hl [0] rfl, by first | (dsimp only; omega) | omega, e_945, e_946, e_947, e_948, e_949, e_944⟩
  · replace c_5 := (I_eq (a := z_4) (b := 0) rz_4 (show rng 0 from ⟨by decide, by decide⟩)).mp c_5
    clear hw_2
    refine lv_aload_n hx hb dX11_little_9 rfl (lv_at hl 0 rfl) ?_
    refine lv_iconst (v := I 1) hx hb dX11_little_10 (by decide) ?_
    obtain ⟨_, hc_952⟩ := hO.cell h_a (by decide) (ci := 11) rfl
    refine th_callv (va_runV (As := [.int (I 1)]) (rest := []) ⟨hx, hb, hml, hown, hts⟩ (m_wrong l G y b0 σ E hO a h_a 1 (show rng 1 from (show rng 1 from ⟨by decide, by decide⟩)) (by omega) (by omega)) (cwV 1 hts gX11_little_X11_wrong rfl rfl rfl (by decide +kernel) ⟨Nat.le_of_ble_eq_true rfl, Nat.le_of_ble_eq_true rfl⟩) (th_PV hK hH rfl hc_952) rfl rfl hl.1 rfl (lv_room (Nat.le_of_ble_eq_true rfl)) dX11_little_11 ⟨Nat.le_of_ble_eq_true rfl, Nat.le_of_ble_eq_true rfl⟩) hS (fun σ_s_954 H locs hw_953 hH hS => ?_)
    obtain ⟨hO9, hF9, hM9, hw_953⟩ := hw_953
    replace hM := hM.tu hM9 (by decide)
    replace hF := hF.tu hF9 (by decide)
    have e_955 : aF σ_s_954 (ad E a 1) = f1 := (hM9.a (by decide) (by decide)).trans ef1
    have e_956 : gI σ_s_954 a 11 = a110 := (hM9.i (by decide)).trans ea110
    have e_957 : gI σ_s_954 a 13 = a130 := (hM9.i (by decide)).trans ea130
    have e_958 : gI σ_s_954 a 14 = a140 := (hM9.i (by decide)).trans ea140
    have e_959 : gI σ_s_954 a 17 = a170 := (hM9.i (by decide)).trans ea170
    have e_960 : gI σ_s_954 a 30 = a300 := (hM9.i (by decide)).trans ea300
    replace hsr := hsr.mv hM9 (by decide) (by decide) (by decide) (by decide) (by decide)
    replace hO := hO9
    have hw_953 : ¬ gI σ_s_954 a 19 = 0 ∧ (gI σ a 19 = 0 ∨ gI σ_s_954 a 19 = gI σ a 19) := hw_953
    refine lv_aload_n hx hb dX11_little_14 rfl (lv_at hl 0 rfl) ?_
    refine ok.getI hO h_a (by decide) k13_19 (fun _ _ he hv kk => th_get (ci := 11) (C := RX11) (T := TX11) (N := 66) hx hb hts inX11 hown hK hH he rfl 19 (by decide) fl0 hv dX11_little_15 kk) (fun z_961 e_962 rz_961 lz_961 uz_961 => ?_)
    refine th_join (α := Unit) (J := 42) (stk := fun x9 => []) (fun x9 σ9 H9 l9 ls9 => ok y E σ9 ∧ fr [13] E σ σ9 ∧ fm [13, 14, 15, 16, 17, 18, 19, 20, 27] E σ σ9 a ∧ sr E σ9 a Bf ∧ th_H G b0 σ9 H9 ∧ va_S (th_A b0) s.heap H9 l9 ∧ lv_has ls9 6 [(0, .ref a)] ∧ (gI σ a 13 ≤ gI σ9 a 13 ∧ gI σ9 a 13 ≤ gI σ a 11 ∧ 0 ≤ gI σ9 a 17 ∧ gI σ9 a 17 ≤ gI σ9 a 13) ∧ (gI σ9 a 11 = a110) ∧ (gI σ9 a 13 = a130) ∧ (gI σ9 a 14 = a140) ∧ (gI σ9 a 17 = a170) ∧ (gI σ9 a 30 = a300) ∧ (aF σ9 (ad E a 1) = f1)) ?_ (fun jK_982 => ?_)
    · intro x9 σ_K_982 H locs ls hI9
      obtain ⟨hO, hF, hM, hsr, hH, hS, hl, K_982_0, K_982_1, K_982_2, K_982_3, K_982_4, K_982_5, K_982_6⟩ := hI9
      have hl : lv_has ls 6 [(0, .ref a)] := hl
      have K_982_0 : gI σ a 13 ≤ gI σ_K_982 a 13 ∧ gI σ_K_982 a 13 ≤ gI σ a 11 ∧ 0 ≤ gI σ_K_982 a 17 ∧ gI σ_K_982 a 17 ≤ gI σ_K_982 a 13 := K_982_0
      have K_982_1 : gI σ_K_982 a 11 = a110 := K_982_1
      have K_982_2 : gI σ_K_982 a 13 = a130 := K_982_2
      have K_982_3 : gI σ_K_982 a 14 = a140 := K_982_3
      have K_982_4 : gI σ_K_982 a 17 = a170 := K_982_4
      have K_982_5 : gI σ_K_982 a 30 = a300 := K_982_5
      have K_982_6 : aF σ_K_982 (ad E a 1) = f1 := K_982_6
      refine lv_aload_n hx hb dX11_little_42 rfl (lv_at hl 0 rfl) ?_
      refine lv_dup hx hb dX11_little_43 rfl ?_
      refine ok.getI hO h_a (by decide) k13_27 (fun _ _ he hv kk => th_get (ci := 11) (C := RX11) (T := TX11) (N := 66) hx hb hts inX11 hown hK hH he rfl 27 (by decide) fl1 hv dX11_little_44 kk) (fun z_983 e_984 rz_983 lz_983 uz_983 => ?_)
      refine lv_iconst (v := I 1) hx hb dX11_little_47 (by decide) ?_
      refine lv_iadd hx hb dX11_little_48 ?_
      refine th_addo (fun z_985 rz_985 hz_985 => ?_)
      refine ok.putJ hO h_a k13_27 rz_985 (by omega) (by omega) (fun _ he hl9 kk => th_put (ci := 11) (v := .int (I z_985)) (ty := .int) (C := RX11) (T := TX11) (N := 66) hx hb hts inX11 tyX11 tyX11_ok nmX11 hown hK hH hS h00 he rfl 27 (by decide) fl1 rfl (by decide +kernel) rfl rfl hl9 dX11_little_49 kk) (fun σ_s_986 H locs hO hF9 hM9 hg9 ha9 hH hS => ?_)
      replace hM := hM.tu hM9 (by decide)
      replace hF := hF.tu hF9 (by decide)
      have e_987 : gI σ_s_986 a 11 = a110 := (hM9.i (by decide)).trans K_982_1
      have e_988 : gI σ_s_986 a 13 = a130 := (hM9.i (by decide)).trans K_982_2
      have e_989 : gI σ_s_986 a 14 = a140 := (hM9.i (by decide)).trans K_982_3
      have e_990 : gI σ_s_986 a 17 = a170 := (hM9.i (by decide)).trans K_982_4
      have e_991 : gI σ_s_986 a 30 = a300 := (hM9.i (by decide)).trans K_982_5
      have e_992 : aF σ_s_986 (ad E a 1) = f1 := (hM9.a (by decide) (by decide)).trans K_982_6
      replace hsr := hsr.mv hM9 (by decide) (by decide) (by decide) (by decide) (by decide)
      have e_993 := hg9
      refine lv_aload_n hx hb dX11_little_52 rfl (lv_at hl 0 rfl) ?_
      obtain ⟨_, hc_994⟩ := hO.cell h_a (by decide) (ci := 11) rfl
      refine th_callv (va_runV (As := []) (rest := []) ⟨hx, hb, hml, hown, hts⟩ (m_pass l G y b0 σ_s_986 E hO a h_a Bf hsr (by omega)) (cwV 0 hts gX11_little_X11_pass rfl rfl rfl (by decide +kernel) ⟨Nat.le_of_ble_eq_true rfl, Nat.le_of_ble_eq_true rfl⟩) (th_PV hK hH rfl hc_994) rfl rfl hl.1 rfl (lv_room (Nat.le_of_ble_eq_true rfl)) dX11_little_53 ⟨Nat.le_of_ble_eq_true rfl, Nat.le_of_ble_eq_true rfl⟩) hS (fun σ_s_996 H locs hw_995 hH hS => ?_)
      obtain ⟨hO9, hF9, hM9, hw_995⟩ := hw_995
      replace hM := hM.tu hM9 (by decide)
      replace hF := hF.tu hF9 (by decide)
      have e_997 : gI σ_s_996 a 11 = a110 := (hM9.i (by decide)).trans e_987
      have e_998 : gI σ_s_996 a 30 = a300 := (hM9.i (by decide)).trans e_991
      have e_999 : aF σ_s_996 (ad E a 1) = f1 := (hM9.a (by decide) (by decide)).trans e_992
      have e_1000 : gI σ_s_996 a 27 = z_985 := (hM9.i (by decide)).trans e_993
      replace hsr := hsr.mv hM9 (by decide) (by decide) (by decide) (by decide) (by decide)
      replace hO := hO9
      have hw_995 : (gI σ_s_986 a 13 ≤ gI σ_s_996 a 13 ∧ gI σ_s_996 a 13 ≤ gI σ_s_986 a 11 ∧ 0 ≤ gI σ_s_996 a 17 ∧ gI σ_s_996 a 17 ≤ gI σ_s_996 a 13) ∧ pgo (gI σ_s_996 a 19) (gI σ_s_996 a 14) (gI σ_s_986 a 13) (gI σ_s_996 a 13) ∧ gI σ_s_996 a 19 = gI σ_s_986 a 19 := hw_995
      refine lv_aload_n hx hb dX11_little_56 rfl (lv_at hl 0 rfl) ?_
      refine ok.getIc hO h_a (by decide) k13_30 e_998 (fun _ _ he hv kk => th_get (ci := 11) (C := RX11) (T := TX11) (N := 66) hx hb hts inX11 hown hK hH he rfl 30 (by decide) fl2 hv dX11_little_57 kk) ?_
      refine lv_istore_n (lv' := [(1, .int (I a300)), (0, .ref a)]) hx hb dX11_little_60 rfl hl (by decide) rfl (fun ls hl => ?_)
      obtain ⟨z_1001, e_1002, rz_1001, lz_1001, uz_1001⟩ := hO.gi h_a (by decide) k13_13
      obtain ⟨z_1003, e_1004, rz_1003, lz_1003, uz_1003⟩ := hO.gi h_a (by decide) k13_14
      obtain ⟨z_1005, e_1006, rz_1005, lz_1005, uz_1005⟩ := hO.gi h_a (by decide) k13_19
      refine th_loop (α := Int × Int × Int × Int) (pc := 61) (fun x9 => (2 * (gI σ a 11 - x9.2.1) + fg x9.2.2.2 x9.2.2.1).toNat) (fun x9 σ9 H9 l9 ls9 => ok y E σ9 ∧ fr [13] E σ σ9 ∧ fm [13, 14, 15, 16, 17, 18, 19, 20, 27] E σ σ9 a ∧ sr E σ9 a Bf ∧ th_H G b0 σ9 H9 ∧ va_S (th_A b0) s.heap H9 l9 ∧ lv_has ls9 6 [(0, .ref a), (1, .int (I x9.1))] ∧ rng x9.1 ∧ rng x9.2.1 ∧ rng x9.2.2.1 ∧ rng x9.2.2.2 ∧ (gI σ a 13 ≤ x9.2.1) ∧ (x9.2.1 ≤ gI σ a 11) ∧ (0 ≤ gI σ9 a 17) ∧ (gI σ9 a 17 ≤ x9.2.1) ∧ (-1 ≤ x9.1) ∧ (x9.1 < mS f1 0) ∧ (x9.1 ≤ 60) ∧ (pgo x9.2.2.2 x9.2.2.1 (gI σ a 13) x9.2.1) ∧ (gI σ9 a 11 = a110) ∧ (gI σ9 a 30 = a300) ∧ (gI σ9 a 27 = z_985) ∧ (aF σ9 (ad E a 1) = f1) ∧ (gI σ9 a 13 = x9.2.1) ∧ (gI σ9 a 14 = x9.2.2.1) ∧ (gI σ9 a 19 = x9.2.2.2)) ?_ (a300, z_1001, z_1003, z_1005) σ_s_996 _ _ _ ⟨hO, hF, hM, hsr, hH, hS, lv_sub hl [1, 0] rfl, ra300, rz_1001, rz_1003, rz_1005, by first | (dsimp only; omega) | omega, by first | (dsimp only; omega) | omega, by first | (dsimp only; omega) | omega, by first | (dsimp only; omega) | omega, by first | (dsimp only; omega) | omega, by first | (dsimp only; omega) | omega, by first | (dsimp only; omega) | omega, (hw_995.1.2.is (by first | (dsimp only; omega) | omega) (by first | (dsimp only; omega) | omega) (by first | (dsimp only; omega) | omega) (by first | (dsimp only; omega) | omega)), e_997, e_998, e_1000, e_999, e_1002, e_1004, e_1006⟩
      intro x9 σ_J_1011 H locs ls hI9 ihJ_1011
      obtain ⟨v1q1010, G13q1007, G14q1008, G19q1009⟩ := x9
      obtain ⟨hO, hF, hM, hsr, hH, hS, hl, rv1q1010, rG13q1007, rG14q1008, rG19q1009, J_1011_0, J_1011_1, J_1011_2, J_1011_3, J_1011_4, J_1011_5, J_1011_6, J_1011_7, J_1011_8, J_1011_9, J_1011_10, J_1011_11, J_1011_12, J_1011_13, J_1011_14⟩ := hI9
      have hl : lv_has ls 6 [(0, .ref a), (1, .int (I v1q1010))] := hl
      have rv1q1010 : rng v1q1010 := rv1q1010
      have rG13q1007 : rng G13q1007 := rG13q1007
      have rG14q1008 : rng G14q1008 := rG14q1008
      have rG19q1009 : rng G19q1009 := rG19q1009
      have J_1011_0 : gI σ a 13 ≤ G13q1007 := J_1011_0
      have J_1011_1 : G13q1007 ≤ gI σ a 11 := J_1011_1
      have J_1011_2 : 0 ≤ gI σ_J_1011 a 17 := J_1011_2
      have J_1011_3 : gI σ_J_1011 a 17 ≤ G13q1007 := J_1011_3
      have J_1011_4 : -1 ≤ v1q1010 := J_1011_4
      have J_1011_5 : v1q1010 < mS f1 0 := J_1011_5
      have J_1011_6 : v1q1010 ≤ 60 := J_1011_6
      have J_1011_7 : pgo G19q1009 G14q1008 (gI σ a 13) G13q1007 := J_1011_7
      have J_1011_8 : gI σ_J_1011 a 11 = a110 := J_1011_8
      have J_1011_9 : gI σ_J_1011 a 30 = a300 := J_1011_9
      have J_1011_10 : gI σ_J_1011 a 27 = z_985 := J_1011_10
      have J_1011_11 : aF σ_J_1011 (ad E a 1) = f1 := J_1011_11
      have J_1011_12 : gI σ_J_1011 a 13 = G13q1007 := J_1011_12
      have J_1011_13 : gI σ_J_1011 a 14 = G14q1008 := J_1011_13
      have J_1011_14 : gI σ_J_1011 a 19 = G19q1009 := J_1011_14
      refine lv_aload_n hx hb dX11_little_61 rfl (lv_at hl 0 rfl) ?_
      refine lv_bipush (v := I 46) hx hb dX11_little_62 (by decide) ?_
      obtain ⟨_, hc_1012⟩ := hO.cell h_a (by decide) (ci := 11) rfl
      refine th_calli (va_runV (As := [.int (I 46)]) (rest := []) ⟨hx, hb, hml, hown, hts⟩ (m_isMarked l G y b0 σ_J_1011 E hO a h_a 46 (show rng 46 from (show rng 46 from ⟨by decide, by decide⟩)) Bf hsr (by omega)) (cwV 1 hts gX11_little_X11_isMarked rfl rfl rfl (by decide +kernel) ⟨Nat.le_of_ble_eq_true rfl, Nat.le_of_ble_eq_true rfl⟩) (th_PV hK hH rfl hc_1012) rfl rfl hl.1 rfl (lv_room (Nat.le_of_ble_eq_true rfl)) dX11_little_64 ⟨Nat.le_of_ble_eq_true rfl, Nat.le_of_ble_eq_true rfl⟩) hS (fun z_1015 σ_s_1014 H locs rz_1015 hw_1013 hH hS => ?_)
      obtain ⟨e9, bhw_1013, hw_1013⟩ := hw_1013
      replace e9 := e9.symm
      subst e9
      have hw_1013 : z_1015 = 0 ∨ (z_1015 = 1 ∧ gI σ_J_1011 a 19 = 0 ∧ gI σ_J_1011 a 14 = 3 ∧ Bf (gI σ_J_1011 a 17) = 46) := hw_1013
      refine th_join (α := Unit) (J := 79) (stk := fun x9 => []) (fun x9 σ9 H9 l9 ls9 => σ9 = σ_J_1011 ∧ th_H G b0 σ9 H9 ∧ va_S (th_A b0) s.heap H9 l9 ∧ lv_has ls9 6 [(0, .ref a), (1, .int (I v1q1010))] ∧ (gI σ9 a 19 = 0 ∧ gI σ9 a 14 = 3)) ?_ (fun jK_1116 => ?_)
      · intro x9 σ_K_1116 H locs ls hI9
        obtain ⟨eK_1116, hH, hS, hl, K_1116_0⟩ := hI9
        replace eK_1116 := eK_1116.symm
        subst eK_1116
        have hl : lv_has ls 6 [(0, .ref a), (1, .int (I v1q1010))] := hl
        have K_1116_0 : gI σ_J_1011 a 19 = 0 ∧ gI σ_J_1011 a 14 = 3 := K_1116_0
        refine lv_aload_n hx hb dX11_little_79 rfl (lv_at hl 0 rfl) ?_
        refine lv_bipush (v := I 46) hx hb dX11_little_80 (by decide) ?_
        obtain ⟨_, hc_1117⟩ := hO.cell h_a (by decide) (ci := 11) rfl
        refine th_calli (va_runV (As := [.int (I 46)]) (rest := []) ⟨hx, hb, hml, hown, hts⟩ (m_isMarked l G y b0 σ_J_1011 E hO a h_a 46 (show rng 46 from (show rng 46 from ⟨by decide, by decide⟩)) Bf hsr (by omega)) (cwV 1 hts gX11_little_X11_isMarked rfl rfl rfl (by decide +kernel) ⟨Nat.le_of_ble_eq_true rfl, Nat.le_of_ble_eq_true rfl⟩) (th_PV hK hH rfl hc_1117) rfl rfl hl.1 rfl (lv_room (Nat.le_of_ble_eq_true rfl)) dX11_little_82 ⟨Nat.le_of_ble_eq_true rfl, Nat.le_of_ble_eq_true rfl⟩) hS (fun z_1120 σ_s_1119 H locs rz_1120 hw_1118 hH hS => ?_)
        obtain ⟨e9, bhw_1118, hw_1118⟩ := hw_1118
        replace e9 := e9.symm
        subst e9
        have hw_1118 : z_1120 = 0 ∨ (z_1120 = 1 ∧ gI σ_J_1011 a 19 = 0 ∧ gI σ_J_1011 a 14 = 3 ∧ Bf (gI σ_J_1011 a 17) = 46) := hw_1118
        refine lv_istore_n (lv' := [(2, .int (I z_1120)), (0, .ref a), (1, .int (I v1q1010))]) hx hb dX11_little_85 rfl hl (by decide) rfl (fun ls hl => ?_)
        refine lv_aload_n hx hb dX11_little_86 rfl (lv_at hl 1 rfl) ?_
        obtain ⟨_, hc_1121⟩ := hO.cell h_a (by decide) (ci := 11) rfl
        refine th_callv (va_runV (As := []) (rest := []) ⟨hx, hb, hml, hown, hts⟩ (m_pass l G y b0 σ_J_1011 E hO a h_a Bf hsr (by omega)) (cwV 0 hts gX11_little_X11_pass rfl rfl rfl (by decide +kernel) ⟨Nat.le_of_ble_eq_true rfl, Nat.le_of_ble_eq_true rfl⟩) (th_PV hK hH rfl hc_1121) rfl rfl hl.1 rfl (lv_room (Nat.le_of_ble_eq_true rfl)) dX11_little_87 ⟨Nat.le_of_ble_eq_true rfl, Nat.le_of_ble_eq_true rfl⟩) hS (fun σ_s_1123 H locs hw_1122 hH hS => ?_)
        obtain ⟨hO9, hF9, hM9, hw_1122⟩ := hw_1122
        replace hM := hM.tu hM9 (by decide)
        replace hF := hF.tu hF9 (by decide)
        have e_1124 : gI σ_s_1123 a 11 = a110 := (hM9.i (by decide)).trans J_1011_8
        have e_1125 : gI σ_s_1123 a 30 = a300 := (hM9.i (by decide)).trans J_1011_9
        have e_1126 : gI σ_s_1123 a 27 = z_985 := (hM9.i (by decide)).trans J_1011_10
        have e_1127 : aF σ_s_1123 (ad E a 1) = f1 := (hM9.a (by decide) (by decide)).trans J_1011_11
        have e_1128 : gI σ_s_1123 a 19 = G19q1009 := (hM9.i (by decide)).trans J_1011_14
        replace hsr := hsr.mv hM9 (by decide) (by decide) (by decide) (by decide) (by decide)
        replace hO := hO9
        have hw_1122 : (gI σ_J_1011 a 13 ≤ gI σ_s_1123 a 13 ∧ gI σ_s_1123 a 13 ≤ gI σ_J_1011 a 11 ∧ 0 ≤ gI σ_s_1123 a 17 ∧ gI σ_s_1123 a 17 ≤ gI σ_s_1123 a 13) ∧ pgo (gI σ_s_1123 a 19) (gI σ_s_1123 a 14) (gI σ_J_1011 a 13) (gI σ_s_1123 a 13) ∧ gI σ_s_1123 a 19 = gI σ_J_1011 a 19 := hw_1122
        refine lv_iload_n hx hb dX11_little_90 rfl (lv_at hl 0 rfl) ?_
        refine lv_if_eq (tgt := 101) hx hb dX11_little_91 (by decide) (fun c_1129 => ?_) (fun c_1129 => ?_)
        · replace c_1129 := (I_eq (a := z_1120) (b := 0) rz_1120 (show rng 0 from ⟨by decide, by decide⟩)).mp c_1129
          clear hw_1118
          refine lv_aload_n hx hb dX11_little_101 rfl (lv_at hl 1 rfl) ?_
          obtain ⟨_, hc_1130⟩ := hO.cell h_a (by decide) (ci := 11) rfl
          refine th_calli (va_runV (As := []) (rest := []) ⟨hx, hb, hml, hown, hts⟩ (m_readNumber l G y b0 σ_s_1123 E hO a h_a Bf hsr (by omega)) (cwV 0 hts gX11_little_X11_readNumber rfl rfl rfl (by decide +kernel) ⟨Nat.le_of_ble_eq_true rfl, Nat.le_of_ble_eq_true rfl⟩) (th_PV hK hH rfl hc_1130) rfl rfl hl.1 rfl (lv_room (Nat.le_of_ble_eq_true rfl)) dX11_little_102 ⟨Nat.le_of_ble_eq_true rfl, Nat.le_of_ble_eq_true rfl⟩) hS (fun z_1133 σ_s_1132 H locs rz_1133 hw_1131 hH hS => ?_)
          obtain ⟨hO9, hF9, hM9, hw_1131⟩ := hw_1131
          replace hM := hM.tu hM9 (by decide)
          replace hF := hF.tu hF9 (by decide)
          have e_1134 : gI σ_s_1132 a 11 = a110 := (hM9.i (by decide)).trans e_1124
          have e_1135 : gI σ_s_1132 a 30 = a300 := (hM9.i (by decide)).trans e_1125
          have e_1136 : gI σ_s_1132 a 27 = z_985 := (hM9.i (by decide)).trans e_1126
          have e_1137 : aF σ_s_1132 (ad E a 1) = f1 := (hM9.a (by decide) (by decide)).trans e_1127
          replace hsr := hsr.mv hM9 (by decide) (by decide) (by decide) (by decide) (by decide)
          replace hO := hO9
          have hw_1131 : (gI σ_s_1123 a 13 ≤ gI σ_s_1132 a 13 ∧ gI σ_s_1132 a 13 ≤ gI σ_s_1123 a 11 ∧ 0 ≤ gI σ_s_1132 a 17 ∧ gI σ_s_1132 a 17 ≤ gI σ_s_1132 a 13) ∧ pgo (gI σ_s_1132 a 19) (gI σ_s_1132 a 14) (gI σ_s_1123 a 13) (gI σ_s_1132 a 13) ∧ bdo (gI σ_s_1123 a 19) (gI σ_s_1132 a 19) := hw_1131
          refine lv_istore_n (lv' := [(3, .int (I z_1133)), (2, .int (I z_1120)), (0, .ref a), (1, .int (I v1q1010))]) hx hb dX11_little_105 rfl hl (by decide) rfl (fun ls hl => ?_)
          refine lv_iload_n hx hb dX11_little_106 rfl (lv_at hl 1 rfl) ?_
          refine lv_if_ne (tgt := 116) hx hb dX11_little_107 (by decide) (fun c_1138 => ?_) (fun c_1138 => ?_)
          · replace c_1138 := mt (I_eq (a := z_1120) (b := 0) rz_1120 (show rng 0 from ⟨by decide, by decide⟩)).mpr c_1138
            refine lv_iload_n hx hb dX11_little_116 rfl (lv_at hl 3 rfl) ?_
            refine lv_iconst (v := I (-1)) hx hb dX11_little_117 (by decide) ?_
            refine lv_icmp_ne (tgt := 124) hx hb dX11_little_118 (by decide) (fun c_1139 => ?_) (fun c_1139 => ?_)
            · replace c_1139 := mt (I_eq (a := v1q1010) (b := (-1)) rv1q1010 (show rng (-1) from ⟨by decide, by decide⟩)).mpr c_1139
              have hk1 := hy0 v1q1010 (by omega) (by omega)
              refine lv_iload_n hx hb dX11_little_124 rfl (lv_at hl 1 rfl) ?_
              refine lv_if_eq (tgt := 156) hx hb dX11_little_125 (by decide) (fun c_1140 => ?_) (fun c_1140 => ?_)
              · replace c_1140 := (I_eq (a := z_1120) (b := 0) rz_1120 (show rng 0 from ⟨by decide, by decide⟩)).mp c_1140
                refine lv_aload_n hx hb dX11_little_156 rfl (lv_at hl 2 rfl) ?_
                refine ok.getR hO h_a (by decide) k13_1 (by decide) (fun _ _ he hv kk => th_get (ci := 11) (C := RX11) (T := TX11) (N := 66) hx hb hts inX11 hown hK hH he rfl 1 (by decide) fl3 hv dX11_little_157 kk) ?_
                refine lv_iload_n hx hb dX11_little_160 rfl (lv_at hl 3 rfl) ?_
                refine th_calli (va_runS (As := [.ref (ad E a 1), .int (I v1q1010)]) (rest := []) ⟨hx, hb, hml, hown, hts⟩ (w_kind l G y b0 σ_s_1132 E hO (ad E a 1) 240 f1 (hO.roww h_a k13_1 isA1 e_1137 rfl) v1q1010 (show rng v1q1010 from rv1q1010) (by omega) (by omega) (by omega)) (va_cwS 2 hts gX11_little_X11_kind rfl rfl rfl (by decide +kernel) ⟨Nat.le_of_ble_eq_true rfl, Nat.le_of_ble_eq_true rfl⟩) (th_PS hK hH) rfl rfl hl.1 rfl (lv_room (Nat.le_of_ble_eq_true rfl)) dX11_little_161 ⟨Nat.le_of_ble_eq_true rfl, Nat.le_of_ble_eq_true rfl⟩) hS (fun z_1143 σ_s_1142 H locs rz_1143 hw_1141 hH hS => ?_)
                obtain ⟨e9, hw_1141⟩ := hw_1141
                replace e9 := e9.symm
                subst e9
                have hw_1141 : z_1143 = mK f1 v1q1010 := hw_1141
                refine lv_iconst (v := I 2) hx hb dX11_little_164 (by decide) ?_
                refine lv_icmp_ne (tgt := 180) hx hb dX11_little_165 (by decide) (fun c_1144 => ?_) (fun c_1144 => ?_)
                · replace c_1144 := mt (I_eq (a := z_1143) (b := 2) rz_1143 (show rng 2 from ⟨by decide, by decide⟩)).mpr c_1144
                  refine lv_iconst (v := I (-1)) hx hb dX11_little_180 (by decide) ?_
                  refine lv_istore_n (lv' := [(1, .int (I (-1))), (3, .int (I z_1133)), (2, .int (I z_1120)), (0, .ref a)]) hx hb dX11_little_181 rfl hl (by decide) rfl (fun ls hl => ?_)
                  refine lv_goto (tgt := 61) hx hb dX11_little_182 (by decide) ?_
                  replace hl : lv_has ls 6 [(1, .int (I (-1))), (0, .ref a)] := lv_sub hl [0, 3] rfl
                  obtain ⟨z_1145, e_1146, rz_1145, lz_1145, uz_1145⟩ := hO.gi h_a (by decide) k13_13
                  obtain ⟨z_1147, e_1148, rz_1147, lz_1147, uz_1147⟩ := hO.gi h_a (by decide) k13_14
                  obtain ⟨z_1149, e_1150, rz_1149, lz_1149, uz_1149⟩ := hO.gi h_a (by decide) k13_19
                  exact ihJ_1011 ((-1), z_1145, z_1147, z_1149) σ_s_1132 _ _ _ (by have h8 := hw_1131.1.2; unfold pgo at h8; simp only [fg]; omega) ⟨hO, hF, hM, hsr, hH, hS, lv_sub hl [1, 0] rfl, (show rng (-1) from ⟨by decide, by decide⟩), rz_1145, rz_1147, rz_1149, by first | (dsimp only; omega) | omega, by first | (dsimp only; omega) | omega, by first | (dsimp only; omega) | omega, by first | (dsimp only; omega) | omega, by first | (dsimp only; omega) | omega, by first | (dsimp only; omega) | omega, by first | (dsimp only; omega) | omega, (hw_1131.1.2.is (by first | (dsimp only; omega) | omega) (by first | (dsimp only; omega) | omega) (by first | (dsimp only; omega) | omega) (by first | (dsimp only; omega) | omega)), e_1134, e_1135, e_1136, e_1137, e_1146, e_1148, e_1150⟩
                · replace c_1144 := (I_eq (a := z_1143) (b := 2) rz_1143 (show rng 2 from ⟨by decide, by decide⟩)).mp c_1144
                  refine lv_aload_n hx hb dX11_little_168 rfl (lv_at hl 2 rfl) ?_
                  refine ok.getR hO h_a (by decide) k13_1 (by decide) (fun _ _ he hv kk => th_get (ci := 11) (C := RX11) (T := TX11) (N := 66) hx hb hts inX11 hown hK hH he rfl 1 (by decide) fl3 hv dX11_little_169 kk) ?_
                  refine lv_iload_n hx hb dX11_little_172 rfl (lv_at hl 3 rfl) ?_
                  refine lv_iload_n hx hb dX11_little_173 rfl (lv_at hl 0 rfl) ?_
                  refine th_calli (va_runS (As := [.ref (ad E a 1), .int (I v1q1010), .int (I z_1133)]) (rest := []) ⟨hx, hb, hml, hown, hts⟩ (w_byPlace l G y b0 σ_s_1132 E hO (ad E a 1) 240 f1 (hO.roww h_a k13_1 isA1 e_1137 rfl) v1q1010 (show rng v1q1010 from rv1q1010) (by omega) (by omega) z_1133 (show rng z_1133 from rz_1133) (by first | exact hy0 | exact (hy0).sub (by omega) (by omega)) (by omega) (by omega) (by omega)) (va_cwS 3 hts gX11_little_X11_byPlace rfl rfl rfl (by decide +kernel) ⟨Nat.le_of_ble_eq_true rfl, Nat.le_of_ble_eq_true rfl⟩) (th_PS hK hH) rfl rfl hl.1 rfl (lv_room (Nat.le_of_ble_eq_true rfl)) dX11_little_174 ⟨Nat.le_of_ble_eq_true rfl, Nat.le_of_ble_eq_true rfl⟩) hS (fun z_1153 σ_s_1152 H locs rz_1153 hw_1151 hH hS => ?_)
                  obtain ⟨e9, hw_1151⟩ := hw_1151
                  replace e9 := e9.symm
                  subst e9
                  have hw_1151 : z_1153 = -1 ∨ (kid f1 v1q1010 z_1153 ∧ v1q1010 < z_1153 ∧ z_1153 < v1q1010 + mS f1 v1q1010) := hw_1151
                  refine lv_goto (tgt := 181) hx hb dX11_little_177 (by decide) ?_
                  refine lv_istore_n (lv' := [(1, .int (I z_1153)), (3, .int (I z_1133)), (2, .int (I z_1120)), (0, .ref a)]) hx hb dX11_little_181 rfl hl (by decide) rfl (fun ls hl => ?_)
                  refine lv_goto (tgt := 61) hx hb dX11_little_182 (by decide) ?_
                  replace hl : lv_has ls 6 [(1, .int (I z_1153)), (0, .ref a)] := lv_sub hl [0, 3] rfl
                  obtain ⟨z_1154, e_1155, rz_1154, lz_1154, uz_1154⟩ := hO.gi h_a (by decide) k13_13
                  obtain ⟨z_1156, e_1157, rz_1156, lz_1156, uz_1156⟩ := hO.gi h_a (by decide) k13_14
                  obtain ⟨z_1158, e_1159, rz_1158, lz_1158, uz_1158⟩ := hO.gi h_a (by decide) k13_19
                  exact ihJ_1011 (z_1153, z_1154, z_1156, z_1158) σ_s_1132 _ _ _ (by have h8 := hw_1131.1.2; unfold pgo at h8; simp only [fg]; omega) ⟨hO, hF, hM, hsr, hH, hS, lv_sub hl [1, 0] rfl, rz_1153, rz_1154, rz_1156, rz_1158, by first | (dsimp only; omega) | omega, by first | (dsimp only; omega) | omega, by first | (dsimp only; omega) | omega, by first | (dsimp only; omega) | omega, by first | (dsimp only; omega) | omega, by first | (dsimp only; omega) | omega, by first | (dsimp only; omega) | omega, (hw_1131.1.2.is (by first | (dsimp only; omega) | omega) (by first | (dsimp only; omega) | omega) (by first | (dsimp only; omega) | omega) (by first | (dsimp only; omega) | omega)), e_1134, e_1135, e_1136, e_1137, e_1155, e_1157, e_1159⟩
              · replace c_1140 := mt (I_eq (a := z_1120) (b := 0) rz_1120 (show rng 0 from ⟨by decide, by decide⟩)).mpr c_1140
                refine lv_aload_n hx hb dX11_little_128 rfl (lv_at hl 2 rfl) ?_
                refine ok.getR hO h_a (by decide) k13_1 (by decide) (fun _ _ he hv kk => th_get (ci := 11) (C := RX11) (T := TX11) (N := 66) hx hb hts inX11 hown hK hH he rfl 1 (by decide) fl3 hv dX11_little_129 kk) ?_
                refine lv_iload_n hx hb dX11_little_132 rfl (lv_at hl 3 rfl) ?_
                refine th_calli (va_runS (As := [.ref (ad E a 1), .int (I v1q1010)]) (rest := []) ⟨hx, hb, hml, hown, hts⟩ (w_kind l G y b0 σ_s_1132 E hO (ad E a 1) 240 f1 (hO.roww h_a k13_1 isA1 e_1137 rfl) v1q1010 (show rng v1q1010 from rv1q1010) (by omega) (by omega) (by omega)) (va_cwS 2 hts gX11_little_X11_kind rfl rfl rfl (by decide +kernel) ⟨Nat.le_of_ble_eq_true rfl, Nat.le_of_ble_eq_true rfl⟩) (th_PS hK hH) rfl rfl hl.1 rfl (lv_room (Nat.le_of_ble_eq_true rfl)) dX11_little_133 ⟨Nat.le_of_ble_eq_true rfl, Nat.le_of_ble_eq_true rfl⟩) hS (fun z_1162 σ_s_1161 H locs rz_1162 hw_1160 hH hS => ?_)
                obtain ⟨e9, hw_1160⟩ := hw_1160
                replace e9 := e9.symm
                subst e9
                have hw_1160 : z_1162 = mK f1 v1q1010 := hw_1160
                refine lv_iconst (v := I 3) hx hb dX11_little_136 (by decide) ?_
                refine lv_icmp_ne (tgt := 152) hx hb dX11_little_137 (by decide) (fun c_1163 => ?_) (fun c_1163 => ?_)
                · replace c_1163 := mt (I_eq (a := z_1162) (b := 3) rz_1162 (show rng 3 from ⟨by decide, by decide⟩)).mpr c_1163
                  refine lv_iconst (v := I (-1)) hx hb dX11_little_152 (by decide) ?_
                  refine lv_goto (tgt := 181) hx hb dX11_little_153 (by decide) ?_
                  refine lv_istore_n (lv' := [(1, .int (I (-1))), (3, .int (I z_1133)), (2, .int (I z_1120)), (0, .ref a)]) hx hb dX11_little_181 rfl hl (by decide) rfl (fun ls hl => ?_)
                  refine lv_goto (tgt := 61) hx hb dX11_little_182 (by decide) ?_
                  replace hl : lv_has ls 6 [(1, .int (I (-1))), (0, .ref a)] := lv_sub hl [0, 3] rfl
                  obtain ⟨z_1164, e_1165, rz_1164, lz_1164, uz_1164⟩ := hO.gi h_a (by decide) k13_13
                  obtain ⟨z_1166, e_1167, rz_1166, lz_1166, uz_1166⟩ := hO.gi h_a (by decide) k13_14
                  obtain ⟨z_1168, e_1169, rz_1168, lz_1168, uz_1168⟩ := hO.gi h_a (by decide) k13_19
                  exact ihJ_1011 ((-1), z_1164, z_1166, z_1168) σ_s_1132 _ _ _ (by have h8 := hw_1131.1.2; unfold pgo at h8; simp only [fg]; omega) ⟨hO, hF, hM, hsr, hH, hS, lv_sub hl [1, 0] rfl, (show rng (-1) from ⟨by decide, by decide⟩), rz_1164, rz_1166, rz_1168, by first | (dsimp only; omega) | omega, by first | (dsimp only; omega) | omega, by first | (dsimp only; omega) | omega, by first | (dsimp only; omega) | omega, by first | (dsimp only; omega) | omega, by first | (dsimp only; omega) | omega, by first | (dsimp only; omega) | omega, (hw_1131.1.2.is (by first | (dsimp only; omega) | omega) (by first | (dsimp only; omega) | omega) (by first | (dsimp only; omega) | omega) (by first | (dsimp only; omega) | omega)), e_1134, e_1135, e_1136, e_1137, e_1165, e_1167, e_1169⟩
                · replace c_1163 := (I_eq (a := z_1162) (b := 3) rz_1162 (show rng 3 from ⟨by decide, by decide⟩)).mp c_1163
                  refine lv_aload_n hx hb dX11_little_140 rfl (lv_at hl 2 rfl) ?_
                  refine ok.getR hO h_a (by decide) k13_1 (by decide) (fun _ _ he hv kk => th_get (ci := 11) (C := RX11) (T := TX11) (N := 66) hx hb hts inX11 hown hK hH he rfl 1 (by decide) fl3 hv dX11_little_141 kk) ?_
                  refine lv_iload_n hx hb dX11_little_144 rfl (lv_at hl 3 rfl) ?_
                  refine lv_iload_n hx hb dX11_little_145 rfl (lv_at hl 0 rfl) ?_
                  refine th_calli (va_runS (As := [.ref (ad E a 1), .int (I v1q1010), .int (I z_1133)]) (rest := []) ⟨hx, hb, hml, hown, hts⟩ (w_byKey l G y b0 σ_s_1132 E hO (ad E a 1) 240 f1 (hO.roww h_a k13_1 isA1 e_1137 rfl) v1q1010 (show rng v1q1010 from rv1q1010) (by omega) (by omega) z_1133 (show rng z_1133 from rz_1133) (by first | exact hy0 | exact (hy0).sub (by omega) (by omega)) (by omega) (by omega) (by omega)) (va_cwS 3 hts gX11_little_X11_byKey rfl rfl rfl (by decide +kernel) ⟨Nat.le_of_ble_eq_true rfl, Nat.le_of_ble_eq_true rfl⟩) (th_PS hK hH) rfl rfl hl.1 rfl (lv_room (Nat.le_of_ble_eq_true rfl)) dX11_little_146 ⟨Nat.le_of_ble_eq_true rfl, Nat.le_of_ble_eq_true rfl⟩) hS (fun z_1172 σ_s_1171 H locs rz_1172 hw_1170 hH hS => ?_)
                  obtain ⟨e9, hw_1170⟩ := hw_1170
                  replace e9 := e9.symm
                  subst e9
                  have hw_1170 : (z_1172 = -1 ∧ nok f1 (v1q1010 + 1) (v1q1010 + mS f1 v1q1010) z_1133) ∨ (kid f1 v1q1010 z_1172 ∧ mY f1 z_1172 = z_1133 ∧ v1q1010 < z_1172 ∧ z_1172 < v1q1010 + mS f1 v1q1010) := hw_1170
                  refine lv_goto (tgt := 181) hx hb dX11_little_149 (by decide) ?_
                  refine lv_istore_n (lv' := [(1, .int (I z_1172)), (3, .int (I z_1133)), (2, .int (I z_1120)), (0, .ref a)]) hx hb dX11_little_181 rfl hl (by decide) rfl (fun ls hl => ?_)
                  refine lv_goto (tgt := 61) hx hb dX11_little_182 (by decide) ?_
                  replace hl : lv_has ls 6 [(1, .int (I z_1172)), (0, .ref a)] := lv_sub hl [0, 3] rfl
                  obtain ⟨z_1173, e_1174, rz_1173, lz_1173, uz_1173⟩ := hO.gi h_a (by decide) k13_13
                  obtain ⟨z_1175, e_1176, rz_1175, lz_1175, uz_1175⟩ := hO.gi h_a (by decide) k13_14
                  obtain ⟨z_1177, e_1178, rz_1177, lz_1177, uz_1177⟩ := hO.gi h_a (by decide) k13_19
                  exact ihJ_1011 (z_1172, z_1173, z_1175, z_1177) σ_s_1132 _ _ _ (by have h8 := hw_1131.1.2; unfold pgo at h8; simp only [fg]; omega) ⟨hO, hF, hM, hsr, hH, hS, lv_sub hl [1, 0] rfl, rz_1172, rz_1173, rz_1175, rz_1177, by first | (dsimp only; omega) | omega, by first | (dsimp only; omega) | omega, by first | (dsimp only; omega) | omega, by first | (dsimp only; omega) | omega, by first | (dsimp only; omega) | omega, by first | (dsimp only; omega) | omega, by first | (dsimp only; omega) | omega, (hw_1131.1.2.is (by first | (dsimp only; omega) | omega) (by first | (dsimp only; omega) | omega) (by first | (dsimp only; omega) | omega) (by first | (dsimp only; omega) | omega)), e_1134, e_1135, e_1136, e_1137, e_1174, e_1176, e_1178⟩
            · replace c_1139 := (I_eq (a := v1q1010) (b := (-1)) rv1q1010 (show rng (-1) from ⟨by decide, by decide⟩)).mp c_1139
              refine lv_goto (tgt := 61) hx hb dX11_little_121 (by decide) ?_
              replace hl : lv_has ls 6 [(0, .ref a), (1, .int (I v1q1010))] := lv_sub hl [2, 3] rfl
              obtain ⟨z_1179, e_1180, rz_1179, lz_1179, uz_1179⟩ := hO.gi h_a (by decide) k13_13
              obtain ⟨z_1181, e_1182, rz_1181, lz_1181, uz_1181⟩ := hO.gi h_a (by decide) k13_14
              obtain ⟨z_1183, e_1184, rz_1183, lz_1183, uz_1183⟩ := hO.gi h_a (by decide) k13_19
              exact ihJ_1011 (v1q1010, z_1179, z_1181, z_1183) σ_s_1132 _ _ _ (by have h8 := hw_1131.1.2; unfold pgo at h8; simp only [fg]; omega) ⟨hO, hF, hM, hsr, hH, hS, lv_sub hl [0, 1] rfl, rv1q1010, rz_1179, rz_1181, rz_1183, by first | (dsimp only; omega) | omega, by first | (dsimp only; omega) | omega, by first | (dsimp only; omega) | omega, by first | (dsimp only; omega) | omega, by first | (dsimp only; omega) | omega, by first | (dsimp only; omega) | omega, by first | (dsimp only; omega) | omega, (hw_1131.1.2.is (by first | (dsimp only; omega) | omega) (by first | (dsimp only; omega) | omega) (by first | (dsimp only; omega) | omega) (by first | (dsimp only; omega) | omega)), e_1134, e_1135, e_1136, e_1137, e_1180, e_1182, e_1184⟩
          · replace c_1138 := (I_eq (a := z_1120) (b := 0) rz_1120 (show rng 0 from ⟨by decide, by decide⟩)).mp c_1138
            refine lv_aload_n hx hb dX11_little_110 rfl (lv_at hl 2 rfl) ?_
            refine lv_bipush (v := I 93) hx hb dX11_little_111 (by decide) ?_
            obtain ⟨_, hc_1185⟩ := hO.cell h_a (by decide) (ci := 11) rfl
            refine th_callv (va_runV (As := [.int (I 93)]) (rest := []) ⟨hx, hb, hml, hown, hts⟩ (m_need l G y b0 σ_s_1132 E hO a h_a 93 (show rng 93 from (show rng 93 from ⟨by decide, by decide⟩)) Bf hsr (by omega)) (cwV 1 hts gX11_little_X11_need rfl rfl rfl (by decide +kernel) ⟨Nat.le_of_ble_eq_true rfl, Nat.le_of_ble_eq_true rfl⟩) (th_PV hK hH rfl hc_1185) rfl rfl hl.1 rfl (lv_room (Nat.le_of_ble_eq_true rfl)) dX11_little_113 ⟨Nat.le_of_ble_eq_true rfl, Nat.le_of_ble_eq_true rfl⟩) hS (fun σ_s_1187 H locs hw_1186 hH hS => ?_)
            obtain ⟨hO9, hF9, hM9, hw_1186⟩ := hw_1186
            replace hM := hM.tu hM9 (by decide)
            replace hF := hF.tu hF9 (by decide)
            have e_1188 : gI σ_s_1187 a 11 = a110 := (hM9.i (by decide)).trans e_1134
            have e_1189 : gI σ_s_1187 a 30 = a300 := (hM9.i (by decide)).trans e_1135
            have e_1190 : gI σ_s_1187 a 27 = z_985 := (hM9.i (by decide)).trans e_1136
            have e_1191 : aF σ_s_1187 (ad E a 1) = f1 := (hM9.a (by decide) (by decide)).trans e_1137
            replace hsr := hsr.mv hM9 (by decide) (by decide) (by decide) (by decide) (by decide)
            replace hO := hO9
            have hw_1186 : (gI σ_s_1132 a 13 ≤ gI σ_s_1187 a 13 ∧ gI σ_s_1187 a 13 ≤ gI σ_s_1132 a 11 ∧ 0 ≤ gI σ_s_1187 a 17 ∧ gI σ_s_1187 a 17 ≤ gI σ_s_1187 a 13) ∧ pgo (gI σ_s_1187 a 19) (gI σ_s_1187 a 14) (gI σ_s_1132 a 13) (gI σ_s_1187 a 13) ∧ bdo (gI σ_s_1132 a 19) (gI σ_s_1187 a 19) := hw_1186
            refine lv_iload_n hx hb dX11_little_116 rfl (lv_at hl 3 rfl) ?_
            refine lv_iconst (v := I (-1)) hx hb dX11_little_117 (by decide) ?_
            refine lv_icmp_ne (tgt := 124) hx hb dX11_little_118 (by decide) (fun c_1192 => ?_) (fun c_1192 => ?_)
            · replace c_1192 := mt (I_eq (a := v1q1010) (b := (-1)) rv1q1010 (show rng (-1) from ⟨by decide, by decide⟩)).mpr c_1192
              have hk1 := hy0 v1q1010 (by omega) (by omega)
              refine lv_iload_n hx hb dX11_little_124 rfl (lv_at hl 1 rfl) ?_
              refine lv_if_eq (tgt := 156) hx hb dX11_little_125 (by decide) (fun c_1193 => ?_) (fun c_1193 => ?_)
              · replace c_1193 := (I_eq (a := z_1120) (b := 0) rz_1120 (show rng 0 from ⟨by decide, by decide⟩)).mp c_1193
                refine lv_aload_n hx hb dX11_little_156 rfl (lv_at hl 2 rfl) ?_
                refine ok.getR hO h_a (by decide) k13_1 (by decide) (fun _ _ he hv kk => th_get (ci := 11) (C := RX11) (T := TX11) (N := 66) hx hb hts inX11 hown hK hH he rfl 1 (by decide) fl3 hv dX11_little_157 kk) ?_
                refine lv_iload_n hx hb dX11_little_160 rfl (lv_at hl 3 rfl) ?_
                refine th_calli (va_runS (As := [.ref (ad E a 1), .int (I v1q1010)]) (rest := []) ⟨hx, hb, hml, hown, hts⟩ (w_kind l G y b0 σ_s_1187 E hO (ad E a 1) 240 f1 (hO.roww h_a k13_1 isA1 e_1191 rfl) v1q1010 (show rng v1q1010 from rv1q1010) (by omega) (by omega) (by omega)) (va_cwS 2 hts gX11_little_X11_kind rfl rfl rfl (by decide +kernel) ⟨Nat.le_of_ble_eq_true rfl, Nat.le_of_ble_eq_true rfl⟩) (th_PS hK hH) rfl rfl hl.1 rfl (lv_room (Nat.le_of_ble_eq_true rfl)) dX11_little_161 ⟨Nat.le_of_ble_eq_true rfl, Nat.le_of_ble_eq_true rfl⟩) hS (fun z_1196 σ_s_1195 H locs rz_1196 hw_1194 hH hS => ?_)
                obtain ⟨e9, hw_1194⟩ := hw_1194
                replace e9 := e9.symm
                subst e9
                have hw_1194 : z_1196 = mK f1 v1q1010 := hw_1194
                refine lv_iconst (v := I 2) hx hb dX11_little_164 (by decide) ?_
                refine lv_icmp_ne (tgt := 180) hx hb dX11_little_165 (by decide) (fun c_1197 => ?_) (fun c_1197 => ?_)
                · replace c_1197 := mt (I_eq (a := z_1196) (b := 2) rz_1196 (show rng 2 from ⟨by decide, by decide⟩)).mpr c_1197
                  refine lv_iconst (v := I (-1)) hx hb dX11_little_180 (by decide) ?_
                  refine lv_istore_n (lv' := [(1, .int (I (-1))), (3, .int (I z_1133)), (2, .int (I z_1120)), (0, .ref a)]) hx hb dX11_little_181 rfl hl (by decide) rfl (fun ls hl => ?_)
                  refine lv_goto (tgt := 61) hx hb dX11_little_182 (by decide) ?_
                  replace hl : lv_has ls 6 [(1, .int (I (-1))), (0, .ref a)] := lv_sub hl [0, 3] rfl
                  obtain ⟨z_1198, e_1199, rz_1198, lz_1198, uz_1198⟩ := hO.gi h_a (by decide) k13_13
                  obtain ⟨z_1200, e_1201, rz_1200, lz_1200, uz_1200⟩ := hO.gi h_a (by decide) k13_14
                  obtain ⟨z_1202, e_1203, rz_1202, lz_1202, uz_1202⟩ := hO.gi h_a (by decide) k13_19
                  exact ihJ_1011 ((-1), z_1198, z_1200, z_1202) σ_s_1187 _ _ _ (by have h8 := hw_1186.1.2; unfold pgo at h8; simp only [fg]; omega) ⟨hO, hF, hM, hsr, hH, hS, lv_sub hl [1, 0] rfl, (show rng (-1) from ⟨by decide, by decide⟩), rz_1198, rz_1200, rz_1202, by first | (dsimp only; omega) | omega, by first | (dsimp only; omega) | omega, by first | (dsimp only; omega) | omega, by first | (dsimp only; omega) | omega, by first | (dsimp only; omega) | omega, by first | (dsimp only; omega) | omega, by first | (dsimp only; omega) | omega, (hw_1186.1.2.is (by first | (dsimp only; omega) | omega) (by first | (dsimp only; omega) | omega) (by first | (dsimp only; omega) | omega) (by first | (dsimp only; omega) | omega)), e_1188, e_1189, e_1190, e_1191, e_1199, e_1201, e_1203⟩
                · replace c_1197 := (I_eq (a := z_1196) (b := 2) rz_1196 (show rng 2 from ⟨by decide, by decide⟩)).mp c_1197
                  refine lv_aload_n hx hb dX11_little_168 rfl (lv_at hl 2 rfl) ?_
                  refine ok.getR hO h_a (by decide) k13_1 (by decide) (fun _ _ he hv kk => th_get (ci := 11) (C := RX11) (T := TX11) (N := 66) hx hb hts inX11 hown hK hH he rfl 1 (by decide) fl3 hv dX11_little_169 kk) ?_
                  refine lv_iload_n hx hb dX11_little_172 rfl (lv_at hl 3 rfl) ?_
                  refine lv_iload_n hx hb dX11_little_173 rfl (lv_at hl 0 rfl) ?_
                  refine th_calli (va_runS (As := [.ref (ad E a 1), .int (I v1q1010), .int (I z_1133)]) (rest := []) ⟨hx, hb, hml, hown, hts⟩ (w_byPlace l G y b0 σ_s_1187 E hO (ad E a 1) 240 f1 (hO.roww h_a k13_1 isA1 e_1191 rfl) v1q1010 (show rng v1q1010 from rv1q1010) (by omega) (by omega) z_1133 (show rng z_1133 from rz_1133) (by first | exact hy0 | exact (hy0).sub (by omega) (by omega)) (by omega) (by omega) (by omega)) (va_cwS 3 hts gX11_little_X11_byPlace rfl rfl rfl (by decide +kernel) ⟨Nat.le_of_ble_eq_true rfl, Nat.le_of_ble_eq_true rfl⟩) (th_PS hK hH) rfl rfl hl.1 rfl (lv_room (Nat.le_of_ble_eq_true rfl)) dX11_little_174 ⟨Nat.le_of_ble_eq_true rfl, Nat.le_of_ble_eq_true rfl⟩) hS (fun z_1206 σ_s_1205 H locs rz_1206 hw_1204 hH hS => ?_)
                  obtain ⟨e9, hw_1204⟩ := hw_1204
                  replace e9 := e9.symm
                  subst e9
                  have hw_1204 : z_1206 = -1 ∨ (kid f1 v1q1010 z_1206 ∧ v1q1010 < z_1206 ∧ z_1206 < v1q1010 + mS f1 v1q1010) := hw_1204
                  refine lv_goto (tgt := 181) hx hb dX11_little_177 (by decide) ?_
                  refine lv_istore_n (lv' := [(1, .int (I z_1206)), (3, .int (I z_1133)), (2, .int (I z_1120)), (0, .ref a)]) hx hb dX11_little_181 rfl hl (by decide) rfl (fun ls hl => ?_)
                  refine lv_goto (tgt := 61) hx hb dX11_little_182 (by decide) ?_
                  replace hl : lv_has ls 6 [(1, .int (I z_1206)), (0, .ref a)] := lv_sub hl [0, 3] rfl
                  obtain ⟨z_1207, e_1208, rz_1207, lz_1207, uz_1207⟩ := hO.gi h_a (by decide) k13_13
                  obtain ⟨z_1209, e_1210, rz_1209, lz_1209, uz_1209⟩ := hO.gi h_a (by decide) k13_14
                  obtain ⟨z_1211, e_1212, rz_1211, lz_1211, uz_1211⟩ := hO.gi h_a (by decide) k13_19
                  exact ihJ_1011 (z_1206, z_1207, z_1209, z_1211) σ_s_1187 _ _ _ (by have h8 := hw_1186.1.2; unfold pgo at h8; simp only [fg]; omega) ⟨hO, hF, hM, hsr, hH, hS, lv_sub hl [1, 0] rfl, rz_1206, rz_1207, rz_1209, rz_1211, by first | (dsimp only; omega) | omega, by first | (dsimp only; omega) | omega, by first | (dsimp only; omega) | omega, by first | (dsimp only; omega) | omega, by first | (dsimp only; omega) | omega, by first | (dsimp only; omega) | omega, by first | (dsimp only; omega) | omega, (hw_1186.1.2.is (by first | (dsimp only; omega) | omega) (by first | (dsimp only; omega) | omega) (by first | (dsimp only; omega) | omega) (by first | (dsimp only; omega) | omega)), e_1188, e_1189, e_1190, e_1191, e_1208, e_1210, e_1212⟩
              · replace c_1193 := mt (I_eq (a := z_1120) (b := 0) rz_1120 (show rng 0 from ⟨by decide, by decide⟩)).mpr c_1193
                refine lv_aload_n hx hb dX11_little_128 rfl (lv_at hl 2 rfl) ?_
                refine ok.getR hO h_a (by decide) k13_1 (by decide) (fun _ _ he hv kk => th_get (ci := 11) (C := RX11) (T := TX11) (N := 66) hx hb hts inX11 hown hK hH he rfl 1 (by decide) fl3 hv dX11_little_129 kk) ?_
                refine lv_iload_n hx hb dX11_little_132 rfl (lv_at hl 3 rfl) ?_
                refine th_calli (va_runS (As := [.ref (ad E a 1), .int (I v1q1010)]) (rest := []) ⟨hx, hb, hml, hown, hts⟩ (w_kind l G y b0 σ_s_1187 E hO (ad E a 1) 240 f1 (hO.roww h_a k13_1 isA1 e_1191 rfl) v1q1010 (show rng v1q1010 from rv1q1010) (by omega) (by omega) (by omega)) (va_cwS 2 hts gX11_little_X11_kind rfl rfl rfl (by decide +kernel) ⟨Nat.le_of_ble_eq_true rfl, Nat.le_of_ble_eq_true rfl⟩) (th_PS hK hH) rfl rfl hl.1 rfl (lv_room (Nat.le_of_ble_eq_true rfl)) dX11_little_133 ⟨Nat.le_of_ble_eq_true rfl, Nat.le_of_ble_eq_true rfl⟩) hS (fun z_1215 σ_s_1214 H locs rz_1215 hw_1213 hH hS => ?_)
                obtain ⟨e9, hw_1213⟩ := hw_1213
                replace e9 := e9.symm
                subst e9
                have hw_1213 : z_1215 = mK f1 v1q1010 := hw_1213
                refine lv_iconst (v := I 3) hx hb dX11_little_136 (by decide) ?_
                refine lv_icmp_ne (tgt := 152) hx hb dX11_little_137 (by decide) (fun c_1216 => ?_) (fun c_1216 => ?_)
                · replace c_1216 := mt (I_eq (a := z_1215) (b := 3) rz_1215 (show rng 3 from ⟨by decide, by decide⟩)).mpr c_1216
                  refine lv_iconst (v := I (-1)) hx hb dX11_little_152 (by decide) ?_
                  refine lv_goto (tgt := 181) hx hb dX11_little_153 (by decide) ?_
                  refine lv_istore_n (lv' := [(1, .int (I (-1))), (3, .int (I z_1133)), (2, .int (I z_1120)), (0, .ref a)]) hx hb dX11_little_181 rfl hl (by decide) rfl (fun ls hl => ?_)
                  refine lv_goto (tgt := 61) hx hb dX11_little_182 (by decide) ?_
                  replace hl : lv_has ls 6 [(1, .int (I (-1))), (0, .ref a)] := lv_sub hl [0, 3] rfl
                  obtain ⟨z_1217, e_1218, rz_1217, lz_1217, uz_1217⟩ := hO.gi h_a (by decide) k13_13
                  obtain ⟨z_1219, e_1220, rz_1219, lz_1219, uz_1219⟩ := hO.gi h_a (by decide) k13_14
                  obtain ⟨z_1221, e_1222, rz_1221, lz_1221, uz_1221⟩ := hO.gi h_a (by decide) k13_19
                  exact ihJ_1011 ((-1), z_1217, z_1219, z_1221) σ_s_1187 _ _ _ (by have h8 := hw_1186.1.2; unfold pgo at h8; simp only [fg]; omega) ⟨hO, hF, hM, hsr, hH, hS, lv_sub hl [1, 0] rfl, (show rng (-1) from ⟨by decide, by decide⟩), rz_1217, rz_1219, rz_1221, by first | (dsimp only; omega) | omega, by first | (dsimp only; omega) | omega, by first | (dsimp only; omega) | omega, by first | (dsimp only; omega) | omega, by first | (dsimp only; omega) | omega, by first | (dsimp only; omega) | omega, by first | (dsimp only; omega) | omega, (hw_1186.1.2.is (by first | (dsimp only; omega) | omega) (by first | (dsimp only; omega) | omega) (by first | (dsimp only; omega) | omega) (by first | (dsimp only; omega) | omega)), e_1188, e_1189, e_1190, e_1191, e_1218, e_1220, e_1222⟩
                · replace c_1216 := (I_eq (a := z_1215) (b := 3) rz_1215 (show rng 3 from ⟨by decide, by decide⟩)).mp c_1216
                  refine lv_aload_n hx hb dX11_little_140 rfl (lv_at hl 2 rfl) ?_
                  refine ok.getR hO h_a (by decide) k13_1 (by decide) (fun _ _ he hv kk => th_get (ci := 11) (C := RX11) (T := TX11) (N := 66) hx hb hts inX11 hown hK hH he rfl 1 (by decide) fl3 hv dX11_little_141 kk) ?_
                  refine lv_iload_n hx hb dX11_little_144 rfl (lv_at hl 3 rfl) ?_
                  refine lv_iload_n hx hb dX11_little_145 rfl (lv_at hl 0 rfl) ?_
                  refine th_calli (va_runS (As := [.ref (ad E a 1), .int (I v1q1010), .int (I z_1133)]) (rest := []) ⟨hx, hb, hml, hown, hts⟩ (w_byKey l G y b0 σ_s_1187 E hO (ad E a 1) 240 f1 (hO.roww h_a k13_1 isA1 e_1191 rfl) v1q1010 (show rng v1q1010 from rv1q1010) (by omega) (by omega) z_1133 (show rng z_1133 from rz_1133) (by first | exact hy0 | exact (hy0).sub (by omega) (by omega)) (by omega) (by omega) (by omega)) (va_cwS 3 hts gX11_little_X11_byKey rfl rfl rfl (by decide +kernel) ⟨Nat.le_of_ble_eq_true rfl, Nat.le_of_ble_eq_true rfl⟩) (th_PS hK hH) rfl rfl hl.1 rfl (lv_room (Nat.le_of_ble_eq_true rfl)) dX11_little_146 ⟨Nat.le_of_ble_eq_true rfl, Nat.le_of_ble_eq_true rfl⟩) hS (fun z_1225 σ_s_1224 H locs rz_1225 hw_1223 hH hS => ?_)
                  obtain ⟨e9, hw_1223⟩ := hw_1223
                  replace e9 := e9.symm
                  subst e9
                  have hw_1223 : (z_1225 = -1 ∧ nok f1 (v1q1010 + 1) (v1q1010 + mS f1 v1q1010) z_1133) ∨ (kid f1 v1q1010 z_1225 ∧ mY f1 z_1225 = z_1133 ∧ v1q1010 < z_1225 ∧ z_1225 < v1q1010 + mS f1 v1q1010) := hw_1223
                  refine lv_goto (tgt := 181) hx hb dX11_little_149 (by decide) ?_
                  refine lv_istore_n (lv' := [(1, .int (I z_1225)), (3, .int (I z_1133)), (2, .int (I z_1120)), (0, .ref a)]) hx hb dX11_little_181 rfl hl (by decide) rfl (fun ls hl => ?_)
                  refine lv_goto (tgt := 61) hx hb dX11_little_182 (by decide) ?_
                  replace hl : lv_has ls 6 [(1, .int (I z_1225)), (0, .ref a)] := lv_sub hl [0, 3] rfl
                  obtain ⟨z_1226, e_1227, rz_1226, lz_1226, uz_1226⟩ := hO.gi h_a (by decide) k13_13
                  obtain ⟨z_1228, e_1229, rz_1228, lz_1228, uz_1228⟩ := hO.gi h_a (by decide) k13_14
                  obtain ⟨z_1230, e_1231, rz_1230, lz_1230, uz_1230⟩ := hO.gi h_a (by decide) k13_19
                  exact ihJ_1011 (z_1225, z_1226, z_1228, z_1230) σ_s_1187 _ _ _ (by have h8 := hw_1186.1.2; unfold pgo at h8; simp only [fg]; omega) ⟨hO, hF, hM, hsr, hH, hS, lv_sub hl [1, 0] rfl, rz_1225, rz_1226, rz_1228, rz_1230, by first | (dsimp only; omega) | omega, by first | (dsimp only; omega) | omega, by first | (dsimp only; omega) | omega, by first | (dsimp only; omega) | omega, by first | (dsimp only; omega) | omega, by first | (dsimp only; omega) | omega, by first | (dsimp only; omega) | omega, (hw_1186.1.2.is (by first | (dsimp only; omega) | omega) (by first | (dsimp only; omega) | omega) (by first | (dsimp only; omega) | omega) (by first | (dsimp only; omega) | omega)), e_1188, e_1189, e_1190, e_1191, e_1227, e_1229, e_1231⟩
            · replace c_1192 := (I_eq (a := v1q1010) (b := (-1)) rv1q1010 (show rng (-1) from ⟨by decide, by decide⟩)).mp c_1192
              refine lv_goto (tgt := 61) hx hb dX11_little_121 (by decide) ?_
              replace hl : lv_has ls 6 [(0, .ref a), (1, .int (I v1q1010))] := lv_sub hl [2, 3] rfl
              obtain ⟨z_1232, e_1233, rz_1232, lz_1232, uz_1232⟩ := hO.gi h_a (by decide) k13_13
              obtain ⟨z_1234, e_1235, rz_1234, lz_1234, uz_1234⟩ := hO.gi h_a (by decide) k13_14
              obtain ⟨z_1236, e_1237, rz_1236, lz_1236, uz_1236⟩ := hO.gi h_a (by decide) k13_19
              exact ihJ_1011 (v1q1010, z_1232, z_1234, z_1236) σ_s_1187 _ _ _ (by have h8 := hw_1186.1.2; unfold pgo at h8; simp only [fg]; omega) ⟨hO, hF, hM, hsr, hH, hS, lv_sub hl [0, 1] rfl, rv1q1010, rz_1232, rz_1234, rz_1236, by first | (dsimp only; omega) | omega, by first | (dsimp only; omega) | omega, by first | (dsimp only; omega) | omega, by first | (dsimp only; omega) | omega, by first | (dsimp only; omega) | omega, by first | (dsimp only; omega) | omega, by first | (dsimp only; omega) | omega, (hw_1186.1.2.is (by first | (dsimp only; omega) | omega) (by first | (dsimp only; omega) | omega) (by first | (dsimp only; omega) | omega) (by first | (dsimp only; omega) | omega)), e_1188, e_1189, e_1190, e_1191, e_1233, e_1235, e_1237⟩
        · replace c_1129 := mt (I_eq (a := z_1120) (b := 0) rz_1120 (show rng 0 from ⟨by decide, by decide⟩)).mpr c_1129
          replace hw_1118 := (hw_1118.resolve_left c_1129).2
          refine lv_aload_n hx hb dX11_little_94 rfl (lv_at hl 1 rfl) ?_
          obtain ⟨_, hc_1238⟩ := hO.cell h_a (by decide) (ci := 11) rfl
          refine th_calli (va_runV (As := []) (rest := []) ⟨hx, hb, hml, hown, hts⟩ (m_readWord l G y b0 σ_s_1123 E hO a h_a Bf hsr (by omega)) (cwV 0 hts gX11_little_X11_readWord rfl rfl rfl (by decide +kernel) ⟨Nat.le_of_ble_eq_true rfl, Nat.le_of_ble_eq_true rfl⟩) (th_PV hK hH rfl hc_1238) rfl rfl hl.1 rfl (lv_room (Nat.le_of_ble_eq_true rfl)) dX11_little_95 ⟨Nat.le_of_ble_eq_true rfl, Nat.le_of_ble_eq_true rfl⟩) hS (fun z_1241 σ_s_1240 H locs rz_1241 hw_1239 hH hS => ?_)
          obtain ⟨hO9, hF9, hM9, hw_1239⟩ := hw_1239
          replace hM := hM.tu hM9 (by decide)
          replace hF := hF.tu hF9 (by decide)
          have e_1242 : gI σ_s_1240 a 11 = a110 := (hM9.i (by decide)).trans e_1124
          have e_1243 : gI σ_s_1240 a 30 = a300 := (hM9.i (by decide)).trans e_1125
          have e_1244 : gI σ_s_1240 a 27 = z_985 := (hM9.i (by decide)).trans e_1126
          have e_1245 : aF σ_s_1240 (ad E a 1) = f1 := (hM9.a (by decide) (by decide)).trans e_1127
          replace hsr := hsr.mv hM9 (by decide) (by decide) (by decide) (by decide) (by decide)
          replace hO := hO9
          have hw_1239 : (gI σ_s_1123 a 13 ≤ gI σ_s_1240 a 13 ∧ gI σ_s_1240 a 13 ≤ gI σ_s_1123 a 11 ∧ 0 ≤ gI σ_s_1240 a 17 ∧ gI σ_s_1240 a 17 ≤ gI σ_s_1240 a 13) ∧ pgo (gI σ_s_1240 a 19) (gI σ_s_1240 a 14) (gI σ_s_1123 a 13) (gI σ_s_1240 a 13) ∧ bdo (gI σ_s_1123 a 19) (gI σ_s_1240 a 19) := hw_1239
          refine lv_goto (tgt := 105) hx hb dX11_little_98 (by decide) ?_
          refine lv_istore_n (lv' := [(3, .int (I z_1241)), (2, .int (I z_1120)), (0, .ref a), (1, .int (I v1q1010))]) hx hb dX11_little_105 rfl hl (by decide) rfl (fun ls hl => ?_)
          refine lv_iload_n hx hb dX11_little_106 rfl (lv_at hl 1 rfl) ?_
          refine lv_if_ne (tgt := 116) hx hb dX11_little_107 (by decide) (fun c_1246 => ?_) (fun c_1246 => ?_)
          · replace c_1246 := mt (I_eq (a := z_1120) (b := 0) rz_1120 (show rng 0 from ⟨by decide, by decide⟩)).mpr c_1246
            refine lv_iload_n hx hb dX11_little_116 rfl (lv_at hl 3 rfl) ?_
            refine lv_iconst (v := I (-1)) hx hb dX11_little_117 (by decide) ?_
            refine lv_icmp_ne (tgt := 124) hx hb dX11_little_118 (by decide) (fun c_1247 => ?_) (fun c_1247 => ?_)
            · replace c_1247 := mt (I_eq (a := v1q1010) (b := (-1)) rv1q1010 (show rng (-1) from ⟨by decide, by decide⟩)).mpr c_1247
              have hk1 := hy0 v1q1010 (by omega) (by omega)
              refine lv_iload_n hx hb dX11_little_124 rfl (lv_at hl 1 rfl) ?_
              refine lv_if_eq (tgt := 156) hx hb dX11_little_125 (by decide) (fun c_1248 => ?_) (fun c_1248 => ?_)
              · replace c_1248 := (I_eq (a := z_1120) (b := 0) rz_1120 (show rng 0 from ⟨by decide, by decide⟩)).mp c_1248
                refine lv_aload_n hx hb dX11_little_156 rfl (lv_at hl 2 rfl) ?_
                refine ok.getR hO h_a (by decide) k13_1 (by decide) (fun _ _ he hv kk => th_get (ci := 11) (C := RX11) (T := TX11) (N := 66) hx hb hts inX11 hown hK hH he rfl 1 (by decide) fl3 hv dX11_little_157 kk) ?_
                refine lv_iload_n hx hb dX11_little_160 rfl (lv_at hl 3 rfl) ?_
                refine th_calli (va_runS (As := [.ref (ad E a 1), .int (I v1q1010)]) (rest := []) ⟨hx, hb, hml, hown, hts⟩ (w_kind l G y b0 σ_s_1240 E hO (ad E a 1) 240 f1 (hO.roww h_a k13_1 isA1 e_1245 rfl) v1q1010 (show rng v1q1010 from rv1q1010) (by omega) (by omega) (by omega)) (va_cwS 2 hts gX11_little_X11_kind rfl rfl rfl (by decide +kernel) ⟨Nat.le_of_ble_eq_true rfl, Nat.le_of_ble_eq_true rfl⟩) (th_PS hK hH) rfl rfl hl.1 rfl (lv_room (Nat.le_of_ble_eq_true rfl)) dX11_little_161 ⟨Nat.le_of_ble_eq_true rfl, Nat.le_of_ble_eq_true rfl⟩) hS (fun z_1251 σ_s_1250 H locs rz_1251 hw_1249 hH hS => ?_)
                obtain ⟨e9, hw_1249⟩ := hw_1249
                replace e9 := e9.symm
                subst e9
                have hw_1249 : z_1251 = mK f1 v1q1010 := hw_1249
                refine lv_iconst (v := I 2) hx hb dX11_little_164 (by decide) ?_
                refine lv_icmp_ne (tgt := 180) hx hb dX11_little_165 (by decide) (fun c_1252 => ?_) (fun c_1252 => ?_)
                · replace c_1252 := mt (I_eq (a := z_1251) (b := 2) rz_1251 (show rng 2 from ⟨by decide, by decide⟩)).mpr c_1252
                  refine lv_iconst (v := I (-1)) hx hb dX11_little_180 (by decide) ?_
                  refine lv_istore_n (lv' := [(1, .int (I (-1))), (3, .int (I z_1241)), (2, .int (I z_1120)), (0, .ref a)]) hx hb dX11_little_181 rfl hl (by decide) rfl (fun ls hl => ?_)
                  refine lv_goto (tgt := 61) hx hb dX11_little_182 (by decide) ?_
                  replace hl : lv_has ls 6 [(1, .int (I (-1))), (0, .ref a)] := lv_sub hl [0, 3] rfl
                  obtain ⟨z_1253, e_1254, rz_1253, lz_1253, uz_1253⟩ := hO.gi h_a (by decide) k13_13
                  obtain ⟨z_1255, e_1256, rz_1255, lz_1255, uz_1255⟩ := hO.gi h_a (by decide) k13_14
                  obtain ⟨z_1257, e_1258, rz_1257, lz_1257, uz_1257⟩ := hO.gi h_a (by decide) k13_19
                  exact ihJ_1011 ((-1), z_1253, z_1255, z_1257) σ_s_1240 _ _ _ (by have h8 := hw_1239.1.2; unfold pgo at h8; simp only [fg]; omega) ⟨hO, hF, hM, hsr, hH, hS, lv_sub hl [1, 0] rfl, (show rng (-1) from ⟨by decide, by decide⟩), rz_1253, rz_1255, rz_1257, by first | (dsimp only; omega) | omega, by first | (dsimp only; omega) | omega, by first | (dsimp only; omega) | omega, by first | (dsimp only; omega) | omega, by first | (dsimp only; omega) | omega, by first | (dsimp only; omega) | omega, by first | (dsimp only; omega) | omega, (hw_1239.1.2.is (by first | (dsimp only; omega) | omega) (by first | (dsimp only; omega) | omega) (by first | (dsimp only; omega) | omega) (by first | (dsimp only; omega) | omega)), e_1242, e_1243, e_1244, e_1245, e_1254, e_1256, e_1258⟩
                · replace c_1252 := (I_eq (a := z_1251) (b := 2) rz_1251 (show rng 2 from ⟨by decide, by decide⟩)).mp c_1252
                  refine lv_aload_n hx hb dX11_little_168 rfl (lv_at hl 2 rfl) ?_
                  refine ok.getR hO h_a (by decide) k13_1 (by decide) (fun _ _ he hv kk => th_get (ci := 11) (C := RX11) (T := TX11) (N := 66) hx hb hts inX11 hown hK hH he rfl 1 (by decide) fl3 hv dX11_little_169 kk) ?_
                  refine lv_iload_n hx hb dX11_little_172 rfl (lv_at hl 3 rfl) ?_
                  refine lv_iload_n hx hb dX11_little_173 rfl (lv_at hl 0 rfl) ?_
                  refine th_calli (va_runS (As := [.ref (ad E a 1), .int (I v1q1010), .int (I z_1241)]) (rest := []) ⟨hx, hb, hml, hown, hts⟩ (w_byPlace l G y b0 σ_s_1240 E hO (ad E a 1) 240 f1 (hO.roww h_a k13_1 isA1 e_1245 rfl) v1q1010 (show rng v1q1010 from rv1q1010) (by omega) (by omega) z_1241 (show rng z_1241 from rz_1241) (by first | exact hy0 | exact (hy0).sub (by omega) (by omega)) (by omega) (by omega) (by omega)) (va_cwS 3 hts gX11_little_X11_byPlace rfl rfl rfl (by decide +kernel) ⟨Nat.le_of_ble_eq_true rfl, Nat.le_of_ble_eq_true rfl⟩) (th_PS hK hH) rfl rfl hl.1 rfl (lv_room (Nat.le_of_ble_eq_true rfl)) dX11_little_174 ⟨Nat.le_of_ble_eq_true rfl, Nat.le_of_ble_eq_true rfl⟩) hS (fun z_1261 σ_s_1260 H locs rz_1261 hw_1259 hH hS => ?_)
                  obtain ⟨e9, hw_1259⟩ := hw_1259
                  replace e9 := e9.symm
                  subst e9
                  have hw_1259 : z_1261 = -1 ∨ (kid f1 v1q1010 z_1261 ∧ v1q1010 < z_1261 ∧ z_1261 < v1q1010 + mS f1 v1q1010) := hw_1259
                  refine lv_goto (tgt := 181) hx hb dX11_little_177 (by decide) ?_
                  refine lv_istore_n (lv' := [(1, .int (I z_1261)), (3, .int (I z_1241)), (2, .int (I z_1120)), (0, .ref a)]) hx hb dX11_little_181 rfl hl (by decide) rfl (fun ls hl => ?_)
                  refine lv_goto (tgt := 61) hx hb dX11_little_182 (by decide) ?_
                  replace hl : lv_has ls 6 [(1, .int (I z_1261)), (0, .ref a)] := lv_sub hl [0, 3] rfl
                  obtain ⟨z_1262, e_1263, rz_1262, lz_1262, uz_1262⟩ := hO.gi h_a (by decide) k13_13
                  obtain ⟨z_1264, e_1265, rz_1264, lz_1264, uz_1264⟩ := hO.gi h_a (by decide) k13_14
                  obtain ⟨z_1266, e_1267, rz_1266, lz_1266, uz_1266⟩ := hO.gi h_a (by decide) k13_19
                  exact ihJ_1011 (z_1261, z_1262, z_1264, z_1266) σ_s_1240 _ _ _ (by have h8 := hw_1239.1.2; unfold pgo at h8; simp only [fg]; omega) ⟨hO, hF, hM, hsr, hH, hS, lv_sub hl [1, 0] rfl, rz_1261, rz_1262, rz_1264, rz_1266, by first | (dsimp only; omega) | omega, by first | (dsimp only; omega) | omega, by first | (dsimp only; omega) | omega, by first | (dsimp only; omega) | omega, by first | (dsimp only; omega) | omega, by first | (dsimp only; omega) | omega, by first | (dsimp only; omega) | omega, (hw_1239.1.2.is (by first | (dsimp only; omega) | omega) (by first | (dsimp only; omega) | omega) (by first | (dsimp only; omega) | omega) (by first | (dsimp only; omega) | omega)), e_1242, e_1243, e_1244, e_1245, e_1263, e_1265, e_1267⟩
              · replace c_1248 := mt (I_eq (a := z_1120) (b := 0) rz_1120 (show rng 0 from ⟨by decide, by decide⟩)).mpr c_1248
                refine lv_aload_n hx hb dX11_little_128 rfl (lv_at hl 2 rfl) ?_
                refine ok.getR hO h_a (by decide) k13_1 (by decide) (fun _ _ he hv kk => th_get (ci := 11) (C := RX11) (T := TX11) (N := 66) hx hb hts inX11 hown hK hH he rfl 1 (by decide) fl3 hv dX11_little_129 kk) ?_
                refine lv_iload_n hx hb dX11_little_132 rfl (lv_at hl 3 rfl) ?_
                refine th_calli (va_runS (As := [.ref (ad E a 1), .int (I v1q1010)]) (rest := []) ⟨hx, hb, hml, hown, hts⟩ (w_kind l G y b0 σ_s_1240 E hO (ad E a 1) 240 f1 (hO.roww h_a k13_1 isA1 e_1245 rfl) v1q1010 (show rng v1q1010 from rv1q1010) (by omega) (by omega) (by omega)) (va_cwS 2 hts gX11_little_X11_kind rfl rfl rfl (by decide +kernel) ⟨Nat.le_of_ble_eq_true rfl, Nat.le_of_ble_eq_true rfl⟩) (th_PS hK hH) rfl rfl hl.1 rfl (lv_room (Nat.le_of_ble_eq_true rfl)) dX11_little_133 ⟨Nat.le_of_ble_eq_true rfl, Nat.le_of_ble_eq_true rfl⟩) hS (fun z_1270 σ_s_1269 H locs rz_1270 hw_1268 hH hS => ?_)
                obtain ⟨e9, hw_1268⟩ := hw_1268
                replace e9 := e9.symm
                subst e9
                have hw_1268 : z_1270 = mK f1 v1q1010 := hw_1268
                refine lv_iconst (v := I 3) hx hb dX11_little_136 (by decide) ?_
                refine lv_icmp_ne (tgt := 152) hx hb dX11_little_137 (by decide) (fun c_1271 => ?_) (fun c_1271 => ?_)
                · replace c_1271 := mt (I_eq (a := z_1270) (b := 3) rz_1270 (show rng 3 from ⟨by decide, by decide⟩)).mpr c_1271
                  refine lv_iconst (v := I (-1)) hx hb dX11_little_152 (by decide) ?_
                  refine lv_goto (tgt := 181) hx hb dX11_little_153 (by decide) ?_
                  refine lv_istore_n (lv' := [(1, .int (I (-1))), (3, .int (I z_1241)), (2, .int (I z_1120)), (0, .ref a)]) hx hb dX11_little_181 rfl hl (by decide) rfl (fun ls hl => ?_)
                  refine lv_goto (tgt := 61) hx hb dX11_little_182 (by decide) ?_
                  replace hl : lv_has ls 6 [(1, .int (I (-1))), (0, .ref a)] := lv_sub hl [0, 3] rfl
                  obtain ⟨z_1272, e_1273, rz_1272, lz_1272, uz_1272⟩ := hO.gi h_a (by decide) k13_13
                  obtain ⟨z_1274, e_1275, rz_1274, lz_1274, uz_1274⟩ := hO.gi h_a (by decide) k13_14
                  obtain ⟨z_1276, e_1277, rz_1276, lz_1276, uz_1276⟩ := hO.gi h_a (by decide) k13_19
                  exact ihJ_1011 ((-1), z_1272, z_1274, z_1276) σ_s_1240 _ _ _ (by have h8 := hw_1239.1.2; unfold pgo at h8; simp only [fg]; omega) ⟨hO, hF, hM, hsr, hH, hS, lv_sub hl [1, 0] rfl, (show rng (-1) from ⟨by decide, by decide⟩), rz_1272, rz_1274, rz_1276, by first | (dsimp only; omega) | omega, by first | (dsimp only; omega) | omega, by first | (dsimp only; omega) | omega, by first | (dsimp only; omega) | omega, by first | (dsimp only; omega) | omega, by first | (dsimp only; omega) | omega, by first | (dsimp only; omega) | omega, (hw_1239.1.2.is (by first | (dsimp only; omega) | omega) (by first | (dsimp only; omega) | omega) (by first | (dsimp only; omega) | omega) (by first | (dsimp only; omega) | omega)), e_1242, e_1243, e_1244, e_1245, e_1273, e_1275, e_1277⟩
                · replace c_1271 := (I_eq (a := z_1270) (b := 3) rz_1270 (show rng 3 from ⟨by decide, by decide⟩)).mp c_1271
                  refine lv_aload_n hx hb dX11_little_140 rfl (lv_at hl 2 rfl) ?_
                  refine ok.getR hO h_a (by decide) k13_1 (by decide) (fun _ _ he hv kk => th_get (ci := 11) (C := RX11) (T := TX11) (N := 66) hx hb hts inX11 hown hK hH he rfl 1 (by decide) fl3 hv dX11_little_141 kk) ?_
                  refine lv_iload_n hx hb dX11_little_144 rfl (lv_at hl 3 rfl) ?_
                  refine lv_iload_n hx hb dX11_little_145 rfl (lv_at hl 0 rfl) ?_
                  refine th_calli (va_runS (As := [.ref (ad E a 1), .int (I v1q1010), .int (I z_1241)]) (rest := []) ⟨hx, hb, hml, hown, hts⟩ (w_byKey l G y b0 σ_s_1240 E hO (ad E a 1) 240 f1 (hO.roww h_a k13_1 isA1 e_1245 rfl) v1q1010 (show rng v1q1010 from rv1q1010) (by omega) (by omega) z_1241 (show rng z_1241 from rz_1241) (by first | exact hy0 | exact (hy0).sub (by omega) (by omega)) (by omega) (by omega) (by omega)) (va_cwS 3 hts gX11_little_X11_byKey rfl rfl rfl (by decide +kernel) ⟨Nat.le_of_ble_eq_true rfl, Nat.le_of_ble_eq_true rfl⟩) (th_PS hK hH) rfl rfl hl.1 rfl (lv_room (Nat.le_of_ble_eq_true rfl)) dX11_little_146 ⟨Nat.le_of_ble_eq_true rfl, Nat.le_of_ble_eq_true rfl⟩) hS (fun z_1280 σ_s_1279 H locs rz_1280 hw_1278 hH hS => ?_)
                  obtain ⟨e9, hw_1278⟩ := hw_1278
                  replace e9 := e9.symm
                  subst e9
                  have hw_1278 : (z_1280 = -1 ∧ nok f1 (v1q1010 + 1) (v1q1010 + mS f1 v1q1010) z_1241) ∨ (kid f1 v1q1010 z_1280 ∧ mY f1 z_1280 = z_1241 ∧ v1q1010 < z_1280 ∧ z_1280 < v1q1010 + mS f1 v1q1010) := hw_1278
                  refine lv_goto (tgt := 181) hx hb dX11_little_149 (by decide) ?_
                  refine lv_istore_n (lv' := [(1, .int (I z_1280)), (3, .int (I z_1241)), (2, .int (I z_1120)), (0, .ref a)]) hx hb dX11_little_181 rfl hl (by decide) rfl (fun ls hl => ?_)
                  refine lv_goto (tgt := 61) hx hb dX11_little_182 (by decide) ?_
                  replace hl : lv_has ls 6 [(1, .int (I z_1280)), (0, .ref a)] := lv_sub hl [0, 3] rfl
                  obtain ⟨z_1281, e_1282, rz_1281, lz_1281, uz_1281⟩ := hO.gi h_a (by decide) k13_13
                  obtain ⟨z_1283, e_1284, rz_1283, lz_1283, uz_1283⟩ := hO.gi h_a (by decide) k13_14
                  obtain ⟨z_1285, e_1286, rz_1285, lz_1285, uz_1285⟩ := hO.gi h_a (by decide) k13_19
                  exact ihJ_1011 (z_1280, z_1281, z_1283, z_1285) σ_s_1240 _ _ _ (by have h8 := hw_1239.1.2; unfold pgo at h8; simp only [fg]; omega) ⟨hO, hF, hM, hsr, hH, hS, lv_sub hl [1, 0] rfl, rz_1280, rz_1281, rz_1283, rz_1285, by first | (dsimp only; omega) | omega, by first | (dsimp only; omega) | omega, by first | (dsimp only; omega) | omega, by first | (dsimp only; omega) | omega, by first | (dsimp only; omega) | omega, by first | (dsimp only; omega) | omega, by first | (dsimp only; omega) | omega, (hw_1239.1.2.is (by first | (dsimp only; omega) | omega) (by first | (dsimp only; omega) | omega) (by first | (dsimp only; omega) | omega) (by first | (dsimp only; omega) | omega)), e_1242, e_1243, e_1244, e_1245, e_1282, e_1284, e_1286⟩
            · replace c_1247 := (I_eq (a := v1q1010) (b := (-1)) rv1q1010 (show rng (-1) from ⟨by decide, by decide⟩)).mp c_1247
              refine lv_goto (tgt := 61) hx hb dX11_little_121 (by decide) ?_
              replace hl : lv_has ls 6 [(0, .ref a), (1, .int (I v1q1010))] := lv_sub hl [2, 3] rfl
              obtain ⟨z_1287, e_1288, rz_1287, lz_1287, uz_1287⟩ := hO.gi h_a (by decide) k13_13
              obtain ⟨z_1289, e_1290, rz_1289, lz_1289, uz_1289⟩ := hO.gi h_a (by decide) k13_14
              obtain ⟨z_1291, e_1292, rz_1291, lz_1291, uz_1291⟩ := hO.gi h_a (by decide) k13_19
              exact ihJ_1011 (v1q1010, z_1287, z_1289, z_1291) σ_s_1240 _ _ _ (by have h8 := hw_1239.1.2; unfold pgo at h8; simp only [fg]; omega) ⟨hO, hF, hM, hsr, hH, hS, lv_sub hl [0, 1] rfl, rv1q1010, rz_1287, rz_1289, rz_1291, by first | (dsimp only; omega) | omega, by first | (dsimp only; omega) | omega, by first | (dsimp only; omega) | omega, by first | (dsimp only; omega) | omega, by first | (dsimp only; omega) | omega, by first | (dsimp only; omega) | omega, by first | (dsimp only; omega) | omega, (hw_1239.1.2.is (by first | (dsimp only; omega) | omega) (by first | (dsimp only; omega) | omega) (by first | (dsimp only; omega) | omega) (by first | (dsimp only; omega) | omega)), e_1242, e_1243, e_1244, e_1245, e_1288, e_1290, e_1292⟩
          · replace c_1246 := (I_eq (a := z_1120) (b := 0) rz_1120 (show rng 0 from ⟨by decide, by decide⟩)).mp c_1246
            refine lv_aload_n hx hb dX11_little_110 rfl (lv_at hl 2 rfl) ?_
            refine lv_bipush (v := I 93) hx hb dX11_little_111 (by decide) ?_
            obtain ⟨_, hc_1293⟩ := hO.cell h_a (by decide) (ci := 11) rfl
            refine th_callv (va_runV (As := [.int (I 93)]) (rest := []) ⟨hx, hb, hml, hown, hts⟩ (m_need l G y b0 σ_s_1240 E hO a h_a 93 (show rng 93 from (show rng 93 from ⟨by decide, by decide⟩)) Bf hsr (by omega)) (cwV 1 hts gX11_little_X11_need rfl rfl rfl (by decide +kernel) ⟨Nat.le_of_ble_eq_true rfl, Nat.le_of_ble_eq_true rfl⟩) (th_PV hK hH rfl hc_1293) rfl rfl hl.1 rfl (lv_room (Nat.le_of_ble_eq_true rfl)) dX11_little_113 ⟨Nat.le_of_ble_eq_true rfl, Nat.le_of_ble_eq_true rfl⟩) hS (fun σ_s_1295 H locs hw_1294 hH hS => ?_)
            obtain ⟨hO9, hF9, hM9, hw_1294⟩ := hw_1294
            replace hM := hM.tu hM9 (by decide)
            replace hF := hF.tu hF9 (by decide)
            have e_1296 : gI σ_s_1295 a 11 = a110 := (hM9.i (by decide)).trans e_1242
            have e_1297 : gI σ_s_1295 a 30 = a300 := (hM9.i (by decide)).trans e_1243
            have e_1298 : gI σ_s_1295 a 27 = z_985 := (hM9.i (by decide)).trans e_1244
            have e_1299 : aF σ_s_1295 (ad E a 1) = f1 := (hM9.a (by decide) (by decide)).trans e_1245
            replace hsr := hsr.mv hM9 (by decide) (by decide) (by decide) (by decide) (by decide)
            replace hO := hO9
            have hw_1294 : (gI σ_s_1240 a 13 ≤ gI σ_s_1295 a 13 ∧ gI σ_s_1295 a 13 ≤ gI σ_s_1240 a 11 ∧ 0 ≤ gI σ_s_1295 a 17 ∧ gI σ_s_1295 a 17 ≤ gI σ_s_1295 a 13) ∧ pgo (gI σ_s_1295 a 19) (gI σ_s_1295 a 14) (gI σ_s_1240 a 13) (gI σ_s_1295 a 13) ∧ bdo (gI σ_s_1240 a 19) (gI σ_s_1295 a 19) := hw_1294
            refine lv_iload_n hx hb dX11_little_116 rfl (lv_at hl 3 rfl) ?_
            refine lv_iconst (v := I (-1)) hx hb dX11_little_117 (by decide) ?_
            refine lv_icmp_ne (tgt := 124) hx hb dX11_little_118 (by decide) (fun c_1300 => ?_) (fun c_1300 => ?_)
            · replace c_1300 := mt (I_eq (a := v1q1010) (b := (-1)) rv1q1010 (show rng (-1) from ⟨by decide, by decide⟩)).mpr c_1300
              have hk1 := hy0 v1q1010 (by omega) (by omega)
              refine lv_iload_n hx hb dX11_little_124 rfl (lv_at hl 1 rfl) ?_
              refine lv_if_eq (tgt := 156) hx hb dX11_little_125 (by decide) (fun c_1301 => ?_) (fun c_1301 => ?_)
              · replace c_1301 := (I_eq (a := z_1120) (b := 0) rz_1120 (show rng 0 from ⟨by decide, by decide⟩)).mp c_1301
                refine lv_aload_n hx hb dX11_little_156 rfl (lv_at hl 2 rfl) ?_
                refine ok.getR hO h_a (by decide) k13_1 (by decide) (fun _ _ he hv kk => th_get (ci := 11) (C := RX11) (T := TX11) (N := 66) hx hb hts inX11 hown hK hH he rfl 1 (by decide) fl3 hv dX11_little_157 kk) ?_
                refine lv_iload_n hx hb dX11_little_160 rfl (lv_at hl 3 rfl) ?_
                refine th_calli (va_runS (As := [.ref (ad E a 1), .int (I v1q1010)]) (rest := []) ⟨hx, hb, hml, hown, hts⟩ (w_kind l G y b0 σ_s_1295 E hO (ad E a 1) 240 f1 (hO.roww h_a k13_1 isA1 e_1299 rfl) v1q1010 (show rng v1q1010 from rv1q1010) (by omega) (by omega) (by omega)) (va_cwS 2 hts gX11_little_X11_kind rfl rfl rfl (by decide +kernel) ⟨Nat.le_of_ble_eq_true rfl, Nat.le_of_ble_eq_true rfl⟩) (th_PS hK hH) rfl rfl hl.1 rfl (lv_room (Nat.le_of_ble_eq_true rfl)) dX11_little_161 ⟨Nat.le_of_ble_eq_true rfl, Nat.le_of_ble_eq_true rfl⟩) hS (fun z_1304 σ_s_1303 H locs rz_1304 hw_1302 hH hS => ?_)
                obtain ⟨e9, hw_1302⟩ := hw_1302
                replace e9 := e9.symm
                subst e9
                have hw_1302 : z_1304 = mK f1 v1q1010 := hw_1302
                refine lv_iconst (v := I 2) hx hb dX11_little_164 (by decide) ?_
                refine lv_icmp_ne (tgt := 180) hx hb dX11_little_165 (by decide) (fun c_1305 => ?_) (fun c_1305 => ?_)
                · replace c_1305 := mt (I_eq (a := z_1304) (b := 2) rz_1304 (show rng 2 from ⟨by decide, by decide⟩)).mpr c_1305
                  refine lv_iconst (v := I (-1)) hx hb dX11_little_180 (by decide) ?_
                  refine lv_istore_n (lv' := [(1, .int (I (-1))), (3, .int (I z_1241)), (2, .int (I z_1120)), (0, .ref a)]) hx hb dX11_little_181 rfl hl (by decide) rfl (fun ls hl => ?_)
                  refine lv_goto (tgt := 61) hx hb dX11_little_182 (by decide) ?_
                  replace hl : lv_has ls 6 [(1, .int (I (-1))), (0, .ref a)] := lv_sub hl [0, 3] rfl
                  obtain ⟨z_1306, e_1307, rz_1306, lz_1306, uz_1306⟩ := hO.gi h_a (by decide) k13_13
                  obtain ⟨z_1308, e_1309, rz_1308, lz_1308, uz_1308⟩ := hO.gi h_a (by decide) k13_14
                  obtain ⟨z_1310, e_1311, rz_1310, lz_1310, uz_1310⟩ := hO.gi h_a (by decide) k13_19
                  exact ihJ_1011 ((-1), z_1306, z_1308, z_1310) σ_s_1295 _ _ _ (by have h8 := hw_1294.1.2; unfold pgo at h8; simp only [fg]; omega) ⟨hO, hF, hM, hsr, hH, hS, lv_sub hl [1, 0] rfl, (show rng (-1) from ⟨by decide, by decide⟩), rz_1306, rz_1308, rz_1310, by first | (dsimp only; omega) | omega, by first | (dsimp only; omega) | omega, by first | (dsimp only; omega) | omega, by first | (dsimp only; omega) | omega, by first | (dsimp only; omega) | omega, by first | (dsimp only; omega) | omega, by first | (dsimp only; omega) | omega, (hw_1294.1.2.is (by first | (dsimp only; omega) | omega) (by first | (dsimp only; omega) | omega) (by first | (dsimp only; omega) | omega) (by first | (dsimp only; omega) | omega)), e_1296, e_1297, e_1298, e_1299, e_1307, e_1309, e_1311⟩
                · replace c_1305 := (I_eq (a := z_1304) (b := 2) rz_1304 (show rng 2 from ⟨by decide, by decide⟩)).mp c_1305
                  refine lv_aload_n hx hb dX11_little_168 rfl (lv_at hl 2 rfl) ?_
                  refine ok.getR hO h_a (by decide) k13_1 (by decide) (fun _ _ he hv kk => th_get (ci := 11) (C := RX11) (T := TX11) (N := 66) hx hb hts inX11 hown hK hH he rfl 1 (by decide) fl3 hv dX11_little_169 kk) ?_
                  refine lv_iload_n hx hb dX11_little_172 rfl (lv_at hl 3 rfl) ?_
                  refine lv_iload_n hx hb dX11_little_173 rfl (lv_at hl 0 rfl) ?_
                  refine th_calli (va_runS (As := [.ref (ad E a 1), .int (I v1q1010), .int (I z_1241)]) (rest := []) ⟨hx, hb, hml, hown, hts⟩ (w_byPlace l G y b0 σ_s_1295 E hO (ad E a 1) 240 f1 (hO.roww h_a k13_1 isA1 e_1299 rfl) v1q1010 (show rng v1q1010 from rv1q1010) (by omega) (by omega) z_1241 (show rng z_1241 from rz_1241) (by first | exact hy0 | exact (hy0).sub (by omega) (by omega)) (by omega) (by omega) (by omega)) (va_cwS 3 hts gX11_little_X11_byPlace rfl rfl rfl (by decide +kernel) ⟨Nat.le_of_ble_eq_true rfl, Nat.le_of_ble_eq_true rfl⟩) (th_PS hK hH) rfl rfl hl.1 rfl (lv_room (Nat.le_of_ble_eq_true rfl)) dX11_little_174 ⟨Nat.le_of_ble_eq_true rfl, Nat.le_of_ble_eq_true rfl⟩) hS (fun z_1314 σ_s_1313 H locs rz_1314 hw_1312 hH hS => ?_)
                  obtain ⟨e9, hw_1312⟩ := hw_1312
                  replace e9 := e9.symm
                  subst e9
                  have hw_1312 : z_1314 = -1 ∨ (kid f1 v1q1010 z_1314 ∧ v1q1010 < z_1314 ∧ z_1314 < v1q1010 + mS f1 v1q1010) := hw_1312
                  refine lv_goto (tgt := 181) hx hb dX11_little_177 (by decide) ?_
                  refine lv_istore_n (lv' := [(1, .int (I z_1314)), (3, .int (I z_1241)), (2, .int (I z_1120)), (0, .ref a)]) hx hb dX11_little_181 rfl hl (by decide) rfl (fun ls hl => ?_)
                  refine lv_goto (tgt := 61) hx hb dX11_little_182 (by decide) ?_
                  replace hl : lv_has ls 6 [(1, .int (I z_1314)), (0, .ref a)] := lv_sub hl [0, 3] rfl
                  obtain ⟨z_1315, e_1316, rz_1315, lz_1315, uz_1315⟩ := hO.gi h_a (by decide) k13_13
                  obtain ⟨z_1317, e_1318, rz_1317, lz_1317, uz_1317⟩ := hO.gi h_a (by decide) k13_14
                  obtain ⟨z_1319, e_1320, rz_1319, lz_1319, uz_1319⟩ := hO.gi h_a (by decide) k13_19
                  exact ihJ_1011 (z_1314, z_1315, z_1317, z_1319) σ_s_1295 _ _ _ (by have h8 := hw_1294.1.2; unfold pgo at h8; simp only [fg]; omega) ⟨hO, hF, hM, hsr, hH, hS, lv_sub hl [1, 0] rfl, rz_1314, rz_1315, rz_1317, rz_1319, by first | (dsimp only; omega) | omega, by first | (dsimp only; omega) | omega, by first | (dsimp only; omega) | omega, by first | (dsimp only; omega) | omega, by first | (dsimp only; omega) | omega, by first | (dsimp only; omega) | omega, by first | (dsimp only; omega) | omega, (hw_1294.1.2.is (by first | (dsimp only; omega) | omega) (by first | (dsimp only; omega) | omega) (by first | (dsimp only; omega) | omega) (by first | (dsimp only; omega) | omega)), e_1296, e_1297, e_1298, e_1299, e_1316, e_1318, e_1320⟩
              · replace c_1301 := mt (I_eq (a := z_1120) (b := 0) rz_1120 (show rng 0 from ⟨by decide, by decide⟩)).mpr c_1301
                refine lv_aload_n hx hb dX11_little_128 rfl (lv_at hl 2 rfl) ?_
                refine ok.getR hO h_a (by decide) k13_1 (by decide) (fun _ _ he hv kk => th_get (ci := 11) (C := RX11) (T := TX11) (N := 66) hx hb hts inX11 hown hK hH he rfl 1 (by decide) fl3 hv dX11_little_129 kk) ?_
                refine lv_iload_n hx hb dX11_little_132 rfl (lv_at hl 3 rfl) ?_
                refine th_calli (va_runS (As := [.ref (ad E a 1), .int (I v1q1010)]) (rest := []) ⟨hx, hb, hml, hown, hts⟩ (w_kind l G y b0 σ_s_1295 E hO (ad E a 1) 240 f1 (hO.roww h_a k13_1 isA1 e_1299 rfl) v1q1010 (show rng v1q1010 from rv1q1010) (by omega) (by omega) (by omega)) (va_cwS 2 hts gX11_little_X11_kind rfl rfl rfl (by decide +kernel) ⟨Nat.le_of_ble_eq_true rfl, Nat.le_of_ble_eq_true rfl⟩) (th_PS hK hH) rfl rfl hl.1 rfl (lv_room (Nat.le_of_ble_eq_true rfl)) dX11_little_133 ⟨Nat.le_of_ble_eq_true rfl, Nat.le_of_ble_eq_true rfl⟩) hS (fun z_1323 σ_s_1322 H locs rz_1323 hw_1321 hH hS => ?_)
                obtain ⟨e9, hw_1321⟩ := hw_1321
                replace e9 := e9.symm
                subst e9
                have hw_1321 : z_1323 = mK f1 v1q1010 := hw_1321
                refine lv_iconst (v := I 3) hx hb dX11_little_136 (by decide) ?_
                refine lv_icmp_ne (tgt := 152) hx hb dX11_little_137 (by decide) (fun c_1324 => ?_) (fun c_1324 => ?_)
                · replace c_1324 := mt (I_eq (a := z_1323) (b := 3) rz_1323 (show rng 3 from ⟨by decide, by decide⟩)).mpr c_1324
                  refine lv_iconst (v := I (-1)) hx hb dX11_little_152 (by decide) ?_
                  refine lv_goto (tgt := 181) hx hb dX11_little_153 (by decide) ?_
                  refine lv_istore_n (lv' := [(1, .int (I (-1))), (3, .int (I z_1241)), (2, .int (I z_1120)), (0, .ref a)]) hx hb dX11_little_181 rfl hl (by decide) rfl (fun ls hl => ?_)
                  refine lv_goto (tgt := 61) hx hb dX11_little_182 (by decide) ?_
                  replace hl : lv_has ls 6 [(1, .int (I (-1))), (0, .ref a)] := lv_sub hl [0, 3] rfl
                  obtain ⟨z_1325, e_1326, rz_1325, lz_1325, uz_1325⟩ := hO.gi h_a (by decide) k13_13
                  obtain ⟨z_1327, e_1328, rz_1327, lz_1327, uz_1327⟩ := hO.gi h_a (by decide) k13_14
                  obtain ⟨z_1329, e_1330, rz_1329, lz_1329, uz_1329⟩ := hO.gi h_a (by decide) k13_19
                  exact ihJ_1011 ((-1), z_1325, z_1327, z_1329) σ_s_1295 _ _ _ (by have h8 := hw_1294.1.2; unfold pgo at h8; simp only [fg]; omega) ⟨hO, hF, hM, hsr, hH, hS, lv_sub hl [1, 0] rfl, (show rng (-1) from ⟨by decide, by decide⟩), rz_1325, rz_1327, rz_1329, by first | (dsimp only; omega) | omega, by first | (dsimp only; omega) | omega, by first | (dsimp only; omega) | omega, by first | (dsimp only; omega) | omega, by first | (dsimp only; omega) | omega, by first | (dsimp only; omega) | omega, by first | (dsimp only; omega) | omega, (hw_1294.1.2.is (by first | (dsimp only; omega) | omega) (by first | (dsimp only; omega) | omega) (by first | (dsimp only; omega) | omega) (by first | (dsimp only; omega) | omega)), e_1296, e_1297, e_1298, e_1299, e_1326, e_1328, e_1330⟩
                · replace c_1324 := (I_eq (a := z_1323) (b := 3) rz_1323 (show rng 3 from ⟨by decide, by decide⟩)).mp c_1324
                  refine lv_aload_n hx hb dX11_little_140 rfl (lv_at hl 2 rfl) ?_
                  refine ok.getR hO h_a (by decide) k13_1 (by decide) (fun _ _ he hv kk => th_get (ci := 11) (C := RX11) (T := TX11) (N := 66) hx hb hts inX11 hown hK hH he rfl 1 (by decide) fl3 hv dX11_little_141 kk) ?_
                  refine lv_iload_n hx hb dX11_little_144 rfl (lv_at hl 3 rfl) ?_
                  refine lv_iload_n hx hb dX11_little_145 rfl (lv_at hl 0 rfl) ?_
                  refine th_calli (va_runS (As := [.ref (ad E a 1), .int (I v1q1010), .int (I z_1241)]) (rest := []) ⟨hx, hb, hml, hown, hts⟩ (w_byKey l G y b0 σ_s_1295 E hO (ad E a 1) 240 f1 (hO.roww h_a k13_1 isA1 e_1299 rfl) v1q1010 (show rng v1q1010 from rv1q1010) (by omega) (by omega) z_1241 (show rng z_1241 from rz_1241) (by first | exact hy0 | exact (hy0).sub (by omega) (by omega)) (by omega) (by omega) (by omega)) (va_cwS 3 hts gX11_little_X11_byKey rfl rfl rfl (by decide +kernel) ⟨Nat.le_of_ble_eq_true rfl, Nat.le_of_ble_eq_true rfl⟩) (th_PS hK hH) rfl rfl hl.1 rfl (lv_room (Nat.le_of_ble_eq_true rfl)) dX11_little_146 ⟨Nat.le_of_ble_eq_true rfl, Nat.le_of_ble_eq_true rfl⟩) hS (fun z_1333 σ_s_1332 H locs rz_1333 hw_1331 hH hS => ?_)
                  obtain ⟨e9, hw_1331⟩ := hw_1331
                  replace e9 := e9.symm
                  subst e9
                  have hw_1331 : (z_1333 = -1 ∧ nok f1 (v1q1010 + 1) (v1q1010 + mS f1 v1q1010) z_1241) ∨ (kid f1 v1q1010 z_1333 ∧ mY f1 z_1333 = z_1241 ∧ v1q1010 < z_1333 ∧ z_1333 < v1q1010 + mS f1 v1q1010) := hw_1331
                  refine lv_goto (tgt := 181) hx hb dX11_little_149 (by decide) ?_
                  refine lv_istore_n (lv' := [(1, .int (I z_1333)), (3, .int (I z_1241)), (2, .int (I z_1120)), (0, .ref a)]) hx hb dX11_little_181 rfl hl (by decide) rfl (fun ls hl => ?_)
                  refine lv_goto (tgt := 61) hx hb dX11_little_182 (by decide) ?_
                  replace hl : lv_has ls 6 [(1, .int (I z_1333)), (0, .ref a)] := lv_sub hl [0, 3] rfl
                  obtain ⟨z_1334, e_1335, rz_1334, lz_1334, uz_1334⟩ := hO.gi h_a (by decide) k13_13
                  obtain ⟨z_1336, e_1337, rz_1336, lz_1336, uz_1336⟩ := hO.gi h_a (by decide) k13_14
                  obtain ⟨z_1338, e_1339, rz_1338, lz_1338, uz_1338⟩ := hO.gi h_a (by decide) k13_19
                  exact ihJ_1011 (z_1333, z_1334, z_1336, z_1338) σ_s_1295 _ _ _ (by have h8 := hw_1294.1.2; unfold pgo at h8; simp only [fg]; omega) ⟨hO, hF, hM, hsr, hH, hS, lv_sub hl [1, 0] rfl, rz_1333, rz_1334, rz_1336, rz_1338, by first | (dsimp only; omega) | omega, by first | (dsimp only; omega) | omega, by first | (dsimp only; omega) | omega, by first | (dsimp only; omega) | omega, by first | (dsimp only; omega) | omega, by first | (dsimp only; omega) | omega, by first | (dsimp only; omega) | omega, (hw_1294.1.2.is (by first | (dsimp only; omega) | omega) (by first | (dsimp only; omega) | omega) (by first | (dsimp only; omega) | omega) (by first | (dsimp only; omega) | omega)), e_1296, e_1297, e_1298, e_1299, e_1335, e_1337, e_1339⟩
            · replace c_1300 := (I_eq (a := v1q1010) (b := (-1)) rv1q1010 (show rng (-1) from ⟨by decide, by decide⟩)).mp c_1300
              refine lv_goto (tgt := 61) hx hb dX11_little_121 (by decide) ?_
              replace hl : lv_has ls 6 [(0, .ref a), (1, .int (I v1q1010))] := lv_sub hl [2, 3] rfl
              obtain ⟨z_1340, e_1341, rz_1340, lz_1340, uz_1340⟩ := hO.gi h_a (by decide) k13_13
              obtain ⟨z_1342, e_1343, rz_1342, lz_1342, uz_1342⟩ := hO.gi h_a (by decide) k13_14
              obtain ⟨z_1344, e_1345, rz_1344, lz_1344, uz_1344⟩ := hO.gi h_a (by decide) k13_19
              exact ihJ_1011 (v1q1010, z_1340, z_1342, z_1344) σ_s_1295 _ _ _ (by have h8 := hw_1294.1.2; unfold pgo at h8; simp only [fg]; omega) ⟨hO, hF, hM, hsr, hH, hS, lv_sub hl [0, 1] rfl, rv1q1010, rz_1340, rz_1342, rz_1344, by first | (dsimp only; omega) | omega, by first | (dsimp only; omega) | omega, by first | (dsimp only; omega) | omega, by first | (dsimp only; omega) | omega, by first | (dsimp only; omega) | omega, by first | (dsimp only; omega) | omega, by first | (dsimp only; omega) | omega, (hw_1294.1.2.is (by first | (dsimp only; omega) | omega) (by first | (dsimp only; omega) | omega) (by first | (dsimp only; omega) | omega) (by first | (dsimp only; omega) | omega)), e_1296, e_1297, e_1298, e_1299, e_1341, e_1343, e_1345⟩
      · refine lv_if_ne (tgt := 79) hx hb dX11_little_67 (by decide) (fun c_1346 => ?_) (fun c_1346 => ?_)
        · replace c_1346 := mt (I_eq (a := z_1015) (b := 0) rz_1015 (show rng 0 from ⟨by decide, by decide⟩)).mpr c_1346
          exact jK_1116 () σ_J_1011 _ _ _ ⟨rfl, hH, hS, lv_sub hl [0, 1] rfl, by first | (dsimp only; omega) | omega⟩
        · replace c_1346 := (I_eq (a := z_1015) (b := 0) rz_1015 (show rng 0 from ⟨by decide, by decide⟩)).mp c_1346
          refine lv_aload_n hx hb dX11_little_70 rfl (lv_at hl 0 rfl) ?_
          refine lv_bipush (v := I 91) hx hb dX11_little_71 (by decide) ?_
          obtain ⟨_, hc_1347⟩ := hO.cell h_a (by decide) (ci := 11) rfl
          refine th_calli (va_runV (As := [.int (I 91)]) (rest := []) ⟨hx, hb, hml, hown, hts⟩ (m_isMarked l G y b0 σ_J_1011 E hO a h_a 91 (show rng 91 from (show rng 91 from ⟨by decide, by decide⟩)) Bf hsr (by omega)) (cwV 1 hts gX11_little_X11_isMarked rfl rfl rfl (by decide +kernel) ⟨Nat.le_of_ble_eq_true rfl, Nat.le_of_ble_eq_true rfl⟩) (th_PV hK hH rfl hc_1347) rfl rfl hl.1 rfl (lv_room (Nat.le_of_ble_eq_true rfl)) dX11_little_73 ⟨Nat.le_of_ble_eq_true rfl, Nat.le_of_ble_eq_true rfl⟩) hS (fun z_1350 σ_s_1349 H locs rz_1350 hw_1348 hH hS => ?_)
          obtain ⟨e9, bhw_1348, hw_1348⟩ := hw_1348
          replace e9 := e9.symm
          subst e9
          have hw_1348 : z_1350 = 0 ∨ (z_1350 = 1 ∧ gI σ_J_1011 a 19 = 0 ∧ gI σ_J_1011 a 14 = 3 ∧ Bf (gI σ_J_1011 a 17) = 91) := hw_1348
          refine lv_if_eq (tgt := 185) hx hb dX11_little_76 (by decide) (fun c_1351 => ?_) (fun c_1351 => ?_)
          · replace c_1351 := (I_eq (a := z_1350) (b := 0) rz_1350 (show rng 0 from ⟨by decide, by decide⟩)).mp c_1351
            clear hw_1348
            refine lv_aload_n hx hb dX11_little_185 rfl (lv_at hl 0 rfl) ?_
            refine lv_bipush (v := I 61) hx hb dX11_little_186 (by decide) ?_
            obtain ⟨_, hc_1352⟩ := hO.cell h_a (by decide) (ci := 11) rfl
            refine th_calli (va_runV (As := [.int (I 61)]) (rest := []) ⟨hx, hb, hml, hown, hts⟩ (m_isMarked l G y b0 σ_J_1011 E hO a h_a 61 (show rng 61 from (show rng 61 from ⟨by decide, by decide⟩)) Bf hsr (by omega)) (cwV 1 hts gX11_little_X11_isMarked rfl rfl rfl (by decide +kernel) ⟨Nat.le_of_ble_eq_true rfl, Nat.le_of_ble_eq_true rfl⟩) (th_PV hK hH rfl hc_1352) rfl rfl hl.1 rfl (lv_room (Nat.le_of_ble_eq_true rfl)) dX11_little_188 ⟨Nat.le_of_ble_eq_true rfl, Nat.le_of_ble_eq_true rfl⟩) hS (fun z_1355 σ_s_1354 H locs rz_1355 hw_1353 hH hS => ?_)
            obtain ⟨e9, bhw_1353, hw_1353⟩ := hw_1353
            replace e9 := e9.symm
            subst e9
            have hw_1353 : z_1355 = 0 ∨ (z_1355 = 1 ∧ gI σ_J_1011 a 19 = 0 ∧ gI σ_J_1011 a 14 = 3 ∧ Bf (gI σ_J_1011 a 17) = 61) := hw_1353
            refine th_join (α := Int) (J := 217) (stk := fun x9 => [.int (I x9)]) (fun x9 σ9 H9 l9 ls9 => σ9 = σ_J_1011 ∧ th_H G b0 σ9 H9 ∧ va_S (th_A b0) s.heap H9 l9 ∧ lv_has ls9 6 [(0, .ref a), (1, .int (I v1q1010))] ∧ rng x9 ∧ (x9 = 0 ∨ x9 = 1)) ?_ (fun jK_1368 => ?_)
            · intro x9 σ_K_1368 H locs ls hI9
              obtain ⟨w0q1367, ex9⟩ : ∃ z, z = x9 := ⟨_, rfl⟩
              subst ex9
              obtain ⟨eK_1368, hH, hS, hl, rw0q1367, K_1368_0⟩ := hI9
              replace eK_1368 := eK_1368.symm
              subst eK_1368
              have hl : lv_has ls 6 [(0, .ref a), (1, .int (I v1q1010))] := hl
              have rw0q1367 : rng w0q1367 := rw0q1367
              have K_1368_0 : w0q1367 = 0 ∨ w0q1367 = 1 := K_1368_0
              refine lv_istore_n (lv' := [(2, .int (I w0q1367)), (0, .ref a), (1, .int (I v1q1010))]) hx hb dX11_little_217 rfl hl (by decide) rfl (fun ls hl => ?_)
              refine lv_iload_n hx hb dX11_little_218 rfl (lv_at hl 0 rfl) ?_
              refine lv_if_ne (tgt := 233) hx hb dX11_little_219 (by decide) (fun c_1369 => ?_) (fun c_1369 => ?_)
              · replace c_1369 := mt (I_eq (a := w0q1367) (b := 0) rw0q1367 (show rng 0 from ⟨by decide, by decide⟩)).mpr c_1369
                refine lv_aload_n hx hb dX11_little_233 rfl (lv_at hl 1 rfl) ?_
                refine lv_aload_n hx hb dX11_little_234 rfl (lv_at hl 1 rfl) ?_
                refine ok.getI hO h_a (by decide) k13_17 (fun _ _ he hv kk => th_get (ci := 11) (C := RX11) (T := TX11) (N := 66) hx hb hts inX11 hown hK hH he rfl 17 (by decide) fl4 hv dX11_little_235 kk) (fun z_1370 e_1371 rz_1370 lz_1370 uz_1370 => ?_)
                obtain ⟨_, hc_1372⟩ := hO.cell h_a (by decide) (ci := 11) rfl
                refine th_calli (va_runV (As := [.int (I z_1370)]) (rest := []) ⟨hx, hb, hml, hown, hts⟩ (m_byteAt l G y b0 σ_J_1011 E hO a h_a z_1370 (show rng z_1370 from rz_1370) (by omega) (by omega) Bf hsr) (cwV 1 hts gX11_little_X11_byteAt rfl rfl rfl (by decide +kernel) ⟨Nat.le_of_ble_eq_true rfl, Nat.le_of_ble_eq_true rfl⟩) (th_PV hK hH rfl hc_1372) rfl rfl hl.1 rfl (lv_room (Nat.le_of_ble_eq_true rfl)) dX11_little_238 ⟨Nat.le_of_ble_eq_true rfl, Nat.le_of_ble_eq_true rfl⟩) hS (fun z_1375 σ_s_1374 H locs rz_1375 hw_1373 hH hS => ?_)
                obtain ⟨e9, hw_1373⟩ := hw_1373
                replace e9 := e9.symm
                subst e9
                have hw_1373 : z_1375 = Bf z_1370 ∧ (z_1375 = -1 ∨ z_1370 < gI σ_J_1011 a 11) := hw_1373
                refine lv_istore_n (lv' := [(3, .int (I z_1375)), (2, .int (I w0q1367)), (0, .ref a), (1, .int (I v1q1010))]) hx hb dX11_little_241 rfl hl (by decide) rfl (fun ls hl => ?_)
                refine lv_aload_n hx hb dX11_little_242 rfl (lv_at hl 2 rfl) ?_
                obtain ⟨_, hc_1376⟩ := hO.cell h_a (by decide) (ci := 11) rfl
                refine th_callv (va_runV (As := []) (rest := []) ⟨hx, hb, hml, hown, hts⟩ (m_pass l G y b0 σ_J_1011 E hO a h_a Bf hsr (by omega)) (cwV 0 hts gX11_little_X11_pass rfl rfl rfl (by decide +kernel) ⟨Nat.le_of_ble_eq_true rfl, Nat.le_of_ble_eq_true rfl⟩) (th_PV hK hH rfl hc_1376) rfl rfl hl.1 rfl (lv_room (Nat.le_of_ble_eq_true rfl)) dX11_little_243 ⟨Nat.le_of_ble_eq_true rfl, Nat.le_of_ble_eq_true rfl⟩) hS (fun σ_s_1378 H locs hw_1377 hH hS => ?_)
                obtain ⟨hO9, hF9, hM9, hw_1377⟩ := hw_1377
                replace hM := hM.tu hM9 (by decide)
                replace hF := hF.tu hF9 (by decide)
                have e_1379 : gI σ_s_1378 a 11 = a110 := (hM9.i (by decide)).trans J_1011_8
                have e_1380 : gI σ_s_1378 a 30 = a300 := (hM9.i (by decide)).trans J_1011_9
                have e_1381 : gI σ_s_1378 a 27 = z_985 := (hM9.i (by decide)).trans J_1011_10
                have e_1382 : aF σ_s_1378 (ad E a 1) = f1 := (hM9.a (by decide) (by decide)).trans J_1011_11
                have e_1383 : gI σ_s_1378 a 19 = G19q1009 := (hM9.i (by decide)).trans J_1011_14
                replace hsr := hsr.mv hM9 (by decide) (by decide) (by decide) (by decide) (by decide)
                replace hO := hO9
                have hw_1377 : (gI σ_J_1011 a 13 ≤ gI σ_s_1378 a 13 ∧ gI σ_s_1378 a 13 ≤ gI σ_J_1011 a 11 ∧ 0 ≤ gI σ_s_1378 a 17 ∧ gI σ_s_1378 a 17 ≤ gI σ_s_1378 a 13) ∧ pgo (gI σ_s_1378 a 19) (gI σ_s_1378 a 14) (gI σ_J_1011 a 13) (gI σ_s_1378 a 13) ∧ gI σ_s_1378 a 19 = gI σ_J_1011 a 19 := hw_1377
                refine lv_aload_n hx hb dX11_little_246 rfl (lv_at hl 2 rfl) ?_
                refine ok.getI hO h_a (by decide) k13_14 (fun _ _ he hv kk => th_get (ci := 11) (C := RX11) (T := TX11) (N := 66) hx hb hts inX11 hown hK hH he rfl 14 (by decide) fl5 hv dX11_little_247 kk) (fun z_1384 e_1385 rz_1384 lz_1384 uz_1384 => ?_)
                refine lv_iconst (v := I 1) hx hb dX11_little_250 (by decide) ?_
                refine lv_icmp_ne (tgt := 258) hx hb dX11_little_251 (by decide) (fun c_1386 => ?_) (fun c_1386 => ?_)
                · replace c_1386 := mt (I_eq (a := z_1384) (b := 1) rz_1384 (show rng 1 from ⟨by decide, by decide⟩)).mpr c_1386
                  refine lv_iconst (v := I 0) hx hb dX11_little_258 (by decide) ?_
                  refine lv_istore (lv' := [(4, .int (I 0)), (3, .int (I z_1375)), (2, .int (I w0q1367)), (0, .ref a), (1, .int (I v1q1010))]) hx hb dX11_little_259 hl (by decide) rfl (fun ls hl => ?_)
                  refine lv_iload hx hb dX11_little_261 (lv_at hl 0 rfl) ?_
                  refine lv_if_eq (tgt := 273) hx hb dX11_little_263 (by decide) (fun _ => ?_) (fun c_1387 => absurd (by decide) c_1387)
                  refine lv_aload_n hx hb dX11_little_273 rfl (lv_at hl 3 rfl) ?_
                  obtain ⟨_, hc_1388⟩ := hO.cell h_a (by decide) (ci := 11) rfl
                  refine th_calli (va_runV (As := []) (rest := []) ⟨hx, hb, hml, hown, hts⟩ (m_readNumber l G y b0 σ_s_1378 E hO a h_a Bf hsr (by omega)) (cwV 0 hts gX11_little_X11_readNumber rfl rfl rfl (by decide +kernel) ⟨Nat.le_of_ble_eq_true rfl, Nat.le_of_ble_eq_true rfl⟩) (th_PV hK hH rfl hc_1388) rfl rfl hl.1 rfl (lv_room (Nat.le_of_ble_eq_true rfl)) dX11_little_274 ⟨Nat.le_of_ble_eq_true rfl, Nat.le_of_ble_eq_true rfl⟩) hS (fun z_1391 σ_s_1390 H locs rz_1391 hw_1389 hH hS => ?_)
                  obtain ⟨hO9, hF9, hM9, hw_1389⟩ := hw_1389
                  replace hM := hM.tu hM9 (by decide)
                  replace hF := hF.tu hF9 (by decide)
                  have e_1392 : gI σ_s_1390 a 11 = a110 := (hM9.i (by decide)).trans e_1379
                  have e_1393 : gI σ_s_1390 a 30 = a300 := (hM9.i (by decide)).trans e_1380
                  have e_1394 : gI σ_s_1390 a 27 = z_985 := (hM9.i (by decide)).trans e_1381
                  have e_1395 : aF σ_s_1390 (ad E a 1) = f1 := (hM9.a (by decide) (by decide)).trans e_1382
                  replace hsr := hsr.mv hM9 (by decide) (by decide) (by decide) (by decide) (by decide)
                  replace hO := hO9
                  have hw_1389 : (gI σ_s_1378 a 13 ≤ gI σ_s_1390 a 13 ∧ gI σ_s_1390 a 13 ≤ gI σ_s_1378 a 11 ∧ 0 ≤ gI σ_s_1390 a 17 ∧ gI σ_s_1390 a 17 ≤ gI σ_s_1390 a 13) ∧ pgo (gI σ_s_1390 a 19) (gI σ_s_1390 a 14) (gI σ_s_1378 a 13) (gI σ_s_1390 a 13) ∧ bdo (gI σ_s_1378 a 19) (gI σ_s_1390 a 19) := hw_1389
                  refine lv_istore (lv' := [(5, .int (I z_1391)), (4, .int (I 0)), (3, .int (I z_1375)), (2, .int (I w0q1367)), (0, .ref a), (1, .int (I v1q1010))]) hx hb dX11_little_277 hl (by decide) rfl (fun ls hl => ?_)
                  refine lv_iload_n hx hb dX11_little_279 rfl (lv_at hl 5 rfl) ?_
                  refine lv_iconst (v := I (-1)) hx hb dX11_little_280 (by decide) ?_
                  refine lv_icmp_eq (tgt := 352) hx hb dX11_little_281 (by decide) (fun c_1396 => ?_) (fun c_1396 => ?_)
                  · replace c_1396 := (I_eq (a := v1q1010) (b := (-1)) rv1q1010 (show rng (-1) from ⟨by decide, by decide⟩)).mp c_1396
                    refine lv_iconst (v := I 0) hx hb dX11_little_352 (by decide) ?_
                    exact th_zret hx hb hr hlocks hH hS (z := 0) (by omega) ⟨hO, hF, hM, ⟨by omega, by omega⟩, ⟨by omega, hw_1389.1.2.is (by first | (dsimp only; omega) | omega) (by first | (dsimp only; omega) | omega) (by first | (dsimp only; omega) | omega) (by first | (dsimp only; omega) | omega)⟩⟩ dX11_little_353
                  · replace c_1396 := mt (I_eq (a := v1q1010) (b := (-1)) rv1q1010 (show rng (-1) from ⟨by decide, by decide⟩)).mpr c_1396
                    have hk1 := hy0 v1q1010 (by omega) (by omega)
                    refine lv_aload_n hx hb dX11_little_284 rfl (lv_at hl 4 rfl) ?_
                    refine ok.getR hO h_a (by decide) k13_1 (by decide) (fun _ _ he hv kk => th_get (ci := 11) (C := RX11) (T := TX11) (N := 66) hx hb hts inX11 hown hK hH he rfl 1 (by decide) fl3 hv dX11_little_285 kk) ?_
                    refine lv_iload_n hx hb dX11_little_288 rfl (lv_at hl 5 rfl) ?_
                    refine th_calli (va_runS (As := [.ref (ad E a 1), .int (I v1q1010)]) (rest := []) ⟨hx, hb, hml, hown, hts⟩ (w_kind l G y b0 σ_s_1390 E hO (ad E a 1) 240 f1 (hO.roww h_a k13_1 isA1 e_1395 rfl) v1q1010 (show rng v1q1010 from rv1q1010) (by omega) (by omega) (by omega)) (va_cwS 2 hts gX11_little_X11_kind rfl rfl rfl (by decide +kernel) ⟨Nat.le_of_ble_eq_true rfl, Nat.le_of_ble_eq_true rfl⟩) (th_PS hK hH) rfl rfl hl.1 rfl (lv_room (Nat.le_of_ble_eq_true rfl)) dX11_little_289 ⟨Nat.le_of_ble_eq_true rfl, Nat.le_of_ble_eq_true rfl⟩) hS (fun z_1399 σ_s_1398 H locs rz_1399 hw_1397 hH hS => ?_)
                    obtain ⟨e9, hw_1397⟩ := hw_1397
                    replace e9 := e9.symm
                    subst e9
                    have hw_1397 : z_1399 = mK f1 v1q1010 := hw_1397
                    refine lv_iload hx hb dX11_little_292 (lv_at hl 1 rfl) ?_
                    refine lv_if_eq (tgt := 301) hx hb dX11_little_294 (by decide) (fun _ => ?_) (fun c_1400 => absurd (by decide) c_1400)
                    refine lv_iconst (v := I 0) hx hb dX11_little_301 (by decide) ?_
                    refine lv_icmp_ne (tgt := 352) hx hb dX11_little_302 (by decide) (fun c_1401 => ?_) (fun c_1401 => ?_)
                    · replace c_1401 := mt (I_eq (a := z_1399) (b := 0) rz_1399 (show rng 0 from ⟨by decide, by decide⟩)).mpr c_1401
                      refine lv_iconst (v := I 0) hx hb dX11_little_352 (by decide) ?_
                      exact th_zret hx hb hr hlocks hH hS (z := 0) (by omega) ⟨hO, hF, hM, ⟨by omega, by omega⟩, ⟨by omega, hw_1389.1.2.is (by first | (dsimp only; omega) | omega) (by first | (dsimp only; omega) | omega) (by first | (dsimp only; omega) | omega) (by first | (dsimp only; omega) | omega)⟩⟩ dX11_little_353
                    · replace c_1401 := (I_eq (a := z_1399) (b := 0) rz_1399 (show rng 0 from ⟨by decide, by decide⟩)).mp c_1401
                      refine lv_iload_n hx hb dX11_little_305 rfl (lv_at hl 2 rfl) ?_
                      refine lv_iload hx hb dX11_little_306 (lv_at hl 1 rfl) ?_
                      refine lv_if_eq (tgt := 329) hx hb dX11_little_308 (by decide) (fun _ => ?_) (fun c_1402 => absurd (by decide) c_1402)
                      refine lv_aload_n hx hb dX11_little_329 rfl (lv_at hl 4 rfl) ?_
                      refine ok.getR hO h_a (by decide) k13_1 (by decide) (fun _ _ he hv kk => th_get (ci := 11) (C := RX11) (T := TX11) (N := 66) hx hb hts inX11 hown hK hH he rfl 1 (by decide) fl3 hv dX11_little_330 kk) ?_
                      refine lv_iconst (v := I 4) hx hb dX11_little_333 (by decide) ?_
                      refine lv_iload_n hx hb dX11_little_334 rfl (lv_at hl 5 rfl) ?_
                      refine lv_imul hx hb dX11_little_335 ?_
                      refine nq_top (I_mul _ _) ?_
                      refine lv_iconst (v := I 1) hx hb dX11_little_336 (by decide) ?_
                      refine lv_iadd hx hb dX11_little_337 ?_
                      refine nq_top (I_add _ _) ?_
                      refine m_iald hx hb hK hH hO h_a k13_1 isA1 e_1395 ⟨by omega, by omega⟩ (by omega) (by omega) dX11_little_338 (fun z_1403 ez_1403 rz_1403 elx9 => ?_)
                      refine lv_iload hx hb dX11_little_339 (lv_at hl 0 rfl) ?_
                      refine lv_isub hx hb dX11_little_341 ?_
                      refine th_subo (fun z_1404 rz_1404 hz_1404 => ?_)
                      refine th_calli (va_runS (As := [.int (I z_1375), .int (I z_1404)]) (rest := []) ⟨hx, hb, hml, hown, hts⟩ (w_isSigned l G y b0 σ_s_1390 E hO z_1375 (show rng z_1375 from rz_1375) z_1404 (show rng z_1404 from rz_1404)) (va_cwS 2 hts gX11_little_X11_isSigned rfl rfl rfl (by decide +kernel) ⟨Nat.le_of_ble_eq_true rfl, Nat.le_of_ble_eq_true rfl⟩) (th_PS hK hH) rfl rfl hl.1 rfl (lv_room (Nat.le_of_ble_eq_true rfl)) dX11_little_342 ⟨Nat.le_of_ble_eq_true rfl, Nat.le_of_ble_eq_true rfl⟩) hS (fun z_1407 σ_s_1406 H locs rz_1407 hw_1405 hH hS => ?_)
                      obtain ⟨e9, bhw_1405, hw_1405⟩ := hw_1405
                      replace e9 := e9.symm
                      subst e9
                      refine lv_if_eq (tgt := 352) hx hb dX11_little_345 (by decide) (fun c_1408 => ?_) (fun c_1408 => ?_)
                      · replace c_1408 := (I_eq (a := z_1407) (b := 0) rz_1407 (show rng 0 from ⟨by decide, by decide⟩)).mp c_1408
                        refine lv_iconst (v := I 0) hx hb dX11_little_352 (by decide) ?_
                        exact th_zret hx hb hr hlocks hH hS (z := 0) (by omega) ⟨hO, hF, hM, ⟨by omega, by omega⟩, ⟨by omega, hw_1389.1.2.is (by first | (dsimp only; omega) | omega) (by first | (dsimp only; omega) | omega) (by first | (dsimp only; omega) | omega) (by first | (dsimp only; omega) | omega)⟩⟩ dX11_little_353
                      · replace c_1408 := mt (I_eq (a := z_1407) (b := 0) rz_1407 (show rng 0 from ⟨by decide, by decide⟩)).mpr c_1408
                        refine lv_iconst (v := I 1) hx hb dX11_little_348 (by decide) ?_
                        refine lv_goto (tgt := 353) hx hb dX11_little_349 (by decide) ?_
                        exact th_zret hx hb hr hlocks hH hS (z := 1) (by omega) ⟨hO, hF, hM, ⟨by omega, by omega⟩, ⟨by omega, hw_1389.1.2.is (by first | (dsimp only; omega) | omega) (by first | (dsimp only; omega) | omega) (by first | (dsimp only; omega) | omega) (by first | (dsimp only; omega) | omega)⟩⟩ dX11_little_353
                · replace c_1386 := (I_eq (a := z_1384) (b := 1) rz_1384 (show rng 1 from ⟨by decide, by decide⟩)).mp c_1386
                  refine lv_iconst (v := I 1) hx hb dX11_little_254 (by decide) ?_
                  refine lv_goto (tgt := 259) hx hb dX11_little_255 (by decide) ?_
                  refine lv_istore (lv' := [(4, .int (I 1)), (3, .int (I z_1375)), (2, .int (I w0q1367)), (0, .ref a), (1, .int (I v1q1010))]) hx hb dX11_little_259 hl (by decide) rfl (fun ls hl => ?_)
                  refine lv_iload hx hb dX11_little_261 (lv_at hl 0 rfl) ?_
                  refine lv_if_eq (tgt := 273) hx hb dX11_little_263 (by decide) (fun c_1409 => absurd c_1409 (by decide)) (fun _ => ?_)
                  refine lv_aload_n hx hb dX11_little_266 rfl (lv_at hl 3 rfl) ?_
                  obtain ⟨_, hc_1410⟩ := hO.cell h_a (by decide) (ci := 11) rfl
                  refine th_calli (va_runV (As := []) (rest := []) ⟨hx, hb, hml, hown, hts⟩ (m_readWord l G y b0 σ_s_1378 E hO a h_a Bf hsr (by omega)) (cwV 0 hts gX11_little_X11_readWord rfl rfl rfl (by decide +kernel) ⟨Nat.le_of_ble_eq_true rfl, Nat.le_of_ble_eq_true rfl⟩) (th_PV hK hH rfl hc_1410) rfl rfl hl.1 rfl (lv_room (Nat.le_of_ble_eq_true rfl)) dX11_little_267 ⟨Nat.le_of_ble_eq_true rfl, Nat.le_of_ble_eq_true rfl⟩) hS (fun z_1413 σ_s_1412 H locs rz_1413 hw_1411 hH hS => ?_)
                  obtain ⟨hO9, hF9, hM9, hw_1411⟩ := hw_1411
                  replace hM := hM.tu hM9 (by decide)
                  replace hF := hF.tu hF9 (by decide)
                  have e_1414 : gI σ_s_1412 a 11 = a110 := (hM9.i (by decide)).trans e_1379
                  have e_1415 : gI σ_s_1412 a 30 = a300 := (hM9.i (by decide)).trans e_1380
                  have e_1416 : gI σ_s_1412 a 27 = z_985 := (hM9.i (by decide)).trans e_1381
                  have e_1417 : aF σ_s_1412 (ad E a 1) = f1 := (hM9.a (by decide) (by decide)).trans e_1382
                  replace hsr := hsr.mv hM9 (by decide) (by decide) (by decide) (by decide) (by decide)
                  replace hO := hO9
                  have hw_1411 : (gI σ_s_1378 a 13 ≤ gI σ_s_1412 a 13 ∧ gI σ_s_1412 a 13 ≤ gI σ_s_1378 a 11 ∧ 0 ≤ gI σ_s_1412 a 17 ∧ gI σ_s_1412 a 17 ≤ gI σ_s_1412 a 13) ∧ pgo (gI σ_s_1412 a 19) (gI σ_s_1412 a 14) (gI σ_s_1378 a 13) (gI σ_s_1412 a 13) ∧ bdo (gI σ_s_1378 a 19) (gI σ_s_1412 a 19) := hw_1411
                  refine lv_goto (tgt := 277) hx hb dX11_little_270 (by decide) ?_
                  refine lv_istore (lv' := [(5, .int (I z_1413)), (4, .int (I 1)), (3, .int (I z_1375)), (2, .int (I w0q1367)), (0, .ref a), (1, .int (I v1q1010))]) hx hb dX11_little_277 hl (by decide) rfl (fun ls hl => ?_)
                  refine lv_iload_n hx hb dX11_little_279 rfl (lv_at hl 5 rfl) ?_
                  refine lv_iconst (v := I (-1)) hx hb dX11_little_280 (by decide) ?_
                  refine lv_icmp_eq (tgt := 352) hx hb dX11_little_281 (by decide) (fun c_1418 => ?_) (fun c_1418 => ?_)
                  · replace c_1418 := (I_eq (a := v1q1010) (b := (-1)) rv1q1010 (show rng (-1) from ⟨by decide, by decide⟩)).mp c_1418
                    refine lv_iconst (v := I 0) hx hb dX11_little_352 (by decide) ?_
                    exact th_zret hx hb hr hlocks hH hS (z := 0) (by omega) ⟨hO, hF, hM, ⟨by omega, by omega⟩, ⟨by omega, hw_1411.1.2.is (by first | (dsimp only; omega) | omega) (by first | (dsimp only; omega) | omega) (by first | (dsimp only; omega) | omega) (by first | (dsimp only; omega) | omega)⟩⟩ dX11_little_353
                  · replace c_1418 := mt (I_eq (a := v1q1010) (b := (-1)) rv1q1010 (show rng (-1) from ⟨by decide, by decide⟩)).mpr c_1418
                    have hk1 := hy0 v1q1010 (by omega) (by omega)
                    refine lv_aload_n hx hb dX11_little_284 rfl (lv_at hl 4 rfl) ?_
                    refine ok.getR hO h_a (by decide) k13_1 (by decide) (fun _ _ he hv kk => th_get (ci := 11) (C := RX11) (T := TX11) (N := 66) hx hb hts inX11 hown hK hH he rfl 1 (by decide) fl3 hv dX11_little_285 kk) ?_
                    refine lv_iload_n hx hb dX11_little_288 rfl (lv_at hl 5 rfl) ?_
                    refine th_calli (va_runS (As := [.ref (ad E a 1), .int (I v1q1010)]) (rest := []) ⟨hx, hb, hml, hown, hts⟩ (w_kind l G y b0 σ_s_1412 E hO (ad E a 1) 240 f1 (hO.roww h_a k13_1 isA1 e_1417 rfl) v1q1010 (show rng v1q1010 from rv1q1010) (by omega) (by omega) (by omega)) (va_cwS 2 hts gX11_little_X11_kind rfl rfl rfl (by decide +kernel) ⟨Nat.le_of_ble_eq_true rfl, Nat.le_of_ble_eq_true rfl⟩) (th_PS hK hH) rfl rfl hl.1 rfl (lv_room (Nat.le_of_ble_eq_true rfl)) dX11_little_289 ⟨Nat.le_of_ble_eq_true rfl, Nat.le_of_ble_eq_true rfl⟩) hS (fun z_1421 σ_s_1420 H locs rz_1421 hw_1419 hH hS => ?_)
                    obtain ⟨e9, hw_1419⟩ := hw_1419
                    replace e9 := e9.symm
                    subst e9
                    have hw_1419 : z_1421 = mK f1 v1q1010 := hw_1419
                    refine lv_iload hx hb dX11_little_292 (lv_at hl 1 rfl) ?_
                    refine lv_if_eq (tgt := 301) hx hb dX11_little_294 (by decide) (fun c_1422 => absurd c_1422 (by decide)) (fun _ => ?_)
                    refine lv_iconst (v := I 1) hx hb dX11_little_297 (by decide) ?_
                    refine lv_goto (tgt := 302) hx hb dX11_little_298 (by decide) ?_
                    refine lv_icmp_ne (tgt := 352) hx hb dX11_little_302 (by decide) (fun c_1423 => ?_) (fun c_1423 => ?_)
                    · replace c_1423 := mt (I_eq (a := z_1421) (b := 1) rz_1421 (show rng 1 from ⟨by decide, by decide⟩)).mpr c_1423
                      refine lv_iconst (v := I 0) hx hb dX11_little_352 (by decide) ?_
                      exact th_zret hx hb hr hlocks hH hS (z := 0) (by omega) ⟨hO, hF, hM, ⟨by omega, by omega⟩, ⟨by omega, hw_1411.1.2.is (by first | (dsimp only; omega) | omega) (by first | (dsimp only; omega) | omega) (by first | (dsimp only; omega) | omega) (by first | (dsimp only; omega) | omega)⟩⟩ dX11_little_353
                    · replace c_1423 := (I_eq (a := z_1421) (b := 1) rz_1421 (show rng 1 from ⟨by decide, by decide⟩)).mp c_1423
                      refine lv_iload_n hx hb dX11_little_305 rfl (lv_at hl 2 rfl) ?_
                      refine lv_iload hx hb dX11_little_306 (lv_at hl 1 rfl) ?_
                      refine lv_if_eq (tgt := 329) hx hb dX11_little_308 (by decide) (fun c_1424 => absurd c_1424 (by decide)) (fun _ => ?_)
                      refine lv_aload_n hx hb dX11_little_311 rfl (lv_at hl 4 rfl) ?_
                      refine ok.getR hO h_a (by decide) k13_1 (by decide) (fun _ _ he hv kk => th_get (ci := 11) (C := RX11) (T := TX11) (N := 66) hx hb hts inX11 hown hK hH he rfl 1 (by decide) fl3 hv dX11_little_312 kk) ?_
                      refine lv_iconst (v := I 4) hx hb dX11_little_315 (by decide) ?_
                      refine lv_iload_n hx hb dX11_little_316 rfl (lv_at hl 5 rfl) ?_
                      refine lv_imul hx hb dX11_little_317 ?_
                      refine nq_top (I_mul _ _) ?_
                      refine lv_iconst (v := I 1) hx hb dX11_little_318 (by decide) ?_
                      refine lv_iadd hx hb dX11_little_319 ?_
                      refine nq_top (I_add _ _) ?_
                      refine m_iald hx hb hK hH hO h_a k13_1 isA1 e_1417 ⟨by omega, by omega⟩ (by omega) (by omega) dX11_little_320 (fun z_1425 ez_1425 rz_1425 elx9 => ?_)
                      refine lv_iload hx hb dX11_little_321 (lv_at hl 0 rfl) ?_
                      refine th_calli (va_runS (As := [.int (I z_1425), .int (I z_1413)]) (rest := [.int (I z_1375)]) ⟨hx, hb, hml, hown, hts⟩ (w_compareWords l G y b0 σ_s_1412 E hO z_1425 (show rng z_1425 from rz_1425) z_1413 (show rng z_1413 from rz_1413)) (va_cwS 2 hts gX11_little_X11_compareWords rfl rfl rfl (by decide +kernel) ⟨Nat.le_of_ble_eq_true rfl, Nat.le_of_ble_eq_true rfl⟩) (th_PS hK hH) rfl rfl hl.1 rfl (lv_room (Nat.le_of_ble_eq_true rfl)) dX11_little_323 ⟨Nat.le_of_ble_eq_true rfl, Nat.le_of_ble_eq_true rfl⟩) hS (fun z_1428 σ_s_1427 H locs rz_1428 hw_1426 hH hS => ?_)
                      obtain ⟨e9, hw_1426⟩ := hw_1426
                      replace e9 := e9.symm
                      subst e9
                      refine lv_goto (tgt := 342) hx hb dX11_little_326 (by decide) ?_
                      refine th_calli (va_runS (As := [.int (I z_1375), .int (I z_1428)]) (rest := []) ⟨hx, hb, hml, hown, hts⟩ (w_isSigned l G y b0 σ_s_1412 E hO z_1375 (show rng z_1375 from rz_1375) z_1428 (show rng z_1428 from rz_1428)) (va_cwS 2 hts gX11_little_X11_isSigned rfl rfl rfl (by decide +kernel) ⟨Nat.le_of_ble_eq_true rfl, Nat.le_of_ble_eq_true rfl⟩) (th_PS hK hH) rfl rfl hl.1 rfl (lv_room (Nat.le_of_ble_eq_true rfl)) dX11_little_342 ⟨Nat.le_of_ble_eq_true rfl, Nat.le_of_ble_eq_true rfl⟩) hS (fun z_1431 σ_s_1430 H locs rz_1431 hw_1429 hH hS => ?_)
                      obtain ⟨e9, bhw_1429, hw_1429⟩ := hw_1429
                      replace e9 := e9.symm
                      subst e9
                      refine lv_if_eq (tgt := 352) hx hb dX11_little_345 (by decide) (fun c_1432 => ?_) (fun c_1432 => ?_)
                      · replace c_1432 := (I_eq (a := z_1431) (b := 0) rz_1431 (show rng 0 from ⟨by decide, by decide⟩)).mp c_1432
                        refine lv_iconst (v := I 0) hx hb dX11_little_352 (by decide) ?_
                        exact th_zret hx hb hr hlocks hH hS (z := 0) (by omega) ⟨hO, hF, hM, ⟨by omega, by omega⟩, ⟨by omega, hw_1411.1.2.is (by first | (dsimp only; omega) | omega) (by first | (dsimp only; omega) | omega) (by first | (dsimp only; omega) | omega) (by first | (dsimp only; omega) | omega)⟩⟩ dX11_little_353
                      · replace c_1432 := mt (I_eq (a := z_1431) (b := 0) rz_1431 (show rng 0 from ⟨by decide, by decide⟩)).mpr c_1432
                        refine lv_iconst (v := I 1) hx hb dX11_little_348 (by decide) ?_
                        refine lv_goto (tgt := 353) hx hb dX11_little_349 (by decide) ?_
                        exact th_zret hx hb hr hlocks hH hS (z := 1) (by omega) ⟨hO, hF, hM, ⟨by omega, by omega⟩, ⟨by omega, hw_1411.1.2.is (by first | (dsimp only; omega) | omega) (by first | (dsimp only; omega) | omega) (by first | (dsimp only; omega) | omega) (by first | (dsimp only; omega) | omega)⟩⟩ dX11_little_353
              · replace c_1369 := (I_eq (a := w0q1367) (b := 0) rw0q1367 (show rng 0 from ⟨by decide, by decide⟩)).mp c_1369
                refine lv_iload_n hx hb dX11_little_222 rfl (lv_at hl 2 rfl) ?_
                refine lv_iconst (v := I (-1)) hx hb dX11_little_223 (by decide) ?_
                refine lv_icmp_eq (tgt := 231) hx hb dX11_little_224 (by decide) (fun c_1433 => ?_) (fun c_1433 => ?_)
                · replace c_1433 := (I_eq (a := v1q1010) (b := (-1)) rv1q1010 (show rng (-1) from ⟨by decide, by decide⟩)).mp c_1433
                  refine lv_iconst (v := I 0) hx hb dX11_little_231 (by decide) ?_
                  exact th_zret hx hb hr hlocks hH hS (z := 0) (by omega) ⟨hO, hF, hM, ⟨by omega, by omega⟩, ⟨by omega, J_1011_7.is (by first | (dsimp only; omega) | omega) (by first | (dsimp only; omega) | omega) (by first | (dsimp only; omega) | omega) (by first | (dsimp only; omega) | omega)⟩⟩ dX11_little_232
                · replace c_1433 := mt (I_eq (a := v1q1010) (b := (-1)) rv1q1010 (show rng (-1) from ⟨by decide, by decide⟩)).mpr c_1433
                  refine lv_iconst (v := I 1) hx hb dX11_little_227 (by decide) ?_
                  refine lv_goto (tgt := 232) hx hb dX11_little_228 (by decide) ?_
                  exact th_zret hx hb hr hlocks hH hS (z := 1) (by omega) ⟨hO, hF, hM, ⟨by omega, by omega⟩, ⟨by omega, J_1011_7.is (by first | (dsimp only; omega) | omega) (by first | (dsimp only; omega) | omega) (by first | (dsimp only; omega) | omega) (by first | (dsimp only; omega) | omega)⟩⟩ dX11_little_232
            · refine lv_if_ne (tgt := 212) hx hb dX11_little_191 (by decide) (fun c_1434 => ?_) (fun c_1434 => ?_)
              · replace c_1434 := mt (I_eq (a := z_1355) (b := 0) rz_1355 (show rng 0 from ⟨by decide, by decide⟩)).mpr c_1434
                refine lv_iconst (v := I 1) hx hb dX11_little_212 (by decide) ?_
                refine lv_goto (tgt := 217) hx hb dX11_little_213 (by decide) ?_
                exact jK_1368 (1) σ_J_1011 _ _ _ ⟨rfl, hH, hS, lv_sub hl [0, 1] rfl, (show rng 1 from ⟨by decide, by decide⟩), by first | (dsimp only; omega) | omega⟩
              · replace c_1434 := (I_eq (a := z_1355) (b := 0) rz_1355 (show rng 0 from ⟨by decide, by decide⟩)).mp c_1434
                refine lv_aload_n hx hb dX11_little_194 rfl (lv_at hl 0 rfl) ?_
                refine lv_bipush (v := I 60) hx hb dX11_little_195 (by decide) ?_
                obtain ⟨_, hc_1435⟩ := hO.cell h_a (by decide) (ci := 11) rfl
                refine th_calli (va_runV (As := [.int (I 60)]) (rest := []) ⟨hx, hb, hml, hown, hts⟩ (m_isMarked l G y b0 σ_J_1011 E hO a h_a 60 (show rng 60 from (show rng 60 from ⟨by decide, by decide⟩)) Bf hsr (by omega)) (cwV 1 hts gX11_little_X11_isMarked rfl rfl rfl (by decide +kernel) ⟨Nat.le_of_ble_eq_true rfl, Nat.le_of_ble_eq_true rfl⟩) (th_PV hK hH rfl hc_1435) rfl rfl hl.1 rfl (lv_room (Nat.le_of_ble_eq_true rfl)) dX11_little_197 ⟨Nat.le_of_ble_eq_true rfl, Nat.le_of_ble_eq_true rfl⟩) hS (fun z_1438 σ_s_1437 H locs rz_1438 hw_1436 hH hS => ?_)
                obtain ⟨e9, bhw_1436, hw_1436⟩ := hw_1436
                replace e9 := e9.symm
                subst e9
                have hw_1436 : z_1438 = 0 ∨ (z_1438 = 1 ∧ gI σ_J_1011 a 19 = 0 ∧ gI σ_J_1011 a 14 = 3 ∧ Bf (gI σ_J_1011 a 17) = 60) := hw_1436
                refine lv_if_ne (tgt := 212) hx hb dX11_little_200 (by decide) (fun c_1439 => ?_) (fun c_1439 => ?_)
                · replace c_1439 := mt (I_eq (a := z_1438) (b := 0) rz_1438 (show rng 0 from ⟨by decide, by decide⟩)).mpr c_1439
                  replace hw_1436 := (hw_1436.resolve_left c_1439).2
                  refine lv_iconst (v := I 1) hx hb dX11_little_212 (by decide) ?_
                  refine lv_goto (tgt := 217) hx hb dX11_little_213 (by decide) ?_
                  exact jK_1368 (1) σ_J_1011 _ _ _ ⟨rfl, hH, hS, lv_sub hl [0, 1] rfl, (show rng 1 from ⟨by decide, by decide⟩), by first | (dsimp only; omega) | omega⟩
                · replace c_1439 := (I_eq (a := z_1438) (b := 0) rz_1438 (show rng 0 from ⟨by decide, by decide⟩)).mp c_1439
                  clear hw_1436
                  refine lv_aload_n hx hb dX11_little_203 rfl (lv_at hl 0 rfl) ?_
                  refine lv_bipush (v := I 62) hx hb dX11_little_204 (by decide) ?_
                  obtain ⟨_, hc_1440⟩ := hO.cell h_a (by decide) (ci := 11) rfl
                  refine th_calli (va_runV (As := [.int (I 62)]) (rest := []) ⟨hx, hb, hml, hown, hts⟩ (m_isMarked l G y b0 σ_J_1011 E hO a h_a 62 (show rng 62 from (show rng 62 from ⟨by decide, by decide⟩)) Bf hsr (by omega)) (cwV 1 hts gX11_little_X11_isMarked rfl rfl rfl (by decide +kernel) ⟨Nat.le_of_ble_eq_true rfl, Nat.le_of_ble_eq_true rfl⟩) (th_PV hK hH rfl hc_1440) rfl rfl hl.1 rfl (lv_room (Nat.le_of_ble_eq_true rfl)) dX11_little_206 ⟨Nat.le_of_ble_eq_true rfl, Nat.le_of_ble_eq_true rfl⟩) hS (fun z_1443 σ_s_1442 H locs rz_1443 hw_1441 hH hS => ?_)
                  obtain ⟨e9, bhw_1441, hw_1441⟩ := hw_1441
                  replace e9 := e9.symm
                  subst e9
                  have hw_1441 : z_1443 = 0 ∨ (z_1443 = 1 ∧ gI σ_J_1011 a 19 = 0 ∧ gI σ_J_1011 a 14 = 3 ∧ Bf (gI σ_J_1011 a 17) = 62) := hw_1441
                  refine lv_if_eq (tgt := 216) hx hb dX11_little_209 (by decide) (fun c_1444 => ?_) (fun c_1444 => ?_)
                  · replace c_1444 := (I_eq (a := z_1443) (b := 0) rz_1443 (show rng 0 from ⟨by decide, by decide⟩)).mp c_1444
                    clear hw_1441
                    refine lv_iconst (v := I 0) hx hb dX11_little_216 (by decide) ?_
                    exact jK_1368 (0) σ_J_1011 _ _ _ ⟨rfl, hH, hS, lv_sub hl [0, 1] rfl, (show rng 0 from ⟨by decide, by decide⟩), by first | (dsimp only; omega) | omega⟩
                  · replace c_1444 := mt (I_eq (a := z_1443) (b := 0) rz_1443 (show rng 0 from ⟨by decide, by decide⟩)).mpr c_1444
                    replace hw_1441 := (hw_1441.resolve_left c_1444).2
                    refine lv_iconst (v := I 1) hx hb dX11_little_212 (by decide) ?_
                    refine lv_goto (tgt := 217) hx hb dX11_little_213 (by decide) ?_
                    exact jK_1368 (1) σ_J_1011 _ _ _ ⟨rfl, hH, hS, lv_sub hl [0, 1] rfl, (show rng 1 from ⟨by decide, by decide⟩), by first | (dsimp only; omega) | omega⟩
          · replace c_1351 := mt (I_eq (a := z_1350) (b := 0) rz_1350 (show rng 0 from ⟨by decide, by decide⟩)).mpr c_1351
            replace hw_1348 := (hw_1348.resolve_left c_1351).2
            exact jK_1116 () σ_J_1011 _ _ _ ⟨rfl, hH, hS, lv_sub hl [0, 1] rfl, by first | (dsimp only; omega) | omega⟩
    · refine lv_if_ne (tgt := 42) hx hb dX11_little_18 (by decide) (fun c_1445 => ?_) (fun c_1445 => ?_)
      · replace c_1445 := mt (I_eq (a := z_961) (b := 0) rz_961 (show rng 0 from ⟨by decide, by decide⟩)).mpr c_1445
        exact jK_982 () σ_s_954 _ _ _ ⟨hO, hF, hM, hsr, hH, hS, lv_sub hl [0] rfl, by first | (dsimp only; omega) | omega, e_956, e_957, e_958, e_959, e_960, e_955⟩
      · replace c_1445 := (I_eq (a := z_961) (b := 0) rz_961 (show rng 0 from ⟨by decide, by decide⟩)).mp c_1445
        refine lv_aload_n hx hb dX11_little_21 rfl (lv_at hl 0 rfl) ?_
        refine ok.getI hO h_a (by decide) k13_27 (fun _ _ he hv kk => th_get (ci := 11) (C := RX11) (T := TX11) (N := 66) hx hb hts inX11 hown hK hH he rfl 27 (by decide) fl1 hv dX11_little_22 kk) (fun z_1446 e_1447 rz_1446 lz_1446 uz_1446 => ?_)
        refine lv_bipush (v := I 12) hx hb dX11_little_25 (by decide) ?_
        refine lv_icmp_ne (tgt := 42) hx hb dX11_little_27 (by decide) (fun c_1448 => ?_) (fun c_1448 => ?_)
        · replace c_1448 := mt (I_eq (a := z_1446) (b := 12) rz_1446 (show rng 12 from ⟨by decide, by decide⟩)).mpr c_1448
          exact jK_982 () σ_s_954 _ _ _ ⟨hO, hF, hM, hsr, hH, hS, lv_sub hl [0] rfl, by first | (dsimp only; omega) | omega, e_956, e_957, e_958, e_959, e_960, e_955⟩
        · replace c_1448 := (I_eq (a := z_1446) (b := 12) rz_1446 (show rng 12 from ⟨by decide, by decide⟩)).mp c_1448
          refine lv_aload_n hx hb dX11_little_30 rfl (lv_at hl 0 rfl) ?_
          refine ok.getI hO h_a (by decide) k13_25 (fun _ _ he hv kk => th_get (ci := 11) (C := RX11) (T := TX11) (N := 66) hx hb hts inX11 hown hK hH he rfl 25 (by decide) fl6 hv dX11_little_31 kk) (fun z_1449 e_1450 rz_1449 lz_1449 uz_1449 => ?_)
          refine lv_if_ne (tgt := 42) hx hb dX11_little_34 (by decide) (fun c_1451 => ?_) (fun c_1451 => ?_)
          · replace c_1451 := mt (I_eq (a := z_1449) (b := 0) rz_1449 (show rng 0 from ⟨by decide, by decide⟩)).mpr c_1451
            exact jK_982 () σ_s_954 _ _ _ ⟨hO, hF, hM, hsr, hH, hS, lv_sub hl [0] rfl, by first | (dsimp only; omega) | omega, e_956, e_957, e_958, e_959, e_960, e_955⟩
          · replace c_1451 := (I_eq (a := z_1449) (b := 0) rz_1449 (show rng 0 from ⟨by decide, by decide⟩)).mp c_1451
            refine lv_aload_n hx hb dX11_little_37 rfl (lv_at hl 0 rfl) ?_
            refine lv_iconst (v := I 2) hx hb dX11_little_38 (by decide) ?_
            obtain ⟨_, hc_1452⟩ := hO.cell h_a (by decide) (ci := 11) rfl
            refine th_callv (va_runV (As := [.int (I 2)]) (rest := []) ⟨hx, hb, hml, hown, hts⟩ (m_wrong l G y b0 σ_s_954 E hO a h_a 2 (show rng 2 from (show rng 2 from ⟨by decide, by decide⟩)) (by omega) (by omega)) (cwV 1 hts gX11_little_X11_wrong rfl rfl rfl (by decide +kernel) ⟨Nat.le_of_ble_eq_true rfl, Nat.le_of_ble_eq_true rfl⟩) (th_PV hK hH rfl hc_1452) rfl rfl hl.1 rfl (lv_room (Nat.le_of_ble_eq_true rfl)) dX11_little_39 ⟨Nat.le_of_ble_eq_true rfl, Nat.le_of_ble_eq_true rfl⟩) hS (fun σ_s_1454 H locs hw_1453 hH hS => ?_)
            obtain ⟨hO9, hF9, hM9, hw_1453⟩ := hw_1453
            replace hM := hM.tu hM9 (by decide)
            replace hF := hF.tu hF9 (by decide)
            have e_1455 : aF σ_s_1454 (ad E a 1) = f1 := (hM9.a (by decide) (by decide)).trans e_955
            have e_1456 : gI σ_s_1454 a 11 = a110 := (hM9.i (by decide)).trans e_956
            have e_1457 : gI σ_s_1454 a 13 = a130 := (hM9.i (by decide)).trans e_957
            have e_1458 : gI σ_s_1454 a 14 = a140 := (hM9.i (by decide)).trans e_958
            have e_1459 : gI σ_s_1454 a 17 = a170 := (hM9.i (by decide)).trans e_959
            have e_1460 : gI σ_s_1454 a 30 = a300 := (hM9.i (by decide)).trans e_960
            have e_1461 : gI σ_s_1454 a 27 = z_1446 := (hM9.i (by decide)).trans e_1447
            have e_1462 : gI σ_s_1454 a 25 = z_1449 := (hM9.i (by decide)).trans e_1450
            replace hsr := hsr.mv hM9 (by decide) (by decide) (by decide) (by decide) (by decide)
            replace hO := hO9
            have hw_1453 : ¬ gI σ_s_1454 a 19 = 0 ∧ (gI σ_s_954 a 19 = 0 ∨ gI σ_s_1454 a 19 = gI σ_s_954 a 19) := hw_1453
            exact jK_982 () σ_s_1454 _ _ _ ⟨hO, hF, hM, hsr, hH, hS, lv_sub hl [0] rfl, by first | (dsimp only; omega) | omega, e_1456, e_1457, e_1458, e_1459, e_1460, e_1455⟩
