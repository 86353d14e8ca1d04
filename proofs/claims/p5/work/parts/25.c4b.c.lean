set_option maxHeartbeats 4000000 in
set_option maxRecDepth 100000 in
theorem m_little (l : Launch) (G : va_G) (y : Nat → ClassId) (b0 : Nat) (σ : th_M) (E : th_E) (hO : ok y E σ) (a : Nat) (h_a : kd E a = 13) (f1 : Nat → Int32) (ef1 : aF σ (ad E a 1) = f1) (Bf : Int → Int) (hsr : sr E σ a Bf) (hy0 : wf f1 0 (mS f1 0)) (hy1 : 1 ≤ mS f1 0 ∧ mS f1 0 ≤ 60) (hy2 : 0 ≤ gI σ a 17 ∧ gI σ a 17 ≤ gI σ a 13 ∧ gI σ a 13 ≤ gI σ a 11 ∧ gI σ a 11 ≤ 400) (hy3 : -1 ≤ gI σ a 30 ∧ gI σ a 30 < mS f1 0) : Met l yX11_little wsX11_little ({ frames := 5, cells := 0, slots := 0, locals := 141 }) (th_P G y b0 σ [.ref a]) (th_Qi G b0 (fun r σ1 => ok y E σ1 ∧ fr [13] E σ σ1 ∧ fm [13, 14, 15, 16, 17, 18, 19, 20, 27] E σ σ1 a ∧ (0 ≤ r ∧ r ≤ 1) ∧ ((gI σ a 13 ≤ gI σ1 a 13 ∧ gI σ1 a 13 ≤ gI σ a 11 ∧ 0 ≤ gI σ1 a 17 ∧ gI σ1 a 17 ≤ gI σ1 a 13) ∧ pgo (gI σ1 a 19) (gI σ1 a 14) (gI σ a 13) (gI σ1 a 13)))) 0 0 (th_A b0) := by
  refine Met.ofW (cc := cX11_little) (maxL := 6) (ret := (some .boolean)) (by decide) rfl ?_
  intro p e s m args below meth c s₁ B hml hv
  obtain ⟨rfl, hH, hK⟩ := hv
  have hx := B.exec
  have hb := B.bytes
  have hr := B.returns
  have hts := atoms_spec (ws := wsX11_little) B.pre
  have hown : s.vm.findClass RX11 = some m.cls := findClass_of_methodNamed B.named
  have hlocks := B.notSynchronized
  have h00 : b0 ≤ s.heap.size := hH.1
  have hS : va_S (th_A b0) s.heap s.heap [] := va_S.rf
  have hF : fr [13] E σ σ := fr.rf
  have hM : fm [13, 14, 15, 16, 17, 18, 19, 20, 27] E σ σ a := fm.rf
  have inX11 : ∀ w ∈ wsX110, w ∈ wsX11_little := by decide +kernel
  have fl0 := hts (.fieldLink RX11 162 "NestQueryModel" "bad" "I") (by decide +kernel)
  have fl1 := hts (.fieldLink RX11 276 "NestQueryModel" "littles" "I") (by decide +kernel)
  have fl2 := hts (.fieldLink RX11 316 "NestQueryModel" "asked" "I") (by decide +kernel)
  have fl3 := hts (.fieldLink RX11 9 "NestQueryModel" "tree" "[I") (by decide +kernel)
  have fl4 := hts (.fieldLink RX11 133 "NestQueryModel" "begins" "I") (by decide +kernel)
  have fl5 := hts (.fieldLink RX11 136 "NestQueryModel" "token" "I") (by decide +kernel)
  have fl6 := hts (.fieldLink RX11 300 "NestQueryModel" "isGone" "Z") (by decide +kernel)
  have hl := lv_entry ([.ref a]) (n := 6) (Nat.le_of_ble_eq_true rfl)
  rw [lg_entry_eq]
  generalize (lg_sl ([.ref a]) ++ List.replicate (6 - (lg_sl ([.ref a])).length) Slot.unset).toArray = ls at hl ⊢
  have hl : lv_has ls 6 [(0, .ref a)] := hl
  obtain ⟨a110, ea110, ra110, la110, ua110⟩ := hO.gi h_a (by decide) k13_11
  obtain ⟨a130, ea130, ra130, la130, ua130⟩ := hO.gi h_a (by decide) k13_13
  obtain ⟨a140, ea140, ra140, la140, ua140⟩ := hO.gi h_a (by decide) k13_14
  obtain ⟨a170, ea170, ra170, la170, ua170⟩ := hO.gi h_a (by decide) k13_17
  obtain ⟨a190, ea190, ra190, la190, ua190⟩ := hO.gi h_a (by decide) k13_19
  obtain ⟨a300, ea300, ra300, la300, ua300⟩ := hO.gi h_a (by decide) k13_30
  refine lv_aload_n hx hb dX11_little_0 rfl (lv_at hl 0 rfl) ?_
  refine lv_bipush (v := I 64) hx hb dX11_little_1 (by decide) ?_
  obtain ⟨_, hc_1⟩ := hO.cell h_a (by decide) (ci := 11) rfl
  refine th_calli (va_runV (As := [.int (I 64)]) (rest := []) ⟨hx, hb, hml, hown, hts⟩ (m_isMarked l G y b0 σ E hO a h_a 64 (show rng 64 from (show rng 64 from ⟨by decide, by decide⟩)) Bf hsr (by omega)) (cwV 1 hts gX11_little_X11_isMarked rfl rfl rfl (by decide +kernel) ⟨Nat.le_of_ble_eq_true rfl, Nat.le_of_ble_eq_true rfl⟩) (th_PV hK hH rfl hc_1) rfl rfl hl.1 rfl (lv_room (Nat.le_of_ble_eq_true rfl)) dX11_little_3 ⟨Nat.le_of_ble_eq_true rfl, Nat.le_of_ble_eq_true rfl⟩) hS (fun z_4 σ_s_3 H locs rz_4 hw_2 hH hS => ?_)
  obtain ⟨e9, bhw_2, hw_2⟩ := hw_2
  replace e9 := e9.symm
  subst e9
  have hw_2 : z_4 = 0 ∨ (z_4 = 1 ∧ gI σ a 19 = 0 ∧ gI σ a 14 = 3 ∧ Bf (gI σ a 17) = 64) := hw_2
  refine th_join (α := Unit) (J := 14) (stk := fun x9 => []) (fun x9 σ9 H9 l9 ls9 => ok y E σ9 ∧ fr [13] E σ σ9 ∧ fm [13, 14, 15, 16, 17, 18, 19, 20, 27] E σ σ9 a ∧ sr E σ9 a Bf ∧ th_H G b0 σ9 H9 ∧ va_S (th_A b0) s.heap H9 l9 ∧ lv_has ls9 6 [(0, .ref a)] ∧ (gI σ a 13 ≤ gI σ9 a 13 ∧ gI σ9 a 13 ≤ gI σ a 11 ∧ 0 ≤ gI σ9 a 17 ∧ gI σ9 a 17 ≤ gI σ9 a 13) ∧ (gI σ9 a 11 = a110) ∧ (gI σ9 a 13 = a130) ∧ (gI σ9 a 14 = a140) ∧ (gI σ9 a 17 = a170) ∧ (gI σ9 a 30 = a300) ∧ (aF σ9 (ad E a 1) = f1)) ?_ (fun jK_16 => ?_)
  · intro x9 σ_K_16 H locs ls hI9
    obtain ⟨hO, hF, hM, hsr, hH, hS, hl, K_16_0, K_16_1, K_16_2, K_16_3, K_16_4, K_16_5, K_16_6⟩ := hI9
    have hl : lv_has ls 6 [(0, .ref a)] := hl
    have K_16_0 : gI σ a 13 ≤ gI σ_K_16 a 13 ∧ gI σ_K_16 a 13 ≤ gI σ a 11 ∧ 0 ≤ gI σ_K_16 a 17 ∧ gI σ_K_16 a 17 ≤ gI σ_K_16 a 13 := K_16_0
    have K_16_1 : gI σ_K_16 a 11 = a110 := K_16_1
    have K_16_2 : gI σ_K_16 a 13 = a130 := K_16_2
    have K_16_3 : gI σ_K_16 a 14 = a140 := K_16_3
    have K_16_4 : gI σ_K_16 a 17 = a170 := K_16_4
    have K_16_5 : gI σ_K_16 a 30 = a300 := K_16_5
    have K_16_6 : aF σ_K_16 (ad E a 1) = f1 := K_16_6
    refine lv_aload_n hx hb dX11_little_14 rfl (lv_at hl 0 rfl) ?_
    refine ok.getI hO h_a (by decide) k13_19 (fun _ _ he hv kk => th_get (ci := 11) (C := RX11) (T := TX11) (N := 66) hx hb hts inX11 hown hK hH he rfl 19 (by decide) fl0 hv dX11_little_15 kk) (fun z_17 e_18 rz_17 lz_17 uz_17 => ?_)
    refine th_join (α := Unit) (J := 42) (stk := fun x9 => []) (fun x9 σ9 H9 l9 ls9 => ok y E σ9 ∧ fr [13] E σ σ9 ∧ fm [13, 14, 15, 16, 17, 18, 19, 20, 27] E σ σ9 a ∧ sr E σ9 a Bf ∧ th_H G b0 σ9 H9 ∧ va_S (th_A b0) s.heap H9 l9 ∧ lv_has ls9 6 [(0, .ref a)] ∧ (gI σ a 13 ≤ gI σ9 a 13 ∧ gI σ9 a 13 ≤ gI σ a 11 ∧ 0 ≤ gI σ9 a 17 ∧ gI σ9 a 17 ≤ gI σ9 a 13) ∧ (gI σ9 a 11 = a110) ∧ (gI σ9 a 13 = a130) ∧ (gI σ9 a 14 = a140) ∧ (gI σ9 a 17 = a170) ∧ (gI σ9 a 30 = a300) ∧ (aF σ9 (ad E a 1) = f1)) ?_ (fun jK_38 => ?_)
    · intro x9 σ_K_38 H locs ls hI9
      obtain ⟨hO, hF, hM, hsr, hH, hS, hl, K_38_0, K_38_1, K_38_2, K_38_3, K_38_4, K_38_5, K_38_6⟩ := hI9
      have hl : lv_has ls 6 [(0, .ref a)] := hl
      have K_38_0 : gI σ a 13 ≤ gI σ_K_38 a 13 ∧ gI σ_K_38 a 13 ≤ gI σ a 11 ∧ 0 ≤ gI σ_K_38 a 17 ∧ gI σ_K_38 a 17 ≤ gI σ_K_38 a 13 := K_38_0
      have K_38_1 : gI σ_K_38 a 11 = a110 := K_38_1
      have K_38_2 : gI σ_K_38 a 13 = a130 := K_38_2
      have K_38_3 : gI σ_K_38 a 14 = a140 := K_38_3
      have K_38_4 : gI σ_K_38 a 17 = a170 := K_38_4
      have K_38_5 : gI σ_K_38 a 30 = a300 := K_38_5
      have K_38_6 : aF σ_K_38 (ad E a 1) = f1 := K_38_6
      refine lv_aload_n hx hb dX11_little_42 rfl (lv_at hl 0 rfl) ?_
      refine lv_dup hx hb dX11_little_43 rfl ?_
      refine ok.getI hO h_a (by decide) k13_27 (fun _ _ he hv kk => th_get (ci := 11) (C := RX11) (T := TX11) (N := 66) hx hb hts inX11 hown hK hH he rfl 27 (by decide) fl1 hv dX11_little_44 kk) (fun z_39 e_40 rz_39 lz_39 uz_39 => ?_)
      refine lv_iconst (v := I 1) hx hb dX11_little_47 (by decide) ?_
      refine lv_iadd hx hb dX11_little_48 ?_
      refine th_addo (fun z_41 rz_41 hz_41 => ?_)
      refine ok.putJ hO h_a k13_27 rz_41 (by omega) (by omega) (fun _ he hl9 kk => th_put (ci := 11) (v := .int (I z_41)) (ty := .int) (C := RX11) (T := TX11) (N := 66) hx hb hts inX11 tyX11 tyX11_ok nmX11 hown hK hH hS h00 he rfl 27 (by decide) fl1 rfl (by decide +kernel) rfl rfl hl9 dX11_little_49 kk) (fun σ_s_42 H locs hO hF9 hM9 hg9 ha9 hH hS => ?_)
      replace hM := hM.tu hM9 (by decide)
      replace hF := hF.tu hF9 (by decide)
      have e_43 : gI σ_s_42 a 11 = a110 := (hM9.i (by decide)).trans K_38_1
      have e_44 : gI σ_s_42 a 13 = a130 := (hM9.i (by decide)).trans K_38_2
      have e_45 : gI σ_s_42 a 14 = a140 := (hM9.i (by decide)).trans K_38_3
      have e_46 : gI σ_s_42 a 17 = a170 := (hM9.i (by decide)).trans K_38_4
      have e_47 : gI σ_s_42 a 30 = a300 := (hM9.i (by decide)).trans K_38_5
      have e_48 : aF σ_s_42 (ad E a 1) = f1 := (hM9.a (by decide) (by decide)).trans K_38_6
      replace hsr := hsr.mv hM9 (by decide) (by decide) (by decide) (by decide) (by decide)
      have e_49 := hg9
      refine lv_aload_n hx hb dX11_little_52 rfl (lv_at hl 0 rfl) ?_
      obtain ⟨_, hc_50⟩ := hO.cell h_a (by decide) (ci := 11) rfl
      refine th_callv (va_runV (As := []) (rest := []) ⟨hx, hb, hml, hown, hts⟩ (m_pass l G y b0 σ_s_42 E hO a h_a Bf hsr (by omega)) (cwV 0 hts gX11_little_X11_pass rfl rfl rfl (by decide +kernel) ⟨Nat.le_of_ble_eq_true rfl, Nat.le_of_ble_eq_true rfl⟩) (th_PV hK hH rfl hc_50) rfl rfl hl.1 rfl (lv_room (Nat.le_of_ble_eq_true rfl)) dX11_little_53 ⟨Nat.le_of_ble_eq_true rfl, Nat.le_of_ble_eq_true rfl⟩) hS (fun σ_s_52 H locs hw_51 hH hS => ?_)
      obtain ⟨hO9, hF9, hM9, hw_51⟩ := hw_51
      replace hM := hM.tu hM9 (by decide)
      replace hF := hF.tu hF9 (by decide)
      have e_53 : gI σ_s_52 a 11 = a110 := (hM9.i (by decide)).trans e_43
      have e_54 : gI σ_s_52 a 30 = a300 := (hM9.i (by decide)).trans e_47
      have e_55 : aF σ_s_52 (ad E a 1) = f1 := (hM9.a (by decide) (by decide)).trans e_48
      have e_56 : gI σ_s_52 a 27 = z_41 := (hM9.i (by decide)).trans e_49
      replace hsr := hsr.mv hM9 (by decide) (by decide) (by decide) (by decide) (by decide)
      replace hO := hO9
      have hw_51 : (gI σ_s_42 a 13 ≤ gI σ_s_52 a 13 ∧ gI σ_s_52 a 13 ≤ gI σ_s_42 a 11 ∧ 0 ≤ gI σ_s_52 a 17 ∧ gI σ_s_52 a 17 ≤ gI σ_s_52 a 13) ∧ pgo (gI σ_s_52 a 19) (gI σ_s_52 a 14) (gI σ_s_42 a 13) (gI σ_s_52 a 13) ∧ gI σ_s_52 a 19 = gI σ_s_42 a 19 := hw_51
      refine lv_aload_n hx hb dX11_little_56 rfl (lv_at hl 0 rfl) ?_
      refine ok.getIc hO h_a (by decide) k13_30 e_54 (fun _ _ he hv kk => th_get (ci := 11) (C := RX11) (T := TX11) (N := 66) hx hb hts inX11 hown hK hH he rfl 30 (by decide) fl2 hv dX11_little_57 kk) ?_
      refine lv_istore_n (lv' := [(1, .int (I a300)), (0, .ref a)]) hx hb dX11_little_60 rfl hl (by decide) rfl (fun ls hl => ?_)
      obtain ⟨z_57, e_58, rz_57, lz_57, uz_57⟩ := hO.gi h_a (by decide) k13_13
      obtain ⟨z_59, e_60, rz_59, lz_59, uz_59⟩ := hO.gi h_a (by decide) k13_14
      obtain ⟨z_61, e_62, rz_61, lz_61, uz_61⟩ := hO.gi h_a (by decide) k13_19
      refine th_loop (α := Int × Int × Int × Int) (pc := 61) (fun x9 => (2 * (gI σ a 11 - x9.2.1) + fg x9.2.2.2 x9.2.2.1).toNat) (fun x9 σ9 H9 l9 ls9 => ok y E σ9 ∧ fr [13] E σ σ9 ∧ fm [13, 14, 15, 16, 17, 18, 19, 20, 27] E σ σ9 a ∧ sr E σ9 a Bf ∧ th_H G b0 σ9 H9 ∧ va_S (th_A b0) s.heap H9 l9 ∧ lv_has ls9 6 [(0, .ref a), (1, .int (I x9.1))] ∧ rng x9.1 ∧ rng x9.2.1 ∧ rng x9.2.2.1 ∧ rng x9.2.2.2 ∧ (gI σ a 13 ≤ x9.2.1) ∧ (x9.2.1 ≤ gI σ a 11) ∧ (0 ≤ gI σ9 a 17) ∧ (gI σ9 a 17 ≤ x9.2.1) ∧ (-1 ≤ x9.1) ∧ (x9.1 < mS f1 0) ∧ (x9.1 ≤ 60) ∧ (pgo x9.2.2.2 x9.2.2.1 (gI σ a 13) x9.2.1) ∧ (gI σ9 a 11 = a110) ∧ (gI σ9 a 30 = a300) ∧ (gI σ9 a 27 = z_41) ∧ (aF σ9 (ad E a 1) = f1) ∧ (gI σ9 a 13 = x9.2.1) ∧ (gI σ9 a 14 = x9.2.2.1) ∧ (gI σ9 a 19 = x9.2.2.2)) ?_ (a300, z_57, z_59, z_61) σ_s_52 _ _ _ ⟨hO, hF, hM, hsr, hH, hS, lv_sub hl [1, 0] rfl, ra300, rz_57, rz_59, rz_61, by first | (dsimp only; omega) | omega, by first | (dsimp only; omega) | omega, by first | (dsimp only; omega) | omega, by first | (dsimp only; omega) | omega, by first | (dsimp only; omega) | omega, by first | (dsimp only; omega) | omega, by first | (dsimp only; omega) | omega, (hw_51.2.1.is (by first | (dsimp only; omega) | omega) (by first | (dsimp only; omega) | omega) (by first | (dsimp only; omega) | omega) (by first | (dsimp only; omega) | omega)), e_53, e_54, e_56, e_55, e_58, e_60, e_62⟩
      intro x9 σ_J_553 H locs ls hI9 ihJ_553
      obtain ⟨v1q552, G13q549, G14q550, G19q551⟩ := x9
      obtain ⟨hO, hF, hM, hsr, hH, hS, hl, rv1q552, rG13q549, rG14q550, rG19q551, J_553_0, J_553_1, J_553_2, J_553_3, J_553_4, J_553_5, J_553_6, J_553_7, J_553_8, J_553_9, J_553_10, J_553_11, J_553_12, J_553_13, J_553_14⟩ := hI9
      have hl : lv_has ls 6 [(0, .ref a), (1, .int (I v1q552))] := hl
      have rv1q552 : rng v1q552 := rv1q552
      have rG13q549 : rng G13q549 := rG13q549
      have rG14q550 : rng G14q550 := rG14q550
      have rG19q551 : rng G19q551 := rG19q551
      have J_553_0 : gI σ a 13 ≤ G13q549 := J_553_0
      have J_553_1 : G13q549 ≤ gI σ a 11 := J_553_1
      have J_553_2 : 0 ≤ gI σ_J_553 a 17 := J_553_2
      have J_553_3 : gI σ_J_553 a 17 ≤ G13q549 := J_553_3
      have J_553_4 : -1 ≤ v1q552 := J_553_4
      have J_553_5 : v1q552 < mS f1 0 := J_553_5
      have J_553_6 : v1q552 ≤ 60 := J_553_6
      have J_553_7 : pgo G19q551 G14q550 (gI σ a 13) G13q549 := J_553_7
      have J_553_8 : gI σ_J_553 a 11 = a110 := J_553_8
      have J_553_9 : gI σ_J_553 a 30 = a300 := J_553_9
      have J_553_10 : gI σ_J_553 a 27 = z_41 := J_553_10
      have J_553_11 : aF σ_J_553 (ad E a 1) = f1 := J_553_11
      have J_553_12 : gI σ_J_553 a 13 = G13q549 := J_553_12
      have J_553_13 : gI σ_J_553 a 14 = G14q550 := J_553_13
      have J_553_14 : gI σ_J_553 a 19 = G19q551 := J_553_14
      refine lv_aload_n hx hb dX11_little_61 rfl (lv_at hl 0 rfl) ?_
      refine lv_bipush (v := I 46) hx hb dX11_little_62 (by decide) ?_
      obtain ⟨_, hc_554⟩ := hO.cell h_a (by decide) (ci := 11) rfl
      refine th_calli (va_runV (As := [.int (I 46)]) (rest := []) ⟨hx, hb, hml, hown, hts⟩ (m_isMarked l G y b0 σ_J_553 E hO a h_a 46 (show rng 46 from (show rng 46 from ⟨by decide, by decide⟩)) Bf hsr (by omega)) (cwV 1 hts gX11_little_X11_isMarked rfl rfl rfl (by decide +kernel) ⟨Nat.le_of_ble_eq_true rfl, Nat.le_of_ble_eq_true rfl⟩) (th_PV hK hH rfl hc_554) rfl rfl hl.1 rfl (lv_room (Nat.le_of_ble_eq_true rfl)) dX11_little_64 ⟨Nat.le_of_ble_eq_true rfl, Nat.le_of_ble_eq_true rfl⟩) hS (fun z_557 σ_s_556 H locs rz_557 hw_555 hH hS => ?_)
      obtain ⟨e9, bhw_555, hw_555⟩ := hw_555
      replace e9 := e9.symm
      subst e9
      have hw_555 : z_557 = 0 ∨ (z_557 = 1 ∧ gI σ_J_553 a 19 = 0 ∧ gI σ_J_553 a 14 = 3 ∧ Bf (gI σ_J_553 a 17) = 46) := hw_555
      refine th_join (α := Unit) (J := 79) (stk := fun x9 => []) (fun x9 σ9 H9 l9 ls9 => σ9 = σ_J_553 ∧ th_H G b0 σ9 H9 ∧ va_S (th_A b0) s.heap H9 l9 ∧ lv_has ls9 6 [(0, .ref a), (1, .int (I v1q552))] ∧ (gI σ9 a 19 = 0 ∧ gI σ9 a 14 = 3)) ?_ (fun jK_688 => ?_)
      · intro x9 σ_K_688 H locs ls hI9
        obtain ⟨eK_688, hH, hS, hl, K_688_0⟩ := hI9
        replace eK_688 := eK_688.symm
        subst eK_688
        have hl : lv_has ls 6 [(0, .ref a), (1, .int (I v1q552))] := hl
        have K_688_0 : gI σ_J_553 a 19 = 0 ∧ gI σ_J_553 a 14 = 3 := K_688_0
        refine lv_aload_n hx hb dX11_little_79 rfl (lv_at hl 0 rfl) ?_
        refine lv_bipush (v := I 46) hx hb dX11_little_80 (by decide) ?_
        obtain ⟨_, hc_689⟩ := hO.cell h_a (by decide) (ci := 11) rfl
        refine th_calli (va_runV (As := [.int (I 46)]) (rest := []) ⟨hx, hb, hml, hown, hts⟩ (m_isMarked l G y b0 σ_J_553 E hO a h_a 46 (show rng 46 from (show rng 46 from ⟨by decide, by decide⟩)) Bf hsr (by omega)) (cwV 1 hts gX11_little_X11_isMarked rfl rfl rfl (by decide +kernel) ⟨Nat.le_of_ble_eq_true rfl, Nat.le_of_ble_eq_true rfl⟩) (th_PV hK hH rfl hc_689) rfl rfl hl.1 rfl (lv_room (Nat.le_of_ble_eq_true rfl)) dX11_little_82 ⟨Nat.le_of_ble_eq_true rfl, Nat.le_of_ble_eq_true rfl⟩) hS (fun z_692 σ_s_691 H locs rz_692 hw_690 hH hS => ?_)
        obtain ⟨e9, bhw_690, hw_690⟩ := hw_690
        replace e9 := e9.symm
        subst e9
        have hw_690 : z_692 = 0 ∨ (z_692 = 1 ∧ gI σ_J_553 a 19 = 0 ∧ gI σ_J_553 a 14 = 3 ∧ Bf (gI σ_J_553 a 17) = 46) := hw_690
        refine lv_istore_n (lv' := [(2, .int (I z_692)), (0, .ref a), (1, .int (I v1q552))]) hx hb dX11_little_85 rfl hl (by decide) rfl (fun ls hl => ?_)
        refine lv_aload_n hx hb dX11_little_86 rfl (lv_at hl 1 rfl) ?_
        obtain ⟨_, hc_693⟩ := hO.cell h_a (by decide) (ci := 11) rfl
        refine th_callv (va_runV (As := []) (rest := []) ⟨hx, hb, hml, hown, hts⟩ (m_pass l G y b0 σ_J_553 E hO a h_a Bf hsr (by omega)) (cwV 0 hts gX11_little_X11_pass rfl rfl rfl (by decide +kernel) ⟨Nat.le_of_ble_eq_true rfl, Nat.le_of_ble_eq_true rfl⟩) (th_PV hK hH rfl hc_693) rfl rfl hl.1 rfl (lv_room (Nat.le_of_ble_eq_true rfl)) dX11_little_87 ⟨Nat.le_of_ble_eq_true rfl, Nat.le_of_ble_eq_true rfl⟩) hS (fun σ_s_695 H locs hw_694 hH hS => ?_)
        obtain ⟨hO9, hF9, hM9, hw_694⟩ := hw_694
        replace hM := hM.tu hM9 (by decide)
        replace hF := hF.tu hF9 (by decide)
        have e_696 : gI σ_s_695 a 11 = a110 := (hM9.i (by decide)).trans J_553_8
        have e_697 : gI σ_s_695 a 30 = a300 := (hM9.i (by decide)).trans J_553_9
        have e_698 : gI σ_s_695 a 27 = z_41 := (hM9.i (by decide)).trans J_553_10
        have e_699 : aF σ_s_695 (ad E a 1) = f1 := (hM9.a (by decide) (by decide)).trans J_553_11
        have e_700 : gI σ_s_695 a 19 = G19q551 := (hM9.i (by decide)).trans J_553_14
        replace hsr := hsr.mv hM9 (by decide) (by decide) (by decide) (by decide) (by decide)
        replace hO := hO9
        have hw_694 : (gI σ_J_553 a 13 ≤ gI σ_s_695 a 13 ∧ gI σ_s_695 a 13 ≤ gI σ_J_553 a 11 ∧ 0 ≤ gI σ_s_695 a 17 ∧ gI σ_s_695 a 17 ≤ gI σ_s_695 a 13) ∧ pgo (gI σ_s_695 a 19) (gI σ_s_695 a 14) (gI σ_J_553 a 13) (gI σ_s_695 a 13) ∧ gI σ_s_695 a 19 = gI σ_J_553 a 19 := hw_694
        refine lv_iload_n hx hb dX11_little_90 rfl (lv_at hl 0 rfl) ?_
        refine th_join (α := Int) (J := 105) (stk := fun x9 => [.int (I x9)]) (fun x9 σ9 H9 l9 ls9 => ok y E σ9 ∧ fr [13] E σ σ9 ∧ fm [13, 14, 15, 16, 17, 18, 19, 20, 27] E σ σ9 a ∧ sr E σ9 a Bf ∧ th_H G b0 σ9 H9 ∧ va_S (th_A b0) s.heap H9 l9 ∧ lv_has ls9 6 [(0, .ref a), (1, .int (I v1q552)), (2, .int (I z_692))] ∧ rng x9 ∧ (gI σ a 13 ≤ gI σ9 a 13 ∧ gI σ9 a 13 ≤ gI σ a 11 ∧ 0 ≤ gI σ9 a 17 ∧ gI σ9 a 17 ≤ gI σ9 a 13) ∧ (pgo (gI σ9 a 19) (gI σ9 a 14) G13q549 (gI σ9 a 13)) ∧ (G13q549 ≤ gI σ9 a 13) ∧ (gI σ9 a 11 = a110) ∧ (gI σ9 a 30 = a300) ∧ (gI σ9 a 27 = z_41) ∧ (aF σ9 (ad E a 1) = f1)) ?_ (fun jK_719 => ?_)
        · intro x9 σ_K_719 H locs ls hI9
          obtain ⟨w0q718, ex9⟩ : ∃ z, z = x9 := ⟨_, rfl⟩
          subst ex9
          obtain ⟨hO, hF, hM, hsr, hH, hS, hl, rw0q718, K_719_0, K_719_1, K_719_2, K_719_3, K_719_4, K_719_5, K_719_6⟩ := hI9
          have hl : lv_has ls 6 [(0, .ref a), (1, .int (I v1q552)), (2, .int (I z_692))] := hl
          have rw0q718 : rng w0q718 := rw0q718
          have K_719_0 : gI σ a 13 ≤ gI σ_K_719 a 13 ∧ gI σ_K_719 a 13 ≤ gI σ a 11 ∧ 0 ≤ gI σ_K_719 a 17 ∧ gI σ_K_719 a 17 ≤ gI σ_K_719 a 13 := K_719_0
          have K_719_1 : pgo (gI σ_K_719 a 19) (gI σ_K_719 a 14) G13q549 (gI σ_K_719 a 13) := K_719_1
          have K_719_2 : G13q549 ≤ gI σ_K_719 a 13 := K_719_2
          have K_719_3 : gI σ_K_719 a 11 = a110 := K_719_3
          have K_719_4 : gI σ_K_719 a 30 = a300 := K_719_4
          have K_719_5 : gI σ_K_719 a 27 = z_41 := K_719_5
          have K_719_6 : aF σ_K_719 (ad E a 1) = f1 := K_719_6
          refine lv_istore_n (lv' := [(3, .int (I w0q718)), (0, .ref a), (1, .int (I v1q552)), (2, .int (I z_692))]) hx hb dX11_little_105 rfl hl (by decide) rfl (fun ls hl => ?_)
          refine lv_iload_n hx hb dX11_little_106 rfl (lv_at hl 3 rfl) ?_
          refine th_join (α := Unit) (J := 116) (stk := fun x9 => []) (fun x9 σ9 H9 l9 ls9 => ok y E σ9 ∧ fr [13] E σ σ9 ∧ fm [13, 14, 15, 16, 17, 18, 19, 20, 27] E σ σ9 a ∧ sr E σ9 a Bf ∧ th_H G b0 σ9 H9 ∧ va_S (th_A b0) s.heap H9 l9 ∧ lv_has ls9 6 [(0, .ref a), (1, .int (I v1q552)), (2, .int (I z_692)), (3, .int (I w0q718))] ∧ (gI σ a 13 ≤ gI σ9 a 13 ∧ gI σ9 a 13 ≤ gI σ a 11 ∧ 0 ≤ gI σ9 a 17 ∧ gI σ9 a 17 ≤ gI σ9 a 13) ∧ (pgo (gI σ9 a 19) (gI σ9 a 14) G13q549 (gI σ9 a 13)) ∧ (G13q549 ≤ gI σ9 a 13) ∧ (gI σ9 a 11 = a110) ∧ (gI σ9 a 30 = a300) ∧ (gI σ9 a 27 = z_41) ∧ (aF σ9 (ad E a 1) = f1)) ?_ (fun jK_729 => ?_)
          · intro x9 σ_K_729 H locs ls hI9
            obtain ⟨hO, hF, hM, hsr, hH, hS, hl, K_729_0, K_729_1, K_729_2, K_729_3, K_729_4, K_729_5, K_729_6⟩ := hI9
            have hl : lv_has ls 6 [(0, .ref a), (1, .int (I v1q552)), (2, .int (I z_692)), (3, .int (I w0q718))] := hl
            have K_729_0 : gI σ a 13 ≤ gI σ_K_729 a 13 ∧ gI σ_K_729 a 13 ≤ gI σ a 11 ∧ 0 ≤ gI σ_K_729 a 17 ∧ gI σ_K_729 a 17 ≤ gI σ_K_729 a 13 := K_729_0
            have K_729_1 : pgo (gI σ_K_729 a 19) (gI σ_K_729 a 14) G13q549 (gI σ_K_729 a 13) := K_729_1
            have K_729_2 : G13q549 ≤ gI σ_K_729 a 13 := K_729_2
            have K_729_3 : gI σ_K_729 a 11 = a110 := K_729_3
            have K_729_4 : gI σ_K_729 a 30 = a300 := K_729_4
            have K_729_5 : gI σ_K_729 a 27 = z_41 := K_729_5
            have K_729_6 : aF σ_K_729 (ad E a 1) = f1 := K_729_6
            refine lv_iload_n hx hb dX11_little_116 rfl (lv_at hl 1 rfl) ?_
            refine lv_iconst (v := I (-1)) hx hb dX11_little_117 (by decide) ?_
            refine lv_icmp_ne (tgt := 124) hx hb dX11_little_118 (by decide) (fun c_730 => ?_) (fun c_730 => ?_)
            · replace c_730 := mt (I_eq (a := v1q552) (b := (-1)) rv1q552 (show rng (-1) from ⟨by decide, by decide⟩)).mpr c_730
              have hk1 := hy0 v1q552 (by omega) (by omega)
              refine lv_iload_n hx hb dX11_little_124 rfl (lv_at hl 2 rfl) ?_
              refine th_join (α := Int) (J := 181) (stk := fun x9 => [.int (I x9)]) (fun x9 σ9 H9 l9 ls9 => σ9 = σ_K_729 ∧ th_H G b0 σ9 H9 ∧ va_S (th_A b0) s.heap H9 l9 ∧ lv_has ls9 6 [(0, .ref a)] ∧ rng x9 ∧ (-1 ≤ x9) ∧ (x9 < mS f1 0) ∧ (x9 ≤ 60)) ?_ (fun jK_747 => ?_)
              · intro x9 σ_K_747 H locs ls hI9
                obtain ⟨w0q746, ex9⟩ : ∃ z, z = x9 := ⟨_, rfl⟩
                subst ex9
                obtain ⟨eK_747, hH, hS, hl, rw0q746, K_747_0, K_747_1, K_747_2⟩ := hI9
                replace eK_747 := eK_747.symm
                subst eK_747
                have hl : lv_has ls 6 [(0, .ref a)] := hl
                have rw0q746 : rng w0q746 := rw0q746
                have K_747_0 : -1 ≤ w0q746 := K_747_0
                have K_747_1 : w0q746 < mS f1 0 := K_747_1
                have K_747_2 : w0q746 ≤ 60 := K_747_2
                refine lv_istore_n (lv' := [(1, .int (I w0q746)), (0, .ref a)]) hx hb dX11_little_181 rfl hl (by decide) rfl (fun ls hl => ?_)
                refine lv_goto (tgt := 61) hx hb dX11_little_182 (by decide) ?_
                obtain ⟨z_748, e_749, rz_748, lz_748, uz_748⟩ := hO.gi h_a (by decide) k13_13
                obtain ⟨z_750, e_751, rz_750, lz_750, uz_750⟩ := hO.gi h_a (by decide) k13_14
                obtain ⟨z_752, e_753, rz_752, lz_752, uz_752⟩ := hO.gi h_a (by decide) k13_19
                exact ihJ_553 (w0q746, z_748, z_750, z_752) σ_K_729 _ _ _ (by have h8 := K_729_1; unfold pgo at h8; simp only [fg]; omega) ⟨hO, hF, hM, hsr, hH, hS, lv_sub hl [1, 0] rfl, rw0q746, rz_748, rz_750, rz_752, by first | (dsimp only; omega) | omega, by first | (dsimp only; omega) | omega, by first | (dsimp only; omega) | omega, by first | (dsimp only; omega) | omega, by first | (dsimp only; omega) | omega, by first | (dsimp only; omega) | omega, by first | (dsimp only; omega) | omega, (K_729_1.is (by first | (dsimp only; omega) | omega) (by first | (dsimp only; omega) | omega) (by first | (dsimp only; omega) | omega) (by first | (dsimp only; omega) | omega)), K_729_3, K_729_4, K_729_5, K_729_6, e_749, e_751, e_753⟩
              · refine lv_if_eq (tgt := 156) hx hb dX11_little_125 (by decide) (fun c_754 => ?_) (fun c_754 => ?_)
                · replace c_754 := (I_eq (a := z_692) (b := 0) rz_692 (show rng 0 from ⟨by decide, by decide⟩)).mp c_754
                  refine lv_aload_n hx hb dX11_little_156 rfl (lv_at hl 0 rfl) ?_
                  refine ok.getR hO h_a (by decide) k13_1 (by decide) (fun _ _ he hv kk => th_get (ci := 11) (C := RX11) (T := TX11) (N := 66) hx hb hts inX11 hown hK hH he rfl 1 (by decide) fl3 hv dX11_little_157 kk) ?_
                  refine lv_iload_n hx hb dX11_little_160 rfl (lv_at hl 1 rfl) ?_
                  refine th_calli (va_runS (As := [.ref (ad E a 1), .int (I v1q552)]) (rest := []) ⟨hx, hb, hml, hown, hts⟩ (w_kind l G y b0 σ_K_729 E hO (ad E a 1) 240 f1 (hO.roww h_a k13_1 isA1 K_729_6 rfl) v1q552 (show rng v1q552 from rv1q552) (by omega) (by omega) (by omega)) (va_cwS 2 hts gX11_little_X11_kind rfl rfl rfl (by decide +kernel) ⟨Nat.le_of_ble_eq_true rfl, Nat.le_of_ble_eq_true rfl⟩) (th_PS hK hH) rfl rfl hl.1 rfl (lv_room (Nat.le_of_ble_eq_true rfl)) dX11_little_161 ⟨Nat.le_of_ble_eq_true rfl, Nat.le_of_ble_eq_true rfl⟩) hS (fun z_757 σ_s_756 H locs rz_757 hw_755 hH hS => ?_)
                  obtain ⟨e9, hw_755⟩ := hw_755
                  replace e9 := e9.symm
                  subst e9
                  have hw_755 : z_757 = mK f1 v1q552 := hw_755
                  refine lv_iconst (v := I 2) hx hb dX11_little_164 (by decide) ?_
                  refine lv_icmp_ne (tgt := 180) hx hb dX11_little_165 (by decide) (fun c_758 => ?_) (fun c_758 => ?_)
                  · replace c_758 := mt (I_eq (a := z_757) (b := 2) rz_757 (show rng 2 from ⟨by decide, by decide⟩)).mpr c_758
                    refine lv_iconst (v := I (-1)) hx hb dX11_little_180 (by decide) ?_
                    replace hl : lv_has ls 6 [(0, .ref a)] := lv_sub hl [0] rfl
                    exact jK_747 ((-1)) σ_K_729 _ _ _ ⟨rfl, hH, hS, lv_sub hl [0] rfl, (show rng (-1) from ⟨by decide, by decide⟩), by first | (dsimp only; omega) | omega, by first | (dsimp only; omega) | omega, by first | (dsimp only; omega) | omega⟩
                  · replace c_758 := (I_eq (a := z_757) (b := 2) rz_757 (show rng 2 from ⟨by decide, by decide⟩)).mp c_758
                    refine lv_aload_n hx hb dX11_little_168 rfl (lv_at hl 0 rfl) ?_
                    refine ok.getR hO h_a (by decide) k13_1 (by decide) (fun _ _ he hv kk => th_get (ci := 11) (C := RX11) (T := TX11) (N := 66) hx hb hts inX11 hown hK hH he rfl 1 (by decide) fl3 hv dX11_little_169 kk) ?_
                    refine lv_iload_n hx hb dX11_little_172 rfl (lv_at hl 1 rfl) ?_
                    refine lv_iload_n hx hb dX11_little_173 rfl (lv_at hl 3 rfl) ?_
                    refine th_calli (va_runS (As := [.ref (ad E a 1), .int (I v1q552), .int (I w0q718)]) (rest := []) ⟨hx, hb, hml, hown, hts⟩ (w_byPlace l G y b0 σ_K_729 E hO (ad E a 1) 240 f1 (hO.roww h_a k13_1 isA1 K_729_6 rfl) v1q552 (show rng v1q552 from rv1q552) (by omega) (by omega) w0q718 (show rng w0q718 from rw0q718) (by first | exact hy0 | exact (hy0).sub (by omega) (by omega)) (by omega) (by omega) (by omega)) (va_cwS 3 hts gX11_little_X11_byPlace rfl rfl rfl (by decide +kernel) ⟨Nat.le_of_ble_eq_true rfl, Nat.le_of_ble_eq_true rfl⟩) (th_PS hK hH) rfl rfl hl.1 rfl (lv_room (Nat.le_of_ble_eq_true rfl)) dX11_little_174 ⟨Nat.le_of_ble_eq_true rfl, Nat.le_of_ble_eq_true rfl⟩) hS (fun z_761 σ_s_760 H locs rz_761 hw_759 hH hS => ?_)
                    obtain ⟨e9, hw_759⟩ := hw_759
                    replace e9 := e9.symm
                    subst e9
                    have hw_759 : z_761 = -1 ∨ (kid f1 v1q552 z_761 ∧ v1q552 < z_761 ∧ z_761 < v1q552 + mS f1 v1q552) := hw_759
                    refine lv_goto (tgt := 181) hx hb dX11_little_177 (by decide) ?_
                    replace hl : lv_has ls 6 [(0, .ref a)] := lv_sub hl [0] rfl
                    exact jK_747 (z_761) σ_K_729 _ _ _ ⟨rfl, hH, hS, lv_sub hl [0] rfl, rz_761, by first | (dsimp only; omega) | omega, by first | (dsimp only; omega) | omega, by first | (dsimp only; omega) | omega⟩
                · replace c_754 := mt (I_eq (a := z_692) (b := 0) rz_692 (show rng 0 from ⟨by decide, by decide⟩)).mpr c_754
                  refine lv_aload_n hx hb dX11_little_128 rfl (lv_at hl 0 rfl) ?_
                  refine ok.getR hO h_a (by decide) k13_1 (by decide) (fun _ _ he hv kk => th_get (ci := 11) (C := RX11) (T := TX11) (N := 66) hx hb hts inX11 hown hK hH he rfl 1 (by decide) fl3 hv dX11_little_129 kk) ?_
                  refine lv_iload_n hx hb dX11_little_132 rfl (lv_at hl 1 rfl) ?_
                  refine th_calli (va_runS (As := [.ref (ad E a 1), .int (I v1q552)]) (rest := []) ⟨hx, hb, hml, hown, hts⟩ (w_kind l G y b0 σ_K_729 E hO (ad E a 1) 240 f1 (hO.roww h_a k13_1 isA1 K_729_6 rfl) v1q552 (show rng v1q552 from rv1q552) (by omega) (by omega) (by omega)) (va_cwS 2 hts gX11_little_X11_kind rfl rfl rfl (by decide +kernel) ⟨Nat.le_of_ble_eq_true rfl, Nat.le_of_ble_eq_true rfl⟩) (th_PS hK hH) rfl rfl hl.1 rfl (lv_room (Nat.le_of_ble_eq_true rfl)) dX11_little_133 ⟨Nat.le_of_ble_eq_true rfl, Nat.le_of_ble_eq_true rfl⟩) hS (fun z_764 σ_s_763 H locs rz_764 hw_762 hH hS => ?_)
                  obtain ⟨e9, hw_762⟩ := hw_762
                  replace e9 := e9.symm
                  subst e9
                  have hw_762 : z_764 = mK f1 v1q552 := hw_762
                  refine lv_iconst (v := I 3) hx hb dX11_little_136 (by decide) ?_
                  refine lv_icmp_ne (tgt := 152) hx hb dX11_little_137 (by decide) (fun c_765 => ?_) (fun c_765 => ?_)
                  · replace c_765 := mt (I_eq (a := z_764) (b := 3) rz_764 (show rng 3 from ⟨by decide, by decide⟩)).mpr c_765
                    refine lv_iconst (v := I (-1)) hx hb dX11_little_152 (by decide) ?_
                    refine lv_goto (tgt := 181) hx hb dX11_little_153 (by decide) ?_
                    replace hl : lv_has ls 6 [(0, .ref a)] := lv_sub hl [0] rfl
                    exact jK_747 ((-1)) σ_K_729 _ _ _ ⟨rfl, hH, hS, lv_sub hl [0] rfl, (show rng (-1) from ⟨by decide, by decide⟩), by first | (dsimp only; omega) | omega, by first | (dsimp only; omega) | omega, by first | (dsimp only; omega) | omega⟩
                  · replace c_765 := (I_eq (a := z_764) (b := 3) rz_764 (show rng 3 from ⟨by decide, by decide⟩)).mp c_765
                    refine lv_aload_n hx hb dX11_little_140 rfl (lv_at hl 0 rfl) ?_
                    refine ok.getR hO h_a (by decide) k13_1 (by decide) (fun _ _ he hv kk => th_get (ci := 11) (C := RX11) (T := TX11) (N := 66) hx hb hts inX11 hown hK hH he rfl 1 (by decide) fl3 hv dX11_little_141 kk) ?_
                    refine lv_iload_n hx hb dX11_little_144 rfl (lv_at hl 1 rfl) ?_
                    refine lv_iload_n hx hb dX11_little_145 rfl (lv_at hl 3 rfl) ?_
                    refine th_calli (va_runS (As := [.ref (ad E a 1), .int (I v1q552), .int (I w0q718)]) (rest := []) ⟨hx, hb, hml, hown, hts⟩ (w_byKey l G y b0 σ_K_729 E hO (ad E a 1) 240 f1 (hO.roww h_a k13_1 isA1 K_729_6 rfl) v1q552 (show rng v1q552 from rv1q552) (by omega) (by omega) w0q718 (show rng w0q718 from rw0q718) (by first | exact hy0 | exact (hy0).sub (by omega) (by omega)) (by omega) (by omega) (by omega)) (va_cwS 3 hts gX11_little_X11_byKey rfl rfl rfl (by decide +kernel) ⟨Nat.le_of_ble_eq_true rfl, Nat.le_of_ble_eq_true rfl⟩) (th_PS hK hH) rfl rfl hl.1 rfl (lv_room (Nat.le_of_ble_eq_true rfl)) dX11_little_146 ⟨Nat.le_of_ble_eq_true rfl, Nat.le_of_ble_eq_true rfl⟩) hS (fun z_768 σ_s_767 H locs rz_768 hw_766 hH hS => ?_)
                    obtain ⟨e9, hw_766⟩ := hw_766
                    replace e9 := e9.symm
                    subst e9
                    have hw_766 : (z_768 = -1 ∧ nok f1 (v1q552 + 1) (v1q552 + mS f1 v1q552) w0q718) ∨ (kid f1 v1q552 z_768 ∧ mY f1 z_768 = w0q718 ∧ v1q552 < z_768 ∧ z_768 < v1q552 + mS f1 v1q552) := hw_766
                    refine lv_goto (tgt := 181) hx hb dX11_little_149 (by decide) ?_
                    replace hl : lv_has ls 6 [(0, .ref a)] := lv_sub hl [0] rfl
                    exact jK_747 (z_768) σ_K_729 _ _ _ ⟨rfl, hH, hS, lv_sub hl [0] rfl, rz_768, by first | (dsimp only; omega) | omega, by first | (dsimp only; omega) | omega, by first | (dsimp only; omega) | omega⟩
            · replace c_730 := (I_eq (a := v1q552) (b := (-1)) rv1q552 (show rng (-1) from ⟨by decide, by decide⟩)).mp c_730
              refine lv_goto (tgt := 61) hx hb dX11_little_121 (by decide) ?_
              replace hl : lv_has ls 6 [(0, .ref a), (1, .int (I v1q552))] := lv_sub hl [0, 1] rfl
              obtain ⟨z_769, e_770, rz_769, lz_769, uz_769⟩ := hO.gi h_a (by decide) k13_13
              obtain ⟨z_771, e_772, rz_771, lz_771, uz_771⟩ := hO.gi h_a (by decide) k13_14
              obtain ⟨z_773, e_774, rz_773, lz_773, uz_773⟩ := hO.gi h_a (by decide) k13_19
              exact ihJ_553 (v1q552, z_769, z_771, z_773) σ_K_729 _ _ _ (by have h8 := K_729_1; unfold pgo at h8; simp only [fg]; omega) ⟨hO, hF, hM, hsr, hH, hS, lv_sub hl [0, 1] rfl, rv1q552, rz_769, rz_771, rz_773, by first | (dsimp only; omega) | omega, by first | (dsimp only; omega) | omega, by first | (dsimp only; omega) | omega, by first | (dsimp only; omega) | omega, by first | (dsimp only; omega) | omega, by first | (dsimp only; omega) | omega, by first | (dsimp only; omega) | omega, (K_729_1.is (by first | (dsimp only; omega) | omega) (by first | (dsimp only; omega) | omega) (by first | (dsimp only; omega) | omega) (by first | (dsimp only; omega) | omega)), K_729_3, K_729_4, K_729_5, K_729_6, e_770, e_772, e_774⟩
          · refine lv_if_ne (tgt := 116) hx hb dX11_little_107 (by decide) (fun c_775 => ?_) (fun c_775 => ?_)
            · replace c_775 := mt (I_eq (a := z_692) (b := 0) rz_692 (show rng 0 from ⟨by decide, by decide⟩)).mpr c_775
              exact jK_729 () σ_K_719 _ _ _ ⟨hO, hF, hM, hsr, hH, hS, lv_sub hl [1, 2, 3, 0] rfl, by first | (dsimp only; omega) | omega, (K_719_1.is (by first | (dsimp only; omega) | omega) (by first | (dsimp only; omega) | omega) (by first | (dsimp only; omega) | omega) (by first | (dsimp only; omega) | omega)), by first | (dsimp only; omega) | omega, K_719_3, K_719_4, K_719_5, K_719_6⟩
            · replace c_775 := (I_eq (a := z_692) (b := 0) rz_692 (show rng 0 from ⟨by decide, by decide⟩)).mp c_775
              refine lv_aload_n hx hb dX11_little_110 rfl (lv_at hl 1 rfl) ?_
              refine lv_bipush (v := I 93) hx hb dX11_little_111 (by decide) ?_
              obtain ⟨_, hc_776⟩ := hO.cell h_a (by decide) (ci := 11) rfl
              refine th_callv (va_runV (As := [.int (I 93)]) (rest := []) ⟨hx, hb, hml, hown, hts⟩ (m_need l G y b0 σ_K_719 E hO a h_a 93 (show rng 93 from (show rng 93 from ⟨by decide, by decide⟩)) Bf hsr (by omega)) (cwV 1 hts gX11_little_X11_need rfl rfl rfl (by decide +kernel) ⟨Nat.le_of_ble_eq_true rfl, Nat.le_of_ble_eq_true rfl⟩) (th_PV hK hH rfl hc_776) rfl rfl hl.1 rfl (lv_room (Nat.le_of_ble_eq_true rfl)) dX11_little_113 ⟨Nat.le_of_ble_eq_true rfl, Nat.le_of_ble_eq_true rfl⟩) hS (fun σ_s_778 H locs hw_777 hH hS => ?_)
              obtain ⟨hO9, hF9, hM9, hw_777⟩ := hw_777
              replace hM := hM.tu hM9 (by decide)
              replace hF := hF.tu hF9 (by decide)
              have e_779 : gI σ_s_778 a 11 = a110 := (hM9.i (by decide)).trans K_719_3
              have e_780 : gI σ_s_778 a 30 = a300 := (hM9.i (by decide)).trans K_719_4
              have e_781 : gI σ_s_778 a 27 = z_41 := (hM9.i (by decide)).trans K_719_5
              have e_782 : aF σ_s_778 (ad E a 1) = f1 := (hM9.a (by decide) (by decide)).trans K_719_6
              replace hsr := hsr.mv hM9 (by decide) (by decide) (by decide) (by decide) (by decide)
              replace hO := hO9
              have hw_777 : (gI σ_K_719 a 13 ≤ gI σ_s_778 a 13 ∧ gI σ_s_778 a 13 ≤ gI σ_K_719 a 11 ∧ 0 ≤ gI σ_s_778 a 17 ∧ gI σ_s_778 a 17 ≤ gI σ_s_778 a 13) ∧ pgo (gI σ_s_778 a 19) (gI σ_s_778 a 14) (gI σ_K_719 a 13) (gI σ_s_778 a 13) ∧ bdo (gI σ_K_719 a 19) (gI σ_s_778 a 19) := hw_777
              exact jK_729 () σ_s_778 _ _ _ ⟨hO, hF, hM, hsr, hH, hS, lv_sub hl [1, 2, 3, 0] rfl, by first | (dsimp only; omega) | omega, (hw_777.2.1.is (by first | (dsimp only; omega) | omega) (by first | (dsimp only; omega) | omega) (by first | (dsimp only; omega) | omega) (by first | (dsimp only; omega) | omega)), by first | (dsimp only; omega) | omega, e_779, e_780, e_781, e_782⟩
        · refine lv_if_eq (tgt := 101) hx hb dX11_little_91 (by decide) (fun c_783 => ?_) (fun c_783 => ?_)
          · replace c_783 := (I_eq (a := z_692) (b := 0) rz_692 (show rng 0 from ⟨by decide, by decide⟩)).mp c_783
            refine lv_aload_n hx hb dX11_little_101 rfl (lv_at hl 1 rfl) ?_
            obtain ⟨_, hc_784⟩ := hO.cell h_a (by decide) (ci := 11) rfl
            refine th_calli (va_runV (As := []) (rest := []) ⟨hx, hb, hml, hown, hts⟩ (m_readNumber l G y b0 σ_s_695 E hO a h_a Bf hsr (by omega)) (cwV 0 hts gX11_little_X11_readNumber rfl rfl rfl (by decide +kernel) ⟨Nat.le_of_ble_eq_true rfl, Nat.le_of_ble_eq_true rfl⟩) (th_PV hK hH rfl hc_784) rfl rfl hl.1 rfl (lv_room (Nat.le_of_ble_eq_true rfl)) dX11_little_102 ⟨Nat.le_of_ble_eq_true rfl, Nat.le_of_ble_eq_true rfl⟩) hS (fun z_787 σ_s_786 H locs rz_787 hw_785 hH hS => ?_)
            obtain ⟨hO9, hF9, hM9, hw_785⟩ := hw_785
            replace hM := hM.tu hM9 (by decide)
            replace hF := hF.tu hF9 (by decide)
            have e_788 : gI σ_s_786 a 11 = a110 := (hM9.i (by decide)).trans e_696
            have e_789 : gI σ_s_786 a 30 = a300 := (hM9.i (by decide)).trans e_697
            have e_790 : gI σ_s_786 a 27 = z_41 := (hM9.i (by decide)).trans e_698
            have e_791 : aF σ_s_786 (ad E a 1) = f1 := (hM9.a (by decide) (by decide)).trans e_699
            replace hsr := hsr.mv hM9 (by decide) (by decide) (by decide) (by decide) (by decide)
            replace hO := hO9
            have hw_785 : (gI σ_s_695 a 13 ≤ gI σ_s_786 a 13 ∧ gI σ_s_786 a 13 ≤ gI σ_s_695 a 11 ∧ 0 ≤ gI σ_s_786 a 17 ∧ gI σ_s_786 a 17 ≤ gI σ_s_786 a 13) ∧ pgo (gI σ_s_786 a 19) (gI σ_s_786 a 14) (gI σ_s_695 a 13) (gI σ_s_786 a 13) ∧ bdo (gI σ_s_695 a 19) (gI σ_s_786 a 19) := hw_785
            exact jK_719 (z_787) σ_s_786 _ _ _ ⟨hO, hF, hM, hsr, hH, hS, lv_sub hl [1, 2, 0] rfl, rz_787, by first | (dsimp only; omega) | omega, (hw_785.2.1.is (by first | (dsimp only; omega) | omega) (by first | (dsimp only; omega) | omega) (by first | (dsimp only; omega) | omega) (by first | (dsimp only; omega) | omega)), by first | (dsimp only; omega) | omega, e_788, e_789, e_790, e_791⟩
          · replace c_783 := mt (I_eq (a := z_692) (b := 0) rz_692 (show rng 0 from ⟨by decide, by decide⟩)).mpr c_783
            refine lv_aload_n hx hb dX11_little_94 rfl (lv_at hl 1 rfl) ?_
            obtain ⟨_, hc_792⟩ := hO.cell h_a (by decide) (ci := 11) rfl
            refine th_calli (va_runV (As := []) (rest := []) ⟨hx, hb, hml, hown, hts⟩ (m_readWord l G y b0 σ_s_695 E hO a h_a Bf hsr (by omega)) (cwV 0 hts gX11_little_X11_readWord rfl rfl rfl (by decide +kernel) ⟨Nat.le_of_ble_eq_true rfl, Nat.le_of_ble_eq_true rfl⟩) (th_PV hK hH rfl hc_792) rfl rfl hl.1 rfl (lv_room (Nat.le_of_ble_eq_true rfl)) dX11_little_95 ⟨Nat.le_of_ble_eq_true rfl, Nat.le_of_ble_eq_true rfl⟩) hS (fun z_795 σ_s_794 H locs rz_795 hw_793 hH hS => ?_)
            obtain ⟨hO9, hF9, hM9, hw_793⟩ := hw_793
            replace hM := hM.tu hM9 (by decide)
            replace hF := hF.tu hF9 (by decide)
            have e_796 : gI σ_s_794 a 11 = a110 := (hM9.i (by decide)).trans e_696
            have e_797 : gI σ_s_794 a 30 = a300 := (hM9.i (by decide)).trans e_697
            have e_798 : gI σ_s_794 a 27 = z_41 := (hM9.i (by decide)).trans e_698
            have e_799 : aF σ_s_794 (ad E a 1) = f1 := (hM9.a (by decide) (by decide)).trans e_699
            replace hsr := hsr.mv hM9 (by decide) (by decide) (by decide) (by decide) (by decide)
            replace hO := hO9
            have hw_793 : (gI σ_s_695 a 13 ≤ gI σ_s_794 a 13 ∧ gI σ_s_794 a 13 ≤ gI σ_s_695 a 11 ∧ 0 ≤ gI σ_s_794 a 17 ∧ gI σ_s_794 a 17 ≤ gI σ_s_794 a 13) ∧ pgo (gI σ_s_794 a 19) (gI σ_s_794 a 14) (gI σ_s_695 a 13) (gI σ_s_794 a 13) ∧ bdo (gI σ_s_695 a 19) (gI σ_s_794 a 19) := hw_793
            refine lv_goto (tgt := 105) hx hb dX11_little_98 (by decide) ?_
            exact jK_719 (z_795) σ_s_794 _ _ _ ⟨hO, hF, hM, hsr, hH, hS, lv_sub hl [1, 2, 0] rfl, rz_795, by first | (dsimp only; omega) | omega, (hw_793.2.1.is (by first | (dsimp only; omega) | omega) (by first | (dsimp only; omega) | omega) (by first | (dsimp only; omega) | omega) (by first | (dsimp only; omega) | omega)), by first | (dsimp only; omega) | omega, e_796, e_797, e_798, e_799⟩
      · refine lv_if_ne (tgt := 79) hx hb dX11_little_67 (by decide) (fun c_800 => ?_) (fun c_800 => ?_)
        · replace c_800 := mt (I_eq (a := z_557) (b := 0) rz_557 (show rng 0 from ⟨by decide, by decide⟩)).mpr c_800
          exact jK_688 () σ_J_553 _ _ _ ⟨rfl, hH, hS, lv_sub hl [0, 1] rfl, by first | (dsimp only; omega) | omega⟩
        · replace c_800 := (I_eq (a := z_557) (b := 0) rz_557 (show rng 0 from ⟨by decide, by decide⟩)).mp c_800
          refine lv_aload_n hx hb dX11_little_70 rfl (lv_at hl 0 rfl) ?_
          refine lv_bipush (v := I 91) hx hb dX11_little_71 (by decide) ?_
          obtain ⟨_, hc_801⟩ := hO.cell h_a (by decide) (ci := 11) rfl
          refine th_calli (va_runV (As := [.int (I 91)]) (rest := []) ⟨hx, hb, hml, hown, hts⟩ (m_isMarked l G y b0 σ_J_553 E hO a h_a 91 (show rng 91 from (show rng 91 from ⟨by decide, by decide⟩)) Bf hsr (by omega)) (cwV 1 hts gX11_little_X11_isMarked rfl rfl rfl (by decide +kernel) ⟨Nat.le_of_ble_eq_true rfl, Nat.le_of_ble_eq_true rfl⟩) (th_PV hK hH rfl hc_801) rfl rfl hl.1 rfl (lv_room (Nat.le_of_ble_eq_true rfl)) dX11_little_73 ⟨Nat.le_of_ble_eq_true rfl, Nat.le_of_ble_eq_true rfl⟩) hS (fun z_804 σ_s_803 H locs rz_804 hw_802 hH hS => ?_)
          obtain ⟨e9, bhw_802, hw_802⟩ := hw_802
          replace e9 := e9.symm
          subst e9
          have hw_802 : z_804 = 0 ∨ (z_804 = 1 ∧ gI σ_J_553 a 19 = 0 ∧ gI σ_J_553 a 14 = 3 ∧ Bf (gI σ_J_553 a 17) = 91) := hw_802
          refine lv_if_eq (tgt := 185) hx hb dX11_little_76 (by decide) (fun c_805 => ?_) (fun c_805 => ?_)
          · replace c_805 := (I_eq (a := z_804) (b := 0) rz_804 (show rng 0 from ⟨by decide, by decide⟩)).mp c_805
            clear hw_802
            refine lv_aload_n hx hb dX11_little_185 rfl (lv_at hl 0 rfl) ?_
            refine lv_bipush (v := I 61) hx hb dX11_little_186 (by decide) ?_
            obtain ⟨_, hc_806⟩ := hO.cell h_a (by decide) (ci := 11) rfl
            refine th_calli (va_runV (As := [.int (I 61)]) (rest := []) ⟨hx, hb, hml, hown, hts⟩ (m_isMarked l G y b0 σ_J_553 E hO a h_a 61 (show rng 61 from (show rng 61 from ⟨by decide, by decide⟩)) Bf hsr (by omega)) (cwV 1 hts gX11_little_X11_isMarked rfl rfl rfl (by decide +kernel) ⟨Nat.le_of_ble_eq_true rfl, Nat.le_of_ble_eq_true rfl⟩) (th_PV hK hH rfl hc_806) rfl rfl hl.1 rfl (lv_room (Nat.le_of_ble_eq_true rfl)) dX11_little_188 ⟨Nat.le_of_ble_eq_true rfl, Nat.le_of_ble_eq_true rfl⟩) hS (fun z_809 σ_s_808 H locs rz_809 hw_807 hH hS => ?_)
            obtain ⟨e9, bhw_807, hw_807⟩ := hw_807
            replace e9 := e9.symm
            subst e9
            have hw_807 : z_809 = 0 ∨ (z_809 = 1 ∧ gI σ_J_553 a 19 = 0 ∧ gI σ_J_553 a 14 = 3 ∧ Bf (gI σ_J_553 a 17) = 61) := hw_807
            refine th_join (α := Int) (J := 217) (stk := fun x9 => [.int (I x9)]) (fun x9 σ9 H9 l9 ls9 => σ9 = σ_J_553 ∧ th_H G b0 σ9 H9 ∧ va_S (th_A b0) s.heap H9 l9 ∧ lv_has ls9 6 [(0, .ref a), (1, .int (I v1q552))] ∧ rng x9 ∧ (x9 = 0 ∨ x9 = 1)) ?_ (fun jK_822 => ?_)
            · intro x9 σ_K_822 H locs ls hI9
              obtain ⟨w0q821, ex9⟩ : ∃ z, z = x9 := ⟨_, rfl⟩
              subst ex9
              obtain ⟨eK_822, hH, hS, hl, rw0q821, K_822_0⟩ := hI9
              replace eK_822 := eK_822.symm
              subst eK_822
              have hl : lv_has ls 6 [(0, .ref a), (1, .int (I v1q552))] := hl
              have rw0q821 : rng w0q821 := rw0q821
              have K_822_0 : w0q821 = 0 ∨ w0q821 = 1 := K_822_0
              refine lv_istore_n (lv' := [(2, .int (I w0q821)), (0, .ref a), (1, .int (I v1q552))]) hx hb dX11_little_217 rfl hl (by decide) rfl (fun ls hl => ?_)
              refine lv_iload_n hx hb dX11_little_218 rfl (lv_at hl 0 rfl) ?_
              refine lv_if_ne (tgt := 233) hx hb dX11_little_219 (by decide) (fun c_823 => ?_) (fun c_823 => ?_)
              · replace c_823 := mt (I_eq (a := w0q821) (b := 0) rw0q821 (show rng 0 from ⟨by decide, by decide⟩)).mpr c_823
                refine lv_aload_n hx hb dX11_little_233 rfl (lv_at hl 1 rfl) ?_
                refine lv_aload_n hx hb dX11_little_234 rfl (lv_at hl 1 rfl) ?_
                refine ok.getI hO h_a (by decide) k13_17 (fun _ _ he hv kk => th_get (ci := 11) (C := RX11) (T := TX11) (N := 66) hx hb hts inX11 hown hK hH he rfl 17 (by decide) fl4 hv dX11_little_235 kk) (fun z_824 e_825 rz_824 lz_824 uz_824 => ?_)
                obtain ⟨_, hc_826⟩ := hO.cell h_a (by decide) (ci := 11) rfl
                refine th_calli (va_runV (As := [.int (I z_824)]) (rest := []) ⟨hx, hb, hml, hown, hts⟩ (m_byteAt l G y b0 σ_J_553 E hO a h_a z_824 (show rng z_824 from rz_824) (by omega) (by omega) Bf hsr) (cwV 1 hts gX11_little_X11_byteAt rfl rfl rfl (by decide +kernel) ⟨Nat.le_of_ble_eq_true rfl, Nat.le_of_ble_eq_true rfl⟩) (th_PV hK hH rfl hc_826) rfl rfl hl.1 rfl (lv_room (Nat.le_of_ble_eq_true rfl)) dX11_little_238 ⟨Nat.le_of_ble_eq_true rfl, Nat.le_of_ble_eq_true rfl⟩) hS (fun z_829 σ_s_828 H locs rz_829 hw_827 hH hS => ?_)
                obtain ⟨e9, hw_827⟩ := hw_827
                replace e9 := e9.symm
                subst e9
                have hw_827 : z_829 = Bf z_824 ∧ (z_829 = -1 ∨ z_824 < gI σ_J_553 a 11) := hw_827
                refine lv_istore_n (lv' := [(3, .int (I z_829)), (2, .int (I w0q821)), (0, .ref a), (1, .int (I v1q552))]) hx hb dX11_little_241 rfl hl (by decide) rfl (fun ls hl => ?_)
                refine lv_aload_n hx hb dX11_little_242 rfl (lv_at hl 2 rfl) ?_
                obtain ⟨_, hc_830⟩ := hO.cell h_a (by decide) (ci := 11) rfl
                refine th_callv (va_runV (As := []) (rest := []) ⟨hx, hb, hml, hown, hts⟩ (m_pass l G y b0 σ_J_553 E hO a h_a Bf hsr (by omega)) (cwV 0 hts gX11_little_X11_pass rfl rfl rfl (by decide +kernel) ⟨Nat.le_of_ble_eq_true rfl, Nat.le_of_ble_eq_true rfl⟩) (th_PV hK hH rfl hc_830) rfl rfl hl.1 rfl (lv_room (Nat.le_of_ble_eq_true rfl)) dX11_little_243 ⟨Nat.le_of_ble_eq_true rfl, Nat.le_of_ble_eq_true rfl⟩) hS (fun σ_s_832 H locs hw_831 hH hS => ?_)
                obtain ⟨hO9, hF9, hM9, hw_831⟩ := hw_831
                replace hM := hM.tu hM9 (by decide)
                replace hF := hF.tu hF9 (by decide)
                have e_833 : gI σ_s_832 a 11 = a110 := (hM9.i (by decide)).trans J_553_8
                have e_834 : gI σ_s_832 a 30 = a300 := (hM9.i (by decide)).trans J_553_9
                have e_835 : gI σ_s_832 a 27 = z_41 := (hM9.i (by decide)).trans J_553_10
                have e_836 : aF σ_s_832 (ad E a 1) = f1 := (hM9.a (by decide) (by decide)).trans J_553_11
                have e_837 : gI σ_s_832 a 19 = G19q551 := (hM9.i (by decide)).trans J_553_14
                replace hsr := hsr.mv hM9 (by decide) (by decide) (by decide) (by decide) (by decide)
                replace hO := hO9
                have hw_831 : (gI σ_J_553 a 13 ≤ gI σ_s_832 a 13 ∧ gI σ_s_832 a 13 ≤ gI σ_J_553 a 11 ∧ 0 ≤ gI σ_s_832 a 17 ∧ gI σ_s_832 a 17 ≤ gI σ_s_832 a 13) ∧ pgo (gI σ_s_832 a 19) (gI σ_s_832 a 14) (gI σ_J_553 a 13) (gI σ_s_832 a 13) ∧ gI σ_s_832 a 19 = gI σ_J_553 a 19 := hw_831
                refine lv_aload_n hx hb dX11_little_246 rfl (lv_at hl 2 rfl) ?_
                refine ok.getI hO h_a (by decide) k13_14 (fun _ _ he hv kk => th_get (ci := 11) (C := RX11) (T := TX11) (N := 66) hx hb hts inX11 hown hK hH he rfl 14 (by decide) fl5 hv dX11_little_247 kk) (fun z_838 e_839 rz_838 lz_838 uz_838 => ?_)
                refine lv_iconst (v := I 1) hx hb dX11_little_250 (by decide) ?_
                refine th_join (α := Int) (J := 259) (stk := fun x9 => [.int (I x9)]) (fun x9 σ9 H9 l9 ls9 => σ9 = σ_s_832 ∧ th_H G b0 σ9 H9 ∧ va_S (th_A b0) s.heap H9 l9 ∧ lv_has ls9 6 [(0, .ref a), (1, .int (I v1q552)), (3, .int (I z_829))] ∧ rng x9 ∧ (x9 = 0 ∨ x9 = 1)) ?_ (fun jK_842 => ?_)
                · intro x9 σ_K_842 H locs ls hI9
                  obtain ⟨w0q841, ex9⟩ : ∃ z, z = x9 := ⟨_, rfl⟩
                  subst ex9
                  obtain ⟨eK_842, hH, hS, hl, rw0q841, K_842_0⟩ := hI9
                  replace eK_842 := eK_842.symm
                  subst eK_842
                  have hl : lv_has ls 6 [(0, .ref a), (1, .int (I v1q552)), (3, .int (I z_829))] := hl
                  have rw0q841 : rng w0q841 := rw0q841
                  have K_842_0 : w0q841 = 0 ∨ w0q841 = 1 := K_842_0
                  refine lv_istore (lv' := [(4, .int (I w0q841)), (0, .ref a), (1, .int (I v1q552)), (3, .int (I z_829))]) hx hb dX11_little_259 hl (by decide) rfl (fun ls hl => ?_)
                  refine lv_iload hx hb dX11_little_261 (lv_at hl 0 rfl) ?_
                  refine th_join (α := Int) (J := 277) (stk := fun x9 => [.int (I x9)]) (fun x9 σ9 H9 l9 ls9 => ok y E σ9 ∧ fr [13] E σ σ9 ∧ fm [13, 14, 15, 16, 17, 18, 19, 20, 27] E σ σ9 a ∧ sr E σ9 a Bf ∧ th_H G b0 σ9 H9 ∧ va_S (th_A b0) s.heap H9 l9 ∧ lv_has ls9 6 [(0, .ref a), (1, .int (I v1q552)), (3, .int (I z_829)), (4, .int (I w0q841))] ∧ rng x9 ∧ (gI σ a 13 ≤ gI σ9 a 13 ∧ gI σ9 a 13 ≤ gI σ a 11 ∧ 0 ≤ gI σ9 a 17 ∧ gI σ9 a 17 ≤ gI σ9 a 13) ∧ (pgo (gI σ9 a 19) (gI σ9 a 14) (gI σ a 13) (gI σ9 a 13)) ∧ (gI σ9 a 11 = a110) ∧ (gI σ9 a 30 = a300) ∧ (gI σ9 a 27 = z_41) ∧ (aF σ9 (ad E a 1) = f1)) ?_ (fun jK_861 => ?_)
                  · intro x9 σ_K_861 H locs ls hI9
                    obtain ⟨w0q860, ex9⟩ : ∃ z, z = x9 := ⟨_, rfl⟩
                    subst ex9
                    obtain ⟨hO, hF, hM, hsr, hH, hS, hl, rw0q860, K_861_0, K_861_1, K_861_2, K_861_3, K_861_4, K_861_5⟩ := hI9
                    have hl : lv_has ls 6 [(0, .ref a), (1, .int (I v1q552)), (3, .int (I z_829)), (4, .int (I w0q841))] := hl
                    have rw0q860 : rng w0q860 := rw0q860
                    have K_861_0 : gI σ a 13 ≤ gI σ_K_861 a 13 ∧ gI σ_K_861 a 13 ≤ gI σ a 11 ∧ 0 ≤ gI σ_K_861 a 17 ∧ gI σ_K_861 a 17 ≤ gI σ_K_861 a 13 := K_861_0
                    have K_861_1 : pgo (gI σ_K_861 a 19) (gI σ_K_861 a 14) (gI σ a 13) (gI σ_K_861 a 13) := K_861_1
                    have K_861_2 : gI σ_K_861 a 11 = a110 := K_861_2
                    have K_861_3 : gI σ_K_861 a 30 = a300 := K_861_3
                    have K_861_4 : gI σ_K_861 a 27 = z_41 := K_861_4
                    have K_861_5 : aF σ_K_861 (ad E a 1) = f1 := K_861_5
                    refine lv_istore (lv' := [(5, .int (I w0q860)), (0, .ref a), (1, .int (I v1q552)), (3, .int (I z_829)), (4, .int (I w0q841))]) hx hb dX11_little_277 hl (by decide) rfl (fun ls hl => ?_)
                    refine lv_iload_n hx hb dX11_little_279 rfl (lv_at hl 2 rfl) ?_
                    refine lv_iconst (v := I (-1)) hx hb dX11_little_280 (by decide) ?_
                    refine lv_icmp_eq (tgt := 352) hx hb dX11_little_281 (by decide) (fun c_862 => ?_) (fun c_862 => ?_)
                    · replace c_862 := (I_eq (a := v1q552) (b := (-1)) rv1q552 (show rng (-1) from ⟨by decide, by decide⟩)).mp c_862
                      refine lv_iconst (v := I 0) hx hb dX11_little_352 (by decide) ?_
                      exact th_zret hx hb hr hlocks hH hS (z := 0) (by omega) ⟨hO, hF, hM, ⟨by omega, by omega⟩, ⟨by omega, K_861_1.is (by first | (dsimp only; omega) | omega) (by first | (dsimp only; omega) | omega) (by first | (dsimp only; omega) | omega) (by first | (dsimp only; omega) | omega)⟩⟩ dX11_little_353
                    · replace c_862 := mt (I_eq (a := v1q552) (b := (-1)) rv1q552 (show rng (-1) from ⟨by decide, by decide⟩)).mpr c_862
                      have hk1 := hy0 v1q552 (by omega) (by omega)
                      refine lv_aload_n hx hb dX11_little_284 rfl (lv_at hl 1 rfl) ?_
                      refine ok.getR hO h_a (by decide) k13_1 (by decide) (fun _ _ he hv kk => th_get (ci := 11) (C := RX11) (T := TX11) (N := 66) hx hb hts inX11 hown hK hH he rfl 1 (by decide) fl3 hv dX11_little_285 kk) ?_
                      refine lv_iload_n hx hb dX11_little_288 rfl (lv_at hl 2 rfl) ?_
                      refine th_calli (va_runS (As := [.ref (ad E a 1), .int (I v1q552)]) (rest := []) ⟨hx, hb, hml, hown, hts⟩ (w_kind l G y b0 σ_K_861 E hO (ad E a 1) 240 f1 (hO.roww h_a k13_1 isA1 K_861_5 rfl) v1q552 (show rng v1q552 from rv1q552) (by omega) (by omega) (by omega)) (va_cwS 2 hts gX11_little_X11_kind rfl rfl rfl (by decide +kernel) ⟨Nat.le_of_ble_eq_true rfl, Nat.le_of_ble_eq_true rfl⟩) (th_PS hK hH) rfl rfl hl.1 rfl (lv_room (Nat.le_of_ble_eq_true rfl)) dX11_little_289 ⟨Nat.le_of_ble_eq_true rfl, Nat.le_of_ble_eq_true rfl⟩) hS (fun z_865 σ_s_864 H locs rz_865 hw_863 hH hS => ?_)
                      obtain ⟨e9, hw_863⟩ := hw_863
                      replace e9 := e9.symm
                      subst e9
                      have hw_863 : z_865 = mK f1 v1q552 := hw_863
                      refine lv_iload hx hb dX11_little_292 (lv_at hl 4 rfl) ?_
                      refine lv_if_eq (tgt := 301) hx hb dX11_little_294 (by decide) (fun c_866 => ?_) (fun c_866 => ?_)
                      · replace c_866 := (I_eq (a := w0q841) (b := 0) rw0q841 (show rng 0 from ⟨by decide, by decide⟩)).mp c_866
                        refine lv_iconst (v := I 0) hx hb dX11_little_301 (by decide) ?_
                        refine lv_icmp_ne (tgt := 352) hx hb dX11_little_302 (by decide) (fun c_867 => ?_) (fun c_867 => ?_)
                        · replace c_867 := mt (I_eq (a := z_865) (b := 0) rz_865 (show rng 0 from ⟨by decide, by decide⟩)).mpr c_867
                          refine lv_iconst (v := I 0) hx hb dX11_little_352 (by decide) ?_
                          exact th_zret hx hb hr hlocks hH hS (z := 0) (by omega) ⟨hO, hF, hM, ⟨by omega, by omega⟩, ⟨by omega, K_861_1.is (by first | (dsimp only; omega) | omega) (by first | (dsimp only; omega) | omega) (by first | (dsimp only; omega) | omega) (by first | (dsimp only; omega) | omega)⟩⟩ dX11_little_353
                        · replace c_867 := (I_eq (a := z_865) (b := 0) rz_865 (show rng 0 from ⟨by decide, by decide⟩)).mp c_867
                          refine lv_iload_n hx hb dX11_little_305 rfl (lv_at hl 3 rfl) ?_
                          refine lv_iload hx hb dX11_little_306 (lv_at hl 4 rfl) ?_
                          refine lv_if_eq (tgt := 329) hx hb dX11_little_308 (by decide) (fun c_868 => ?_) (fun c_868 => ?_)
                          · replace c_868 := (I_eq (a := w0q841) (b := 0) rw0q841 (show rng 0 from ⟨by decide, by decide⟩)).mp c_868
                            refine lv_aload_n hx hb dX11_little_329 rfl (lv_at hl 1 rfl) ?_
                            refine ok.getR hO h_a (by decide) k13_1 (by decide) (fun _ _ he hv kk => th_get (ci := 11) (C := RX11) (T := TX11) (N := 66) hx hb hts inX11 hown hK hH he rfl 1 (by decide) fl3 hv dX11_little_330 kk) ?_
                            refine lv_iconst (v := I 4) hx hb dX11_little_333 (by decide) ?_
                            refine lv_iload_n hx hb dX11_little_334 rfl (lv_at hl 2 rfl) ?_
                            refine lv_imul hx hb dX11_little_335 ?_
                            refine nq_top (I_mul _ _) ?_
                            refine lv_iconst (v := I 1) hx hb dX11_little_336 (by decide) ?_
                            refine lv_iadd hx hb dX11_little_337 ?_
                            refine nq_top (I_add _ _) ?_
                            refine m_iald hx hb hK hH hO h_a k13_1 isA1 K_861_5 ⟨by omega, by omega⟩ (by omega) (by omega) dX11_little_338 (fun z_869 ez_869 rz_869 elx9 => ?_)
                            refine lv_iload hx hb dX11_little_339 (lv_at hl 0 rfl) ?_
                            refine lv_isub hx hb dX11_little_341 ?_
                            refine th_subo (fun z_870 rz_870 hz_870 => ?_)
                            refine th_calli (va_runS (As := [.int (I z_829), .int (I z_870)]) (rest := []) ⟨hx, hb, hml, hown, hts⟩ (w_isSigned l G y b0 σ_K_861 E hO z_829 (show rng z_829 from rz_829) z_870 (show rng z_870 from rz_870)) (va_cwS 2 hts gX11_little_X11_isSigned rfl rfl rfl (by decide +kernel) ⟨Nat.le_of_ble_eq_true rfl, Nat.le_of_ble_eq_true rfl⟩) (th_PS hK hH) rfl rfl hl.1 rfl (lv_room (Nat.le_of_ble_eq_true rfl)) dX11_little_342 ⟨Nat.le_of_ble_eq_true rfl, Nat.le_of_ble_eq_true rfl⟩) hS (fun z_873 σ_s_872 H locs rz_873 hw_871 hH hS => ?_)
                            obtain ⟨e9, bhw_871, hw_871⟩ := hw_871
                            replace e9 := e9.symm
                            subst e9
                            refine lv_if_eq (tgt := 352) hx hb dX11_little_345 (by decide) (fun c_874 => ?_) (fun c_874 => ?_)
                            · replace c_874 := (I_eq (a := z_873) (b := 0) rz_873 (show rng 0 from ⟨by decide, by decide⟩)).mp c_874
                              refine lv_iconst (v := I 0) hx hb dX11_little_352 (by decide) ?_
                              exact th_zret hx hb hr hlocks hH hS (z := 0) (by omega) ⟨hO, hF, hM, ⟨by omega, by omega⟩, ⟨by omega, K_861_1.is (by first | (dsimp only; omega) | omega) (by first | (dsimp only; omega) | omega) (by first | (dsimp only; omega) | omega) (by first | (dsimp only; omega) | omega)⟩⟩ dX11_little_353
                            · replace c_874 := mt (I_eq (a := z_873) (b := 0) rz_873 (show rng 0 from ⟨by decide, by decide⟩)).mpr c_874
                              refine lv_iconst (v := I 1) hx hb dX11_little_348 (by decide) ?_
                              refine lv_goto (tgt := 353) hx hb dX11_little_349 (by decide) ?_
                              exact th_zret hx hb hr hlocks hH hS (z := 1) (by omega) ⟨hO, hF, hM, ⟨by omega, by omega⟩, ⟨by omega, K_861_1.is (by first | (dsimp only; omega) | omega) (by first | (dsimp only; omega) | omega) (by first | (dsimp only; omega) | omega) (by first | (dsimp only; omega) | omega)⟩⟩ dX11_little_353
                          · replace c_868 := mt (I_eq (a := w0q841) (b := 0) rw0q841 (show rng 0 from ⟨by decide, by decide⟩)).mpr c_868
                            refine lv_aload_n hx hb dX11_little_311 rfl (lv_at hl 1 rfl) ?_
                            refine ok.getR hO h_a (by decide) k13_1 (by decide) (fun _ _ he hv kk => th_get (ci := 11) (C := RX11) (T := TX11) (N := 66) hx hb hts inX11 hown hK hH he rfl 1 (by decide) fl3 hv dX11_little_312 kk) ?_
                            refine lv_iconst (v := I 4) hx hb dX11_little_315 (by decide) ?_
                            refine lv_iload_n hx hb dX11_little_316 rfl (lv_at hl 2 rfl) ?_
                            refine lv_imul hx hb dX11_little_317 ?_
                            refine nq_top (I_mul _ _) ?_
                            refine lv_iconst (v := I 1) hx hb dX11_little_318 (by decide) ?_
                            refine lv_iadd hx hb dX11_little_319 ?_
                            refine nq_top (I_add _ _) ?_
                            refine m_iald hx hb hK hH hO h_a k13_1 isA1 K_861_5 ⟨by omega, by omega⟩ (by omega) (by omega) dX11_little_320 (fun z_875 ez_875 rz_875 elx9 => ?_)
                            refine lv_iload hx hb dX11_little_321 (lv_at hl 0 rfl) ?_
                            refine th_calli (va_runS (As := [.int (I z_875), .int (I w0q860)]) (rest := [.int (I z_829)]) ⟨hx, hb, hml, hown, hts⟩ (w_compareWords l G y b0 σ_K_861 E hO z_875 (show rng z_875 from rz_875) w0q860 (show rng w0q860 from rw0q860)) (va_cwS 2 hts gX11_little_X11_compareWords rfl rfl rfl (by decide +kernel) ⟨Nat.le_of_ble_eq_true rfl, Nat.le_of_ble_eq_true rfl⟩) (th_PS hK hH) rfl rfl hl.1 rfl (lv_room (Nat.le_of_ble_eq_true rfl)) dX11_little_323 ⟨Nat.le_of_ble_eq_true rfl, Nat.le_of_ble_eq_true rfl⟩) hS (fun z_878 σ_s_877 H locs rz_878 hw_876 hH hS => ?_)
                            obtain ⟨e9, hw_876⟩ := hw_876
                            replace e9 := e9.symm
                            subst e9
                            refine lv_goto (tgt := 342) hx hb dX11_little_326 (by decide) ?_
                            refine th_calli (va_runS (As := [.int (I z_829), .int (I z_878)]) (rest := []) ⟨hx, hb, hml, hown, hts⟩ (w_isSigned l G y b0 σ_K_861 E hO z_829 (show rng z_829 from rz_829) z_878 (show rng z_878 from rz_878)) (va_cwS 2 hts gX11_little_X11_isSigned rfl rfl rfl (by decide +kernel) ⟨Nat.le_of_ble_eq_true rfl, Nat.le_of_ble_eq_true rfl⟩) (th_PS hK hH) rfl rfl hl.1 rfl (lv_room (Nat.le_of_ble_eq_true rfl)) dX11_little_342 ⟨Nat.le_of_ble_eq_true rfl, Nat.le_of_ble_eq_true rfl⟩) hS (fun z_881 σ_s_880 H locs rz_881 hw_879 hH hS => ?_)
                            obtain ⟨e9, bhw_879, hw_879⟩ := hw_879
                            replace e9 := e9.symm
                            subst e9
                            refine lv_if_eq (tgt := 352) hx hb dX11_little_345 (by decide) (fun c_882 => ?_) (fun c_882 => ?_)
                            · replace c_882 := (I_eq (a := z_881) (b := 0) rz_881 (show rng 0 from ⟨by decide, by decide⟩)).mp c_882
                              refine lv_iconst (v := I 0) hx hb dX11_little_352 (by decide) ?_
                              exact th_zret hx hb hr hlocks hH hS (z := 0) (by omega) ⟨hO, hF, hM, ⟨by omega, by omega⟩, ⟨by omega, K_861_1.is (by first | (dsimp only; omega) | omega) (by first | (dsimp only; omega) | omega) (by first | (dsimp only; omega) | omega) (by first | (dsimp only; omega) | omega)⟩⟩ dX11_little_353
                            · replace c_882 := mt (I_eq (a := z_881) (b := 0) rz_881 (show rng 0 from ⟨by decide, by decide⟩)).mpr c_882
                              refine lv_iconst (v := I 1) hx hb dX11_little_348 (by decide) ?_
                              refine lv_goto (tgt := 353) hx hb dX11_little_349 (by decide) ?_
                              exact th_zret hx hb hr hlocks hH hS (z := 1) (by omega) ⟨hO, hF, hM, ⟨by omega, by omega⟩, ⟨by omega, K_861_1.is (by first | (dsimp only; omega) | omega) (by first | (dsimp only; omega) | omega) (by first | (dsimp only; omega) | omega) (by first | (dsimp only; omega) | omega)⟩⟩ dX11_little_353
                      · replace c_866 := mt (I_eq (a := w0q841) (b := 0) rw0q841 (show rng 0 from ⟨by decide, by decide⟩)).mpr c_866
                        refine lv_iconst (v := I 1) hx hb dX11_little_297 (by decide) ?_
                        refine lv_goto (tgt := 302) hx hb dX11_little_298 (by decide) ?_
                        refine lv_icmp_ne (tgt := 352) hx hb dX11_little_302 (by decide) (fun c_883 => ?_) (fun c_883 => ?_)
                        · replace c_883 := mt (I_eq (a := z_865) (b := 1) rz_865 (show rng 1 from ⟨by decide, by decide⟩)).mpr c_883
                          refine lv_iconst (v := I 0) hx hb dX11_little_352 (by decide) ?_
                          exact th_zret hx hb hr hlocks hH hS (z := 0) (by omega) ⟨hO, hF, hM, ⟨by omega, by omega⟩, ⟨by omega, K_861_1.is (by first | (dsimp only; omega) | omega) (by first | (dsimp only; omega) | omega) (by first | (dsimp only; omega) | omega) (by first | (dsimp only; omega) | omega)⟩⟩ dX11_little_353
                        · replace c_883 := (I_eq (a := z_865) (b := 1) rz_865 (show rng 1 from ⟨by decide, by decide⟩)).mp c_883
                          refine lv_iload_n hx hb dX11_little_305 rfl (lv_at hl 3 rfl) ?_
                          refine lv_iload hx hb dX11_little_306 (lv_at hl 4 rfl) ?_
                          refine lv_if_eq (tgt := 329) hx hb dX11_little_308 (by decide) (fun c_884 => ?_) (fun c_884 => ?_)
                          · replace c_884 := (I_eq (a := w0q841) (b := 0) rw0q841 (show rng 0 from ⟨by decide, by decide⟩)).mp c_884
                            refine lv_aload_n hx hb dX11_little_329 rfl (lv_at hl 1 rfl) ?_
                            refine ok.getR hO h_a (by decide) k13_1 (by decide) (fun _ _ he hv kk => th_get (ci := 11) (C := RX11) (T := TX11) (N := 66) hx hb hts inX11 hown hK hH he rfl 1 (by decide) fl3 hv dX11_little_330 kk) ?_
                            refine lv_iconst (v := I 4) hx hb dX11_little_333 (by decide) ?_
                            refine lv_iload_n hx hb dX11_little_334 rfl (lv_at hl 2 rfl) ?_
                            refine lv_imul hx hb dX11_little_335 ?_
                            refine nq_top (I_mul _ _) ?_
                            refine lv_iconst (v := I 1) hx hb dX11_little_336 (by decide) ?_
                            refine lv_iadd hx hb dX11_little_337 ?_
                            refine nq_top (I_add _ _) ?_
                            refine m_iald hx hb hK hH hO h_a k13_1 isA1 K_861_5 ⟨by omega, by omega⟩ (by omega) (by omega) dX11_little_338 (fun z_885 ez_885 rz_885 elx9 => ?_)
                            refine lv_iload hx hb dX11_little_339 (lv_at hl 0 rfl) ?_
                            refine lv_isub hx hb dX11_little_341 ?_
                            refine th_subo (fun z_886 rz_886 hz_886 => ?_)
                            refine th_calli (va_runS (As := [.int (I z_829), .int (I z_886)]) (rest := []) ⟨hx, hb, hml, hown, hts⟩ (w_isSigned l G y b0 σ_K_861 E hO z_829 (show rng z_829 from rz_829) z_886 (show rng z_886 from rz_886)) (va_cwS 2 hts gX11_little_X11_isSigned rfl rfl rfl (by decide +kernel) ⟨Nat.le_of_ble_eq_true rfl, Nat.le_of_ble_eq_true rfl⟩) (th_PS hK hH) rfl rfl hl.1 rfl (lv_room (Nat.le_of_ble_eq_true rfl)) dX11_little_342 ⟨Nat.le_of_ble_eq_true rfl, Nat.le_of_ble_eq_true rfl⟩) hS (fun z_889 σ_s_888 H locs rz_889 hw_887 hH hS => ?_)
                            obtain ⟨e9, bhw_887, hw_887⟩ := hw_887
                            replace e9 := e9.symm
                            subst e9
                            refine lv_if_eq (tgt := 352) hx hb dX11_little_345 (by decide) (fun c_890 => ?_) (fun c_890 => ?_)
                            · replace c_890 := (I_eq (a := z_889) (b := 0) rz_889 (show rng 0 from ⟨by decide, by decide⟩)).mp c_890
                              refine lv_iconst (v := I 0) hx hb dX11_little_352 (by decide) ?_
                              exact th_zret hx hb hr hlocks hH hS (z := 0) (by omega) ⟨hO, hF, hM, ⟨by omega, by omega⟩, ⟨by omega, K_861_1.is (by first | (dsimp only; omega) | omega) (by first | (dsimp only; omega) | omega) (by first | (dsimp only; omega) | omega) (by first | (dsimp only; omega) | omega)⟩⟩ dX11_little_353
                            · replace c_890 := mt (I_eq (a := z_889) (b := 0) rz_889 (show rng 0 from ⟨by decide, by decide⟩)).mpr c_890
                              refine lv_iconst (v := I 1) hx hb dX11_little_348 (by decide) ?_
                              refine lv_goto (tgt := 353) hx hb dX11_little_349 (by decide) ?_
                              exact th_zret hx hb hr hlocks hH hS (z := 1) (by omega) ⟨hO, hF, hM, ⟨by omega, by omega⟩, ⟨by omega, K_861_1.is (by first | (dsimp only; omega) | omega) (by first | (dsimp only; omega) | omega) (by first | (dsimp only; omega) | omega) (by first | (dsimp only; omega) | omega)⟩⟩ dX11_little_353
                          · replace c_884 := mt (I_eq (a := w0q841) (b := 0) rw0q841 (show rng 0 from ⟨by decide, by decide⟩)).mpr c_884
                            refine lv_aload_n hx hb dX11_little_311 rfl (lv_at hl 1 rfl) ?_
                            refine ok.getR hO h_a (by decide) k13_1 (by decide) (fun _ _ he hv kk => th_get (ci := 11) (C := RX11) (T := TX11) (N := 66) hx hb hts inX11 hown hK hH he rfl 1 (by decide) fl3 hv dX11_little_312 kk) ?_
                            refine lv_iconst (v := I 4) hx hb dX11_little_315 (by decide) ?_
                            refine lv_iload_n hx hb dX11_little_316 rfl (lv_at hl 2 rfl) ?_
                            refine lv_imul hx hb dX11_little_317 ?_
                            refine nq_top (I_mul _ _) ?_
                            refine lv_iconst (v := I 1) hx hb dX11_little_318 (by decide) ?_
                            refine lv_iadd hx hb dX11_little_319 ?_
                            refine nq_top (I_add _ _) ?_
                            refine m_iald hx hb hK hH hO h_a k13_1 isA1 K_861_5 ⟨by omega, by omega⟩ (by omega) (by omega) dX11_little_320 (fun z_891 ez_891 rz_891 elx9 => ?_)
                            refine lv_iload hx hb dX11_little_321 (lv_at hl 0 rfl) ?_
                            refine th_calli (va_runS (As := [.int (I z_891), .int (I w0q860)]) (rest := [.int (I z_829)]) ⟨hx, hb, hml, hown, hts⟩ (w_compareWords l G y b0 σ_K_861 E hO z_891 (show rng z_891 from rz_891) w0q860 (show rng w0q860 from rw0q860)) (va_cwS 2 hts gX11_little_X11_compareWords rfl rfl rfl (by decide +kernel) ⟨Nat.le_of_ble_eq_true rfl, Nat.le_of_ble_eq_true rfl⟩) (th_PS hK hH) rfl rfl hl.1 rfl (lv_room (Nat.le_of_ble_eq_true rfl)) dX11_little_323 ⟨Nat.le_of_ble_eq_true rfl, Nat.le_of_ble_eq_true rfl⟩) hS (fun z_894 σ_s_893 H locs rz_894 hw_892 hH hS => ?_)
                            obtain ⟨e9, hw_892⟩ := hw_892
                            replace e9 := e9.symm
                            subst e9
                            refine lv_goto (tgt := 342) hx hb dX11_little_326 (by decide) ?_
                            refine th_calli (va_runS (As := [.int (I z_829), .int (I z_894)]) (rest := []) ⟨hx, hb, hml, hown, hts⟩ (w_isSigned l G y b0 σ_K_861 E hO z_829 (show rng z_829 from rz_829) z_894 (show rng z_894 from rz_894)) (va_cwS 2 hts gX11_little_X11_isSigned rfl rfl rfl (by decide +kernel) ⟨Nat.le_of_ble_eq_true rfl, Nat.le_of_ble_eq_true rfl⟩) (th_PS hK hH) rfl rfl hl.1 rfl (lv_room (Nat.le_of_ble_eq_true rfl)) dX11_little_342 ⟨Nat.le_of_ble_eq_true rfl, Nat.le_of_ble_eq_true rfl⟩) hS (fun z_897 σ_s_896 H locs rz_897 hw_895 hH hS => ?_)
                            obtain ⟨e9, bhw_895, hw_895⟩ := hw_895
                            replace e9 := e9.symm
                            subst e9
                            refine lv_if_eq (tgt := 352) hx hb dX11_little_345 (by decide) (fun c_898 => ?_) (fun c_898 => ?_)
                            · replace c_898 := (I_eq (a := z_897) (b := 0) rz_897 (show rng 0 from ⟨by decide, by decide⟩)).mp c_898
                              refine lv_iconst (v := I 0) hx hb dX11_little_352 (by decide) ?_
                              exact th_zret hx hb hr hlocks hH hS (z := 0) (by omega) ⟨hO, hF, hM, ⟨by omega, by omega⟩, ⟨by omega, K_861_1.is (by first | (dsimp only; omega) | omega) (by first | (dsimp only; omega) | omega) (by first | (dsimp only; omega) | omega) (by first | (dsimp only; omega) | omega)⟩⟩ dX11_little_353
                            · replace c_898 := mt (I_eq (a := z_897) (b := 0) rz_897 (show rng 0 from ⟨by decide, by decide⟩)).mpr c_898
                              refine lv_iconst (v := I 1) hx hb dX11_little_348 (by decide) ?_
                              refine lv_goto (tgt := 353) hx hb dX11_little_349 (by decide) ?_
                              exact th_zret hx hb hr hlocks hH hS (z := 1) (by omega) ⟨hO, hF, hM, ⟨by omega, by omega⟩, ⟨by omega, K_861_1.is (by first | (dsimp only; omega) | omega) (by first | (dsimp only; omega) | omega) (by first | (dsimp only; omega) | omega) (by first | (dsimp only; omega) | omega)⟩⟩ dX11_little_353
                  · refine lv_if_eq (tgt := 273) hx hb dX11_little_263 (by decide) (fun c_899 => ?_) (fun c_899 => ?_)
                    · replace c_899 := (I_eq (a := w0q841) (b := 0) rw0q841 (show rng 0 from ⟨by decide, by decide⟩)).mp c_899
                      refine lv_aload_n hx hb dX11_little_273 rfl (lv_at hl 1 rfl) ?_
                      obtain ⟨_, hc_900⟩ := hO.cell h_a (by decide) (ci := 11) rfl
                      refine th_calli (va_runV (As := []) (rest := []) ⟨hx, hb, hml, hown, hts⟩ (m_readNumber l G y b0 σ_s_832 E hO a h_a Bf hsr (by omega)) (cwV 0 hts gX11_little_X11_readNumber rfl rfl rfl (by decide +kernel) ⟨Nat.le_of_ble_eq_true rfl, Nat.le_of_ble_eq_true rfl⟩) (th_PV hK hH rfl hc_900) rfl rfl hl.1 rfl (lv_room (Nat.le_of_ble_eq_true rfl)) dX11_little_274 ⟨Nat.le_of_ble_eq_true rfl, Nat.le_of_ble_eq_true rfl⟩) hS (fun z_903 σ_s_902 H locs rz_903 hw_901 hH hS => ?_)
                      obtain ⟨hO9, hF9, hM9, hw_901⟩ := hw_901
                      replace hM := hM.tu hM9 (by decide)
                      replace hF := hF.tu hF9 (by decide)
                      have e_904 : gI σ_s_902 a 11 = a110 := (hM9.i (by decide)).trans e_833
                      have e_905 : gI σ_s_902 a 30 = a300 := (hM9.i (by decide)).trans e_834
                      have e_906 : gI σ_s_902 a 27 = z_41 := (hM9.i (by decide)).trans e_835
                      have e_907 : aF σ_s_902 (ad E a 1) = f1 := (hM9.a (by decide) (by decide)).trans e_836
                      replace hsr := hsr.mv hM9 (by decide) (by decide) (by decide) (by decide) (by decide)
                      replace hO := hO9
                      have hw_901 : (gI σ_s_832 a 13 ≤ gI σ_s_902 a 13 ∧ gI σ_s_902 a 13 ≤ gI σ_s_832 a 11 ∧ 0 ≤ gI σ_s_902 a 17 ∧ gI σ_s_902 a 17 ≤ gI σ_s_902 a 13) ∧ pgo (gI σ_s_902 a 19) (gI σ_s_902 a 14) (gI σ_s_832 a 13) (gI σ_s_902 a 13) ∧ bdo (gI σ_s_832 a 19) (gI σ_s_902 a 19) := hw_901
                      exact jK_861 (z_903) σ_s_902 _ _ _ ⟨hO, hF, hM, hsr, hH, hS, lv_sub hl [1, 2, 3, 0] rfl, rz_903, by first | (dsimp only; omega) | omega, (hw_901.2.1.is (by first | (dsimp only; omega) | omega) (by first | (dsimp only; omega) | omega) (by first | (dsimp only; omega) | omega) (by first | (dsimp only; omega) | omega)), e_904, e_905, e_906, e_907⟩
                    · replace c_899 := mt (I_eq (a := w0q841) (b := 0) rw0q841 (show rng 0 from ⟨by decide, by decide⟩)).mpr c_899
                      refine lv_aload_n hx hb dX11_little_266 rfl (lv_at hl 1 rfl) ?_
                      obtain ⟨_, hc_908⟩ := hO.cell h_a (by decide) (ci := 11) rfl
                      refine th_calli (va_runV (As := []) (rest := []) ⟨hx, hb, hml, hown, hts⟩ (m_readWord l G y b0 σ_s_832 E hO a h_a Bf hsr (by omega)) (cwV 0 hts gX11_little_X11_readWord rfl rfl rfl (by decide +kernel) ⟨Nat.le_of_ble_eq_true rfl, Nat.le_of_ble_eq_true rfl⟩) (th_PV hK hH rfl hc_908) rfl rfl hl.1 rfl (lv_room (Nat.le_of_ble_eq_true rfl)) dX11_little_267 ⟨Nat.le_of_ble_eq_true rfl, Nat.le_of_ble_eq_true rfl⟩) hS (fun z_911 σ_s_910 H locs rz_911 hw_909 hH hS => ?_)
                      obtain ⟨hO9, hF9, hM9, hw_909⟩ := hw_909
                      replace hM := hM.tu hM9 (by decide)
                      replace hF := hF.tu hF9 (by decide)
                      have e_912 : gI σ_s_910 a 11 = a110 := (hM9.i (by decide)).trans e_833
                      have e_913 : gI σ_s_910 a 30 = a300 := (hM9.i (by decide)).trans e_834
                      have e_914 : gI σ_s_910 a 27 = z_41 := (hM9.i (by decide)).trans e_835
                      have e_915 : aF σ_s_910 (ad E a 1) = f1 := (hM9.a (by decide) (by decide)).trans e_836
                      replace hsr := hsr.mv hM9 (by decide) (by decide) (by decide) (by decide) (by decide)
                      replace hO := hO9
                      have hw_909 : (gI σ_s_832 a 13 ≤ gI σ_s_910 a 13 ∧ gI σ_s_910 a 13 ≤ gI σ_s_832 a 11 ∧ 0 ≤ gI σ_s_910 a 17 ∧ gI σ_s_910 a 17 ≤ gI σ_s_910 a 13) ∧ pgo (gI σ_s_910 a 19) (gI σ_s_910 a 14) (gI σ_s_832 a 13) (gI σ_s_910 a 13) ∧ bdo (gI σ_s_832 a 19) (gI σ_s_910 a 19) := hw_909
                      refine lv_goto (tgt := 277) hx hb dX11_little_270 (by decide) ?_
                      exact jK_861 (z_911) σ_s_910 _ _ _ ⟨hO, hF, hM, hsr, hH, hS, lv_sub hl [1, 2, 3, 0] rfl, rz_911, by first | (dsimp only; omega) | omega, (hw_909.2.1.is (by first | (dsimp only; omega) | omega) (by first | (dsimp only; omega) | omega) (by first | (dsimp only; omega) | omega) (by first | (dsimp only; omega) | omega)), e_912, e_913, e_914, e_915⟩
                · refine lv_icmp_ne (tgt := 258) hx hb dX11_little_251 (by decide) (fun c_916 => ?_) (fun c_916 => ?_)
                  · replace c_916 := mt (I_eq (a := z_838) (b := 1) rz_838 (show rng 1 from ⟨by decide, by decide⟩)).mpr c_916
                    refine lv_iconst (v := I 0) hx hb dX11_little_258 (by decide) ?_
                    replace hl : lv_has ls 6 [(3, .int (I z_829)), (0, .ref a), (1, .int (I v1q552))] := lv_sub hl [0, 2, 3] rfl
                    exact jK_842 (0) σ_s_832 _ _ _ ⟨rfl, hH, hS, lv_sub hl [1, 2, 0] rfl, (show rng 0 from ⟨by decide, by decide⟩), by first | (dsimp only; omega) | omega⟩
                  · replace c_916 := (I_eq (a := z_838) (b := 1) rz_838 (show rng 1 from ⟨by decide, by decide⟩)).mp c_916
                    refine lv_iconst (v := I 1) hx hb dX11_little_254 (by decide) ?_
                    refine lv_goto (tgt := 259) hx hb dX11_little_255 (by decide) ?_
                    replace hl : lv_has ls 6 [(3, .int (I z_829)), (0, .ref a), (1, .int (I v1q552))] := lv_sub hl [0, 2, 3] rfl
                    exact jK_842 (1) σ_s_832 _ _ _ ⟨rfl, hH, hS, lv_sub hl [1, 2, 0] rfl, (show rng 1 from ⟨by decide, by decide⟩), by first | (dsimp only; omega) | omega⟩
              · replace c_823 := (I_eq (a := w0q821) (b := 0) rw0q821 (show rng 0 from ⟨by decide, by decide⟩)).mp c_823
                refine lv_iload_n hx hb dX11_little_222 rfl (lv_at hl 2 rfl) ?_
                refine lv_iconst (v := I (-1)) hx hb dX11_little_223 (by decide) ?_
                refine lv_icmp_eq (tgt := 231) hx hb dX11_little_224 (by decide) (fun c_917 => ?_) (fun c_917 => ?_)
                · replace c_917 := (I_eq (a := v1q552) (b := (-1)) rv1q552 (show rng (-1) from ⟨by decide, by decide⟩)).mp c_917
                  refine lv_iconst (v := I 0) hx hb dX11_little_231 (by decide) ?_
                  exact th_zret hx hb hr hlocks hH hS (z := 0) (by omega) ⟨hO, hF, hM, ⟨by omega, by omega⟩, ⟨by omega, J_553_7.is (by first | (dsimp only; omega) | omega) (by first | (dsimp only; omega) | omega) (by first | (dsimp only; omega) | omega) (by first | (dsimp only; omega) | omega)⟩⟩ dX11_little_232
                · replace c_917 := mt (I_eq (a := v1q552) (b := (-1)) rv1q552 (show rng (-1) from ⟨by decide, by decide⟩)).mpr c_917
                  refine lv_iconst (v := I 1) hx hb dX11_little_227 (by decide) ?_
                  refine lv_goto (tgt := 232) hx hb dX11_little_228 (by decide) ?_
                  exact th_zret hx hb hr hlocks hH hS (z := 1) (by omega) ⟨hO, hF, hM, ⟨by omega, by omega⟩, ⟨by omega, J_553_7.is (by first | (dsimp only; omega) | omega) (by first | (dsimp only; omega) | omega) (by first | (dsimp only; omega) | omega) (by first | (dsimp only; omega) | omega)⟩⟩ dX11_little_232
            · refine lv_if_ne (tgt := 212) hx hb dX11_little_191 (by decide) (fun c_918 => ?_) (fun c_918 => ?_)
              · replace c_918 := mt (I_eq (a := z_809) (b := 0) rz_809 (show rng 0 from ⟨by decide, by decide⟩)).mpr c_918
                refine lv_iconst (v := I 1) hx hb dX11_little_212 (by decide) ?_
                refine lv_goto (tgt := 217) hx hb dX11_little_213 (by decide) ?_
                exact jK_822 (1) σ_J_553 _ _ _ ⟨rfl, hH, hS, lv_sub hl [0, 1] rfl, (show rng 1 from ⟨by decide, by decide⟩), by first | (dsimp only; omega) | omega⟩
              · replace c_918 := (I_eq (a := z_809) (b := 0) rz_809 (show rng 0 from ⟨by decide, by decide⟩)).mp c_918
                refine lv_aload_n hx hb dX11_little_194 rfl (lv_at hl 0 rfl) ?_
                refine lv_bipush (v := I 60) hx hb dX11_little_195 (by decide) ?_
                obtain ⟨_, hc_919⟩ := hO.cell h_a (by decide) (ci := 11) rfl
                refine th_calli (va_runV (As := [.int (I 60)]) (rest := []) ⟨hx, hb, hml, hown, hts⟩ (m_isMarked l G y b0 σ_J_553 E hO a h_a 60 (show rng 60 from (show rng 60 from ⟨by decide, by decide⟩)) Bf hsr (by omega)) (cwV 1 hts gX11_little_X11_isMarked rfl rfl rfl (by decide +kernel) ⟨Nat.le_of_ble_eq_true rfl, Nat.le_of_ble_eq_true rfl⟩) (th_PV hK hH rfl hc_919) rfl rfl hl.1 rfl (lv_room (Nat.le_of_ble_eq_true rfl)) dX11_little_197 ⟨Nat.le_of_ble_eq_true rfl, Nat.le_of_ble_eq_true rfl⟩) hS (fun z_922 σ_s_921 H locs rz_922 hw_920 hH hS => ?_)
                obtain ⟨e9, bhw_920, hw_920⟩ := hw_920
                replace e9 := e9.symm
                subst e9
                have hw_920 : z_922 = 0 ∨ (z_922 = 1 ∧ gI σ_J_553 a 19 = 0 ∧ gI σ_J_553 a 14 = 3 ∧ Bf (gI σ_J_553 a 17) = 60) := hw_920
                refine lv_if_ne (tgt := 212) hx hb dX11_little_200 (by decide) (fun c_923 => ?_) (fun c_923 => ?_)
                · replace c_923 := mt (I_eq (a := z_922) (b := 0) rz_922 (show rng 0 from ⟨by decide, by decide⟩)).mpr c_923
                  replace hw_920 := (hw_920.resolve_left c_923).2
                  refine lv_iconst (v := I 1) hx hb dX11_little_212 (by decide) ?_
                  refine lv_goto (tgt := 217) hx hb dX11_little_213 (by decide) ?_
                  exact jK_822 (1) σ_J_553 _ _ _ ⟨rfl, hH, hS, lv_sub hl [0, 1] rfl, (show rng 1 from ⟨by decide, by decide⟩), by first | (dsimp only; omega) | omega⟩
                · replace c_923 := (I_eq (a := z_922) (b := 0) rz_922 (show rng 0 from ⟨by decide, by decide⟩)).mp c_923
                  clear hw_920
                  refine lv_aload_n hx hb dX11_little_203 rfl (lv_at hl 0 rfl) ?_
                  refine lv_bipush (v := I 62) hx hb dX11_little_204 (by decide) ?_
                  obtain ⟨_, hc_924⟩ := hO.cell h_a (by decide) (ci := 11) rfl
                  refine th_calli (va_runV (As := [.int (I 62)]) (rest := []) ⟨hx, hb, hml, hown, hts⟩ (m_isMarked l G y b0 σ_J_553 E hO a h_a 62 (show rng 62 from (show rng 62 from ⟨by decide, by decide⟩)) Bf hsr (by omega)) (cwV 1 hts gX11_little_X11_isMarked rfl rfl rfl (by decide +kernel) ⟨Nat.le_of_ble_eq_true rfl, Nat.le_of_ble_eq_true rfl⟩) (th_PV hK hH rfl hc_924) rfl rfl hl.1 rfl (lv_room (Nat.le_of_ble_eq_true rfl)) dX11_little_206 ⟨Nat.le_of_ble_eq_true rfl, Nat.le_of_ble_eq_true rfl⟩) hS (fun z_927 σ_s_926 H locs rz_927 hw_925 hH hS => ?_)
                  obtain ⟨e9, bhw_925, hw_925⟩ := hw_925
                  replace e9 := e9.symm
                  subst e9
                  have hw_925 : z_927 = 0 ∨ (z_927 = 1 ∧ gI σ_J_553 a 19 = 0 ∧ gI σ_J_553 a 14 = 3 ∧ Bf (gI σ_J_553 a 17) = 62) := hw_925
                  refine lv_if_eq (tgt := 216) hx hb dX11_little_209 (by decide) (fun c_928 => ?_) (fun c_928 => ?_)
                  · replace c_928 := (I_eq (a := z_927) (b := 0) rz_927 (show rng 0 from ⟨by decide, by decide⟩)).mp c_928
                    clear hw_925
                    refine lv_iconst (v := I 0) hx hb dX11_little_216 (by decide) ?_
                    exact jK_822 (0) σ_J_553 _ _ _ ⟨rfl, hH, hS, lv_sub hl [0, 1] rfl, (show rng 0 from ⟨by decide, by decide⟩), by first | (dsimp only; omega) | omega⟩
                  · replace c_928 := mt (I_eq (a := z_927) (b := 0) rz_927 (show rng 0 from ⟨by decide, by decide⟩)).mpr c_928
                    replace hw_925 := (hw_925.resolve_left c_928).2
                    refine lv_iconst (v := I 1) hx hb dX11_little_212 (by decide) ?_
                    refine lv_goto (tgt := 217) hx hb dX11_little_213 (by decide) ?_
                    exact jK_822 (1) σ_J_553 _ _ _ ⟨rfl, hH, hS, lv_sub hl [0, 1] rfl, (show rng 1 from ⟨by decide, by decide⟩), by first | (dsimp only; omega) | omega⟩
          · replace c_805 := mt (I_eq (a := z_804) (b := 0) rz_804 (show rng 0 from ⟨by decide, by decide⟩)).mpr c_805
            replace hw_802 := (hw_802.resolve_left c_805).2
            exact jK_688 () σ_J_553 _ _ _ ⟨rfl, hH, hS, lv_sub hl [0, 1] rfl, by first | (dsimp only; omega) | omega⟩
    · refine lv_if_ne (tgt := 42) hx hb dX11_little_18 (by decide) (fun c_929 => ?_) (fun c_929 => ?_)
      · replace c_929 := mt (I_eq (a := z_17) (b := 0) rz_17 (show rng 0 from ⟨by decide, by decide⟩)).mpr c_929
        exact jK_38 () σ_K_16 _ _ _ ⟨hO, hF, hM, hsr, hH, hS, lv_sub hl [0] rfl, by first | (dsimp only; omega) | omega, K_16_1, K_16_2, K_16_3, K_16_4, K_16_5, K_16_6⟩
      · replace c_929 := (I_eq (a := z_17) (b := 0) rz_17 (show rng 0 from ⟨by decide, by decide⟩)).mp c_929
        refine lv_aload_n hx hb dX11_little_21 rfl (lv_at hl 0 rfl) ?_
        refine ok.getI hO h_a (by decide) k13_27 (fun _ _ he hv kk => th_get (ci := 11) (C := RX11) (T := TX11) (N := 66) hx hb hts inX11 hown hK hH he rfl 27 (by decide) fl1 hv dX11_little_22 kk) (fun z_930 e_931 rz_930 lz_930 uz_930 => ?_)
        refine lv_bipush (v := I 12) hx hb dX11_little_25 (by decide) ?_
        refine lv_icmp_ne (tgt := 42) hx hb dX11_little_27 (by decide) (fun c_932 => ?_) (fun c_932 => ?_)
        · replace c_932 := mt (I_eq (a := z_930) (b := 12) rz_930 (show rng 12 from ⟨by decide, by decide⟩)).mpr c_932
          exact jK_38 () σ_K_16 _ _ _ ⟨hO, hF, hM, hsr, hH, hS, lv_sub hl [0] rfl, by first | (dsimp only; omega) | omega, K_16_1, K_16_2, K_16_3, K_16_4, K_16_5, K_16_6⟩
        · replace c_932 := (I_eq (a := z_930) (b := 12) rz_930 (show rng 12 from ⟨by decide, by decide⟩)).mp c_932
          refine lv_aload_n hx hb dX11_little_30 rfl (lv_at hl 0 rfl) ?_
          refine ok.getI hO h_a (by decide) k13_25 (fun _ _ he hv kk => th_get (ci := 11) (C := RX11) (T := TX11) (N := 66) hx hb hts inX11 hown hK hH he rfl 25 (by decide) fl6 hv dX11_little_31 kk) (fun z_933 e_934 rz_933 lz_933 uz_933 => ?_)
          refine lv_if_ne (tgt := 42) hx hb dX11_little_34 (by decide) (fun c_935 => ?_) (fun c_935 => ?_)
          · replace c_935 := mt (I_eq (a := z_933) (b := 0) rz_933 (show rng 0 from ⟨by decide, by decide⟩)).mpr c_935
            exact jK_38 () σ_K_16 _ _ _ ⟨hO, hF, hM, hsr, hH, hS, lv_sub hl [0] rfl, by first | (dsimp only; omega) | omega, K_16_1, K_16_2, K_16_3, K_16_4, K_16_5, K_16_6⟩
          · replace c_935 := (I_eq (a := z_933) (b := 0) rz_933 (show rng 0 from ⟨by decide, by decide⟩)).mp c_935
            refine lv_aload_n hx hb dX11_little_37 rfl (lv_at hl 0 rfl) ?_
            refine lv_iconst (v := I 2) hx hb dX11_little_38 (by decide) ?_
            obtain ⟨_, hc_936⟩ := hO.cell h_a (by decide) (ci := 11) rfl
            refine th_callv (va_runV (As := [.int (I 2)]) (rest := []) ⟨hx, hb, hml, hown, hts⟩ (m_wrong l G y b0 σ_K_16 E hO a h_a 2 (show rng 2 from (show rng 2 from ⟨by decide, by decide⟩)) (by omega) (by omega)) (cwV 1 hts gX11_little_X11_wrong rfl rfl rfl (by decide +kernel) ⟨Nat.le_of_ble_eq_true rfl, Nat.le_of_ble_eq_true rfl⟩) (th_PV hK hH rfl hc_936) rfl rfl hl.1 rfl (lv_room (Nat.le_of_ble_eq_true rfl)) dX11_little_39 ⟨Nat.le_of_ble_eq_true rfl, Nat.le_of_ble_eq_true rfl⟩) hS (fun σ_s_938 H locs hw_937 hH hS => ?_)
            obtain ⟨hO9, hF9, hM9, hw_937⟩ := hw_937
            replace hM := hM.tu hM9 (by decide)
            replace hF := hF.tu hF9 (by decide)
            have e_939 : gI σ_s_938 a 11 = a110 := (hM9.i (by decide)).trans K_16_1
            have e_940 : gI σ_s_938 a 13 = a130 := (hM9.i (by decide)).trans K_16_2
            have e_941 : gI σ_s_938 a 14 = a140 := (hM9.i (by decide)).trans K_16_3
            have e_942 : gI σ_s_938 a 17 = a170 := (hM9.i (by decide)).trans K_16_4
            have e_943 : gI σ_s_938 a 30 = a300 := (hM9.i (by decide)).trans K_16_5
            have e_944 : aF σ_s_938 (ad E a 1) = f1 := (hM9.a (by decide) (by decide)).trans K_16_6
            have e_945 : gI σ_s_938 a 27 = z_930 := (hM9.i (by decide)).trans e_931
            have e_946 : gI σ_s_938 a 25 = z_933 := (hM9.i (by decide)).trans e_934
            replace hsr := hsr.mv hM9 (by decide) (by decide) (by decide) (by decide) (by decide)
            replace hO := hO9
            have hw_937 : ¬ gI σ_s_938 a 19 = 0 ∧ (gI σ_K_16 a 19 = 0 ∨ gI σ_s_938 a 19 = gI σ_K_16 a 19) := hw_937
            exact jK_38 () σ_s_938 _ _ _ ⟨hO, hF, hM, hsr, hH, hS, lv_sub hl [0] rfl, by first | (dsimp only; omega) | omega, e_939, e_940, e_941, e_942, e_943, e_944⟩
  · refine lv_if_ne (tgt := 14) hx hb dX11_little_6 (by decide) (fun c_947 => ?_) (fun c_947 => ?_)
    · replace c_947 := mt (I_eq (a := z_4) (b := 0) rz_4 (show rng 0 from ⟨by decide, by decide⟩)).mpr c_947
      exact jK_16 () σ _ _ _ ⟨hO, hF, hM, hsr, hH, hS, lv_sub hl [0] rfl, by first | (dsimp only; omega) | omega, ea110, ea130, ea140, ea170, ea300, ef1⟩
    · replace c_947 := (I_eq (a := z_4) (b := 0) rz_4 (show rng 0 from ⟨by decide, by decide⟩)).mp c_947
      refine lv_aload_n hx hb dX11_little_9 rfl (lv_at hl 0 rfl) ?_
      refine lv_iconst (v := I 1) hx hb dX11_little_10 (by decide) ?_
      obtain ⟨_, hc_948⟩ := hO.cell h_a (by decide) (ci := 11) rfl
      refine th_callv (va_runV (As := [.int (I 1)]) (rest := []) ⟨hx, hb, hml, hown, hts⟩ (m_wrong l G y b0 σ E hO a h_a 1 (show rng 1 from (show rng 1 from ⟨by decide, by decide⟩)) (by omega) (by omega)) (cwV 1 hts gX11_little_X11_wrong rfl rfl rfl (by decide +kernel) ⟨Nat.le_of_ble_eq_true rfl, Nat.le_of_ble_eq_true rfl⟩) (th_PV hK hH rfl hc_948) rfl rfl hl.1 rfl (lv_room (Nat.le_of_ble_eq_true rfl)) dX11_little_11 ⟨Nat.le_of_ble_eq_true rfl, Nat.le_of_ble_eq_true rfl⟩) hS (fun σ_s_950 H locs hw_949 hH hS => ?_)
      obtain ⟨hO9, hF9, hM9, hw_949⟩ := hw_949
      replace hM := hM.tu hM9 (by decide)
      replace hF := hF.tu hF9 (by decide)
      have e_951 : aF σ_s_950 (ad E a 1) = f1 := (hM9.a (by decide) (by decide)).trans ef1
      have e_952 : gI σ_s_950 a 11 = a110 := (hM9.i (by decide)).trans ea110
      have e_953 : gI σ_s_950 a 13 = a130 := (hM9.i (by decide)).trans ea130
      have e_954 : gI σ_s_950 a 14 = a140 := (hM9.i (by decide)).trans ea140
      have e_955 : gI σ_s_950 a 17 = a170 := (hM9.i (by decide)).trans ea170
      have e_956 : gI σ_s_950 a 30 = a300 := (hM9.i (by decide)).trans ea300
      replace hsr := hsr.mv hM9 (by decide) (by decide) (by decide) (by decide) (by decide)
      replace hO := hO9
      have hw_949 : ¬ gI σ_s_950 a 19 = 0 ∧ (gI σ a 19 = 0 ∨ gI σ_s_950 a 19 = gI σ a 19) := hw_949
      exact jK_16 () σ_s_950 _ _ _ ⟨hO, hF, hM, hsr, hH, hS, lv_sub hl [0] rfl, by first | (dsimp only; omega) | omega, e_952, e_953, e_954, e_955, e_956, e_951⟩
