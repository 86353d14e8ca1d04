set_option maxHeartbeats 1000000 in
set_option maxRecDepth 100000 in
theorem m_readKey (l : Launch) (G : va_G) (y : Nat → ClassId) (b0 : Nat) (σ : th_M) (E : th_E) (hO : ok y E σ) (a : Nat) (h_a : kd E a = 13) (k : Int) (rk : rng k) (l_k : 0 ≤ k) (u_k : k ≤ 236) (f2 : Nat → Int32) (ef2 : aF σ (ad E a 2) = f2) (Bf : Int → Int) (hsr : sr E σ a Bf) (hy0 : 0 ≤ gI σ a 17 ∧ gI σ a 17 ≤ gI σ a 13 ∧ gI σ a 13 ≤ gI σ a 11 ∧ gI σ a 11 ≤ 400) (hy1 : k % 4 = 0) (hy2 : k / 4 + 1 ≤ gI σ a 22) (hy3 : wf f2 (k / 4 + 1) (gI σ a 22)) (hy4 : gI σ a 19 = 0) : Met l yX11_readKey wsX11_readKey ({ frames := 4, cells := 0, slots := 0, locals := 115 }) (th_P G y b0 σ [.ref a, .int (I k)]) (th_Qi G b0 (fun r σ1 => ok y E σ1 ∧ fr [13] E σ σ1 ∧ fm [13, 14, 15, 16, 17, 18, 19, 20] E σ σ1 a ∧ (((gI σ a 13 ≤ gI σ1 a 13 ∧ gI σ1 a 13 ≤ gI σ a 11 ∧ 0 ≤ gI σ1 a 17 ∧ gI σ1 a 17 ≤ gI σ1 a 13) ∧ pgo (gI σ1 a 19) (gI σ1 a 14) (gI σ a 13) (gI σ1 a 13)) ∧ bdo (gI σ a 19) (gI σ1 a 19) ∧ (¬ gI σ1 a 19 = 0 ∨ nok f2 (k / 4 + 1) (gI σ a 22) r)))) 0 0 (th_A b0) := by
  refine Met.ofW (cc := cX11_readKey) (maxL := 4) (ret := (some .int)) (by decide) rfl ?_
  intro p e s m args below meth c s₁ B hml hv
  obtain ⟨rfl, hH, hK⟩ := hv
  have hx := B.exec
  have hb := B.bytes
  have hr := B.returns
  have hts := atoms_spec (ws := wsX11_readKey) B.pre
  have hown : s.vm.findClass RX11 = some m.cls := findClass_of_methodNamed B.named
  have hlocks := B.notSynchronized
  have h00 : b0 ≤ s.heap.size := hH.1
  have hS : va_S (th_A b0) s.heap s.heap [] := va_S.rf
  have hF : fr [13] E σ σ := fr.rf
  have hM : fm [13, 14, 15, 16, 17, 18, 19, 20] E σ σ a := fm.rf
  have inX11 : ∀ w ∈ wsX110, w ∈ wsX11_readKey := by decide +kernel
  have fl0 := hts (.fieldLink RX11 188 "NestQueryModel" "dataMany" "I") (by decide +kernel)
  have fl1 := hts (.fieldLink RX11 162 "NestQueryModel" "bad" "I") (by decide +kernel)
  have fl2 := hts (.fieldLink RX11 13 "NestQueryModel" "data" "[I") (by decide +kernel)
  have hl := lv_entry ([.ref a, .int (I k)]) (n := 4) (Nat.le_of_ble_eq_true rfl)
  rw [lg_entry_eq]
  generalize (lg_sl ([.ref a, .int (I k)]) ++ List.replicate (4 - (lg_sl ([.ref a, .int (I k)])).length) Slot.unset).toArray = ls at hl ⊢
  have hl : lv_has ls 4 [(0, .ref a), (1, .int (I k))] := hl
  obtain ⟨a110, ea110, ra110, la110, ua110⟩ := hO.gi h_a (by decide) k13_11
  obtain ⟨a130, ea130, ra130, la130, ua130⟩ := hO.gi h_a (by decide) k13_13
  obtain ⟨a140, ea140, ra140, la140, ua140⟩ := hO.gi h_a (by decide) k13_14
  obtain ⟨a170, ea170, ra170, la170, ua170⟩ := hO.gi h_a (by decide) k13_17
  obtain ⟨a190, ea190, ra190, la190, ua190⟩ := hO.gi h_a (by decide) k13_19
  obtain ⟨a220, ea220, ra220, la220, ua220⟩ := hO.gi h_a (by decide) k13_22
  refine lv_aload_n hx hb dX11_readKey_0 rfl (lv_at hl 0 rfl) ?_
  obtain ⟨_, hc_1⟩ := hO.cell h_a (by decide) (ci := 11) rfl
  refine th_calli (va_runV (As := []) (rest := []) ⟨hx, hb, hml, hown, hts⟩ (m_wordNow l G y b0 σ E hO a h_a) (cwV 0 hts gX11_readKey_X11_wordNow rfl rfl rfl (by decide +kernel) ⟨Nat.le_of_ble_eq_true rfl, Nat.le_of_ble_eq_true rfl⟩) (th_PV hK hH rfl hc_1) rfl rfl hl.1 rfl (lv_room (Nat.le_of_ble_eq_true rfl)) dX11_readKey_1 ⟨Nat.le_of_ble_eq_true rfl, Nat.le_of_ble_eq_true rfl⟩) hS (fun z_4 σ_s_3 H locs rz_4 hw_2 hH hS => ?_)
  obtain ⟨hO9, hF9, hM9, hw_2⟩ := hw_2
  replace hM := hM.tu hM9 (by decide)
  replace hF := hF.tu hF9 (by decide)
  have e_5 : aF σ_s_3 (ad E a 2) = f2 := (hM9.a (by decide) (by decide)).trans ef2
  have e_6 : gI σ_s_3 a 11 = a110 := (hM9.i (by decide)).trans ea110
  have e_7 : gI σ_s_3 a 13 = a130 := (hM9.i (by decide)).trans ea130
  have e_8 : gI σ_s_3 a 14 = a140 := (hM9.i (by decide)).trans ea140
  have e_9 : gI σ_s_3 a 17 = a170 := (hM9.i (by decide)).trans ea170
  have e_10 : gI σ_s_3 a 22 = a220 := (hM9.i (by decide)).trans ea220
  replace hsr := hsr.mv hM9 (by decide) (by decide) (by decide) (by decide) (by decide)
  replace hO := hO9
  have hw_2 : bdo (gI σ a 19) (gI σ_s_3 a 19) := hw_2
  simp only [pgo, bdo] at hw_2
  refine lv_istore_n (lv' := [(2, .int (I z_4)), (0, .ref a), (1, .int (I k))]) hx hb dX11_readKey_4 rfl hl (by decide) rfl (fun ls hl => ?_)
  refine lv_iload_n hx hb dX11_readKey_5 rfl (lv_at hl 2 rfl) ?_
  refine lv_iconst (v := I 4) hx hb dX11_readKey_6 (by decide) ?_
  refine lv_idiv hx hb dX11_readKey_7 (by decide) ?_
  refine th_div (n := 4) rk (by omega) (by decide) (fun z_11 rz_11 hz_11 => ?_)
  refine lv_iconst (v := I 1) hx hb dX11_readKey_8 (by decide) ?_
  refine lv_iadd hx hb dX11_readKey_9 ?_
  refine th_addo (fun z_12 rz_12 hz_12 => ?_)
  refine lv_istore_n (lv' := [(3, .int (I z_12)), (2, .int (I z_4)), (0, .ref a), (1, .int (I k))]) hx hb dX11_readKey_10 rfl hl (by decide) rfl (fun ls hl => ?_)
  replace hl : lv_has ls 4 [(3, .int (I z_12)), (2, .int (I z_4)), (0, .ref a)] := lv_sub hl [0, 1, 2] rfl
  refine th_loop (α := Int) (pc := 11) (fun x9 => (gI σ a 22 - x9).toNat) (fun x9 σ9 H9 l9 ls9 => ok y E σ9 ∧ fr [13] E σ σ9 ∧ fm [13, 14, 15, 16, 17, 18, 19, 20] E σ σ9 a ∧ sr E σ9 a Bf ∧ th_H G b0 σ9 H9 ∧ va_S (th_A b0) s.heap H9 l9 ∧ lv_has ls9 4 [(0, .ref a), (2, .int (I z_4)), (3, .int (I x9))] ∧ rng x9 ∧ (k / 4 + 1 ≤ x9) ∧ (x9 ≤ gI σ a 22) ∧ (nok f2 (k / 4 + 1) x9 z_4 ∨ ¬ gI σ9 a 19 = 0) ∧ (0 ≤ x9) ∧ (x9 ≤ 60) ∧ (gI σ9 a 11 = a110) ∧ (gI σ9 a 13 = a130) ∧ (gI σ9 a 14 = a140) ∧ (gI σ9 a 17 = a170) ∧ (gI σ9 a 22 = a220) ∧ (aF σ9 (ad E a 2) = f2)) ?_ (z_12) σ_s_3 _ _ _ ⟨hO, hF, hM, hsr, hH, hS, lv_sub hl [2, 1, 0] rfl, rz_12, by first | omega | (dsimp only; omega), by first | omega | (dsimp only; omega), (Or.inl (by rw [show z_12 = k / 4 + 1 by omega]; exact nok.zero)), by first | omega | (dsimp only; omega), by first | omega | (dsimp only; omega), e_6, e_7, e_8, e_9, e_10, e_5⟩
  intro x9 σ_J_34 H locs ls hI9 ihJ_34
  obtain ⟨v3q33, ex9⟩ : ∃ z, z = x9 := ⟨_, rfl⟩
  subst ex9
  obtain ⟨hO, hF, hM, hsr, hH, hS, hl, rv3q33, J_34_0, J_34_1, J_34_2, J_34_3, J_34_4, J_34_5, J_34_6, J_34_7, J_34_8, J_34_9, J_34_10⟩ := hI9
  have hl : lv_has ls 4 [(0, .ref a), (2, .int (I z_4)), (3, .int (I v3q33))] := hl
  have rv3q33 : rng v3q33 := rv3q33
  have J_34_0 : k / 4 + 1 ≤ v3q33 := J_34_0
  have J_34_1 : v3q33 ≤ gI σ a 22 := J_34_1
  have J_34_2 : nok f2 (k / 4 + 1) v3q33 z_4 ∨ ¬ gI σ_J_34 a 19 = 0 := J_34_2
  have J_34_3 : 0 ≤ v3q33 := J_34_3
  have J_34_4 : v3q33 ≤ 60 := J_34_4
  have J_34_5 : gI σ_J_34 a 11 = a110 := J_34_5
  have J_34_6 : gI σ_J_34 a 13 = a130 := J_34_6
  have J_34_7 : gI σ_J_34 a 14 = a140 := J_34_7
  have J_34_8 : gI σ_J_34 a 17 = a170 := J_34_8
  have J_34_9 : gI σ_J_34 a 22 = a220 := J_34_9
  have J_34_10 : aF σ_J_34 (ad E a 2) = f2 := J_34_10
  refine lv_iload_n hx hb dX11_readKey_11 rfl (lv_at hl 2 rfl) ?_
  refine lv_aload_n hx hb dX11_readKey_12 rfl (lv_at hl 0 rfl) ?_
  refine ok.getIc hO h_a (by decide) k13_22 J_34_9 (fun _ _ he hv kk => th_get (ci := 11) (C := RX11) (T := TX11) (N := 66) hx hb hts inX11 hown hK hH he rfl 22 (by decide) fl0 hv dX11_readKey_13 kk) ?_
  refine lv_icmp_ge (tgt := 61) hx hb dX11_readKey_16 (by decide) (fun c_35 => ?_) (fun c_35 => ?_)
  · replace c_35 := (I_le (a := a220) (b := v3q33) ra220 rv3q33).mp c_35
    have hE9 : ¬ (gI σ_J_34 a 19) = 0 ∨ nok f2 (k / 4 + 1) (gI σ a 22) z_4 := by
      first
      | exact Or.inl (by omega)
      | exact (J_34_2).elim (fun h9 => Or.inr (by rw [show gI σ a 22 = v3q33 by omega]; exact h9)) (fun h9 => Or.inl (by omega))
    refine lv_aload_n hx hb dX11_readKey_61 rfl (lv_at hl 0 rfl) ?_
    obtain ⟨_, hc_36⟩ := hO.cell h_a (by decide) (ci := 11) rfl
    refine th_callv (va_runV (As := []) (rest := []) ⟨hx, hb, hml, hown, hts⟩ (m_pass l G y b0 σ_J_34 E hO a h_a Bf hsr (by omega)) (cwV 0 hts gX11_readKey_X11_pass rfl rfl rfl (by decide +kernel) ⟨Nat.le_of_ble_eq_true rfl, Nat.le_of_ble_eq_true rfl⟩) (th_PV hK hH rfl hc_36) rfl rfl hl.1 rfl (lv_room (Nat.le_of_ble_eq_true rfl)) dX11_readKey_62 ⟨Nat.le_of_ble_eq_true rfl, Nat.le_of_ble_eq_true rfl⟩) hS (fun σ_s_38 H locs hw_37 hH hS => ?_)
    obtain ⟨hO9, hF9, hM9, hw_37⟩ := hw_37
    replace hM := hM.tu hM9 (by decide)
    replace hF := hF.tu hF9 (by decide)
    have e_39 : gI σ_s_38 a 11 = a110 := (hM9.i (by decide)).trans J_34_5
    have e_40 : gI σ_s_38 a 22 = a220 := (hM9.i (by decide)).trans J_34_9
    have e_41 : aF σ_s_38 (ad E a 2) = f2 := (hM9.a (by decide) (by decide)).trans J_34_10
    replace hsr := hsr.mv hM9 (by decide) (by decide) (by decide) (by decide) (by decide)
    replace hO := hO9
    have hw_37 : (gI σ_J_34 a 13 ≤ gI σ_s_38 a 13 ∧ gI σ_s_38 a 13 ≤ gI σ_J_34 a 11 ∧ 0 ≤ gI σ_s_38 a 17 ∧ gI σ_s_38 a 17 ≤ gI σ_s_38 a 13) ∧ pgo (gI σ_s_38 a 19) (gI σ_s_38 a 14) (gI σ_J_34 a 13) (gI σ_s_38 a 13) ∧ gI σ_s_38 a 19 = gI σ_J_34 a 19 := hw_37
    simp only [pgo, bdo] at hw_37
    refine lv_aload_n hx hb dX11_readKey_65 rfl (lv_at hl 0 rfl) ?_
    refine lv_bipush (v := I 58) hx hb dX11_readKey_66 (by decide) ?_
    obtain ⟨_, hc_42⟩ := hO.cell h_a (by decide) (ci := 11) rfl
    refine th_callv (va_runV (As := [.int (I 58)]) (rest := []) ⟨hx, hb, hml, hown, hts⟩ (m_need l G y b0 σ_s_38 E hO a h_a 58 (show rng 58 from (show rng 58 from ⟨by decide, by decide⟩)) Bf hsr (by omega)) (cwV 1 hts gX11_readKey_X11_need rfl rfl rfl (by decide +kernel) ⟨Nat.le_of_ble_eq_true rfl, Nat.le_of_ble_eq_true rfl⟩) (th_PV hK hH rfl hc_42) rfl rfl hl.1 rfl (lv_room (Nat.le_of_ble_eq_true rfl)) dX11_readKey_68 ⟨Nat.le_of_ble_eq_true rfl, Nat.le_of_ble_eq_true rfl⟩) hS (fun σ_s_44 H locs hw_43 hH hS => ?_)
    obtain ⟨hO9, hF9, hM9, hw_43⟩ := hw_43
    replace hM := hM.tu hM9 (by decide)
    replace hF := hF.tu hF9 (by decide)
    have e_45 : gI σ_s_44 a 11 = a110 := (hM9.i (by decide)).trans e_39
    have e_46 : gI σ_s_44 a 22 = a220 := (hM9.i (by decide)).trans e_40
    have e_47 : aF σ_s_44 (ad E a 2) = f2 := (hM9.a (by decide) (by decide)).trans e_41
    replace hsr := hsr.mv hM9 (by decide) (by decide) (by decide) (by decide) (by decide)
    replace hO := hO9
    have hw_43 : (gI σ_s_38 a 13 ≤ gI σ_s_44 a 13 ∧ gI σ_s_44 a 13 ≤ gI σ_s_38 a 11 ∧ 0 ≤ gI σ_s_44 a 17 ∧ gI σ_s_44 a 17 ≤ gI σ_s_44 a 13) ∧ pgo (gI σ_s_44 a 19) (gI σ_s_44 a 14) (gI σ_s_38 a 13) (gI σ_s_44 a 13) ∧ bdo (gI σ_s_38 a 19) (gI σ_s_44 a 19) := hw_43
    simp only [pgo, bdo] at hw_43
    refine lv_iload_n hx hb dX11_readKey_71 rfl (lv_at hl 1 rfl) ?_
    exact th_iret hx hb hr hlocks hH hS (z := z_4) rz_4 ⟨hO, hF, hM, ⟨⟨by omega, pgo.of (by omega)⟩, bdo.of (by omega), hE9.elim (fun h9 => Or.inl (by omega)) Or.inr⟩⟩ dX11_readKey_72
  · replace c_35 := mt (I_le (a := a220) (b := v3q33) ra220 rv3q33).mpr c_35
    refine lv_aload_n hx hb dX11_readKey_19 rfl (lv_at hl 0 rfl) ?_
    refine ok.getI hO h_a (by decide) k13_19 (fun _ _ he hv kk => th_get (ci := 11) (C := RX11) (T := TX11) (N := 66) hx hb hts inX11 hown hK hH he rfl 19 (by decide) fl1 hv dX11_readKey_20 kk) (fun z_48 e_49 rz_48 lz_48 uz_48 => ?_)
    refine lv_if_ne (tgt := 61) hx hb dX11_readKey_23 (by decide) (fun c_50 => ?_) (fun c_50 => ?_)
    · replace c_50 := mt (I_eq (a := z_48) (b := 0) rz_48 (show rng 0 from ⟨by decide, by decide⟩)).mpr c_50
      have hE9 : ¬ (gI σ_J_34 a 19) = 0 ∨ nok f2 (k / 4 + 1) (gI σ a 22) z_4 := by
        first
        | exact Or.inl (by omega)
        | exact (J_34_2).elim (fun h9 => Or.inr (by rw [show gI σ a 22 = v3q33 by omega]; exact h9)) (fun h9 => Or.inl (by omega))
      refine lv_aload_n hx hb dX11_readKey_61 rfl (lv_at hl 0 rfl) ?_
      obtain ⟨_, hc_51⟩ := hO.cell h_a (by decide) (ci := 11) rfl
      refine th_callv (va_runV (As := []) (rest := []) ⟨hx, hb, hml, hown, hts⟩ (m_pass l G y b0 σ_J_34 E hO a h_a Bf hsr (by omega)) (cwV 0 hts gX11_readKey_X11_pass rfl rfl rfl (by decide +kernel) ⟨Nat.le_of_ble_eq_true rfl, Nat.le_of_ble_eq_true rfl⟩) (th_PV hK hH rfl hc_51) rfl rfl hl.1 rfl (lv_room (Nat.le_of_ble_eq_true rfl)) dX11_readKey_62 ⟨Nat.le_of_ble_eq_true rfl, Nat.le_of_ble_eq_true rfl⟩) hS (fun σ_s_53 H locs hw_52 hH hS => ?_)
      obtain ⟨hO9, hF9, hM9, hw_52⟩ := hw_52
      replace hM := hM.tu hM9 (by decide)
      replace hF := hF.tu hF9 (by decide)
      have e_54 : gI σ_s_53 a 11 = a110 := (hM9.i (by decide)).trans J_34_5
      have e_55 : gI σ_s_53 a 22 = a220 := (hM9.i (by decide)).trans J_34_9
      have e_56 : aF σ_s_53 (ad E a 2) = f2 := (hM9.a (by decide) (by decide)).trans J_34_10
      have e_57 : gI σ_s_53 a 19 = z_48 := (hM9.i (by decide)).trans e_49
      replace hsr := hsr.mv hM9 (by decide) (by decide) (by decide) (by decide) (by decide)
      replace hO := hO9
      have hw_52 : (gI σ_J_34 a 13 ≤ gI σ_s_53 a 13 ∧ gI σ_s_53 a 13 ≤ gI σ_J_34 a 11 ∧ 0 ≤ gI σ_s_53 a 17 ∧ gI σ_s_53 a 17 ≤ gI σ_s_53 a 13) ∧ pgo (gI σ_s_53 a 19) (gI σ_s_53 a 14) (gI σ_J_34 a 13) (gI σ_s_53 a 13) ∧ gI σ_s_53 a 19 = gI σ_J_34 a 19 := hw_52
      simp only [pgo, bdo] at hw_52
      refine lv_aload_n hx hb dX11_readKey_65 rfl (lv_at hl 0 rfl) ?_
      refine lv_bipush (v := I 58) hx hb dX11_readKey_66 (by decide) ?_
      obtain ⟨_, hc_58⟩ := hO.cell h_a (by decide) (ci := 11) rfl
      refine th_callv (va_runV (As := [.int (I 58)]) (rest := []) ⟨hx, hb, hml, hown, hts⟩ (m_need l G y b0 σ_s_53 E hO a h_a 58 (show rng 58 from (show rng 58 from ⟨by decide, by decide⟩)) Bf hsr (by omega)) (cwV 1 hts gX11_readKey_X11_need rfl rfl rfl (by decide +kernel) ⟨Nat.le_of_ble_eq_true rfl, Nat.le_of_ble_eq_true rfl⟩) (th_PV hK hH rfl hc_58) rfl rfl hl.1 rfl (lv_room (Nat.le_of_ble_eq_true rfl)) dX11_readKey_68 ⟨Nat.le_of_ble_eq_true rfl, Nat.le_of_ble_eq_true rfl⟩) hS (fun σ_s_60 H locs hw_59 hH hS => ?_)
      obtain ⟨hO9, hF9, hM9, hw_59⟩ := hw_59
      replace hM := hM.tu hM9 (by decide)
      replace hF := hF.tu hF9 (by decide)
      have e_61 : gI σ_s_60 a 11 = a110 := (hM9.i (by decide)).trans e_54
      have e_62 : gI σ_s_60 a 22 = a220 := (hM9.i (by decide)).trans e_55
      have e_63 : aF σ_s_60 (ad E a 2) = f2 := (hM9.a (by decide) (by decide)).trans e_56
      replace hsr := hsr.mv hM9 (by decide) (by decide) (by decide) (by decide) (by decide)
      replace hO := hO9
      have hw_59 : (gI σ_s_53 a 13 ≤ gI σ_s_60 a 13 ∧ gI σ_s_60 a 13 ≤ gI σ_s_53 a 11 ∧ 0 ≤ gI σ_s_60 a 17 ∧ gI σ_s_60 a 17 ≤ gI σ_s_60 a 13) ∧ pgo (gI σ_s_60 a 19) (gI σ_s_60 a 14) (gI σ_s_53 a 13) (gI σ_s_60 a 13) ∧ bdo (gI σ_s_53 a 19) (gI σ_s_60 a 19) := hw_59
      simp only [pgo, bdo] at hw_59
      refine lv_iload_n hx hb dX11_readKey_71 rfl (lv_at hl 1 rfl) ?_
      exact th_iret hx hb hr hlocks hH hS (z := z_4) rz_4 ⟨hO, hF, hM, ⟨⟨by omega, pgo.of (by omega)⟩, bdo.of (by omega), hE9.elim (fun h9 => Or.inl (by omega)) Or.inr⟩⟩ dX11_readKey_72
    · replace c_50 := (I_eq (a := z_48) (b := 0) rz_48 (show rng 0 from ⟨by decide, by decide⟩)).mp c_50
      have hk9 := hy3 v3q33 (by omega) (by omega)
      have hn9 := (J_34_2).resolve_right (by omega)
      refine lv_aload_n hx hb dX11_readKey_26 rfl (lv_at hl 0 rfl) ?_
      refine ok.getR hO h_a (by decide) k13_2 (by decide) (fun _ _ he hv kk => th_get (ci := 11) (C := RX11) (T := TX11) (N := 66) hx hb hts inX11 hown hK hH he rfl 2 (by decide) fl2 hv dX11_readKey_27 kk) ?_
      refine lv_iconst (v := I 4) hx hb dX11_readKey_30 (by decide) ?_
      refine lv_iload_n hx hb dX11_readKey_31 rfl (lv_at hl 2 rfl) ?_
      refine lv_imul hx hb dX11_readKey_32 ?_
      refine nq_top (I_mul _ _) ?_
      refine lv_iconst (v := I 2) hx hb dX11_readKey_33 (by decide) ?_
      refine lv_iadd hx hb dX11_readKey_34 ?_
      refine nq_top (I_add _ _) ?_
      refine m_iald hx hb hK hH hO h_a k13_2 isA1 J_34_10 ⟨by omega, by omega⟩ (by omega) (by omega) dX11_readKey_35 (fun z_64 ez_64 rz_64 elx9 => ?_)
      refine lv_iload_n hx hb dX11_readKey_36 rfl (lv_at hl 1 rfl) ?_
      refine lv_icmp_ne (tgt := 45) hx hb dX11_readKey_37 (by decide) (fun c_65 => ?_) (fun c_65 => ?_)
      · replace c_65 := mt (I_eq (a := z_64) (b := z_4) rz_64 rz_4).mpr c_65
        refine lv_iload_n hx hb dX11_readKey_45 rfl (lv_at hl 2 rfl) ?_
        refine lv_aload_n hx hb dX11_readKey_46 rfl (lv_at hl 0 rfl) ?_
        refine ok.getR hO h_a (by decide) k13_2 (by decide) (fun _ _ he hv kk => th_get (ci := 11) (C := RX11) (T := TX11) (N := 66) hx hb hts inX11 hown hK hH he rfl 2 (by decide) fl2 hv dX11_readKey_47 kk) ?_
        refine lv_iconst (v := I 4) hx hb dX11_readKey_50 (by decide) ?_
        refine lv_iload_n hx hb dX11_readKey_51 rfl (lv_at hl 2 rfl) ?_
        refine lv_imul hx hb dX11_readKey_52 ?_
        refine nq_top (I_mul _ _) ?_
        refine lv_iconst (v := I 3) hx hb dX11_readKey_53 (by decide) ?_
        refine lv_iadd hx hb dX11_readKey_54 ?_
        refine nq_top (I_add _ _) ?_
        refine m_iald hx hb hK hH hO h_a k13_2 isA1 J_34_10 ⟨by omega, by omega⟩ (by omega) (by omega) dX11_readKey_55 (fun z_66 ez_66 rz_66 elx9 => ?_)
        have hS9 : mS f2 v3q33 = z_66 := ez_66
        refine lv_iadd hx hb dX11_readKey_56 ?_
        refine th_addo (fun z_67 rz_67 hz_67 => ?_)
        refine lv_istore_n (lv' := [(3, .int (I z_67)), (0, .ref a), (2, .int (I z_4))]) hx hb dX11_readKey_57 rfl hl (by decide) rfl (fun ls hl => ?_)
        refine lv_goto (tgt := 11) hx hb dX11_readKey_58 (by decide) ?_
        exact ihJ_34 (z_67) σ_J_34 _ _ _ (by first | omega | (dsimp only; omega)) ⟨hO, hF, hM, hsr, hH, hS, lv_sub hl [1, 2, 0] rfl, rz_67, by first | omega | (dsimp only; omega), by first | omega | (dsimp only; omega), (by first | exact Or.inr (by omega) | exact Or.inl (by rw [show z_67 = v3q33 + mS f2 v3q33 by omega]; exact (nok.step hn9 hk9.1 (by unfold mY; omega)))), by first | omega | (dsimp only; omega), by first | omega | (dsimp only; omega), J_34_5, J_34_6, J_34_7, J_34_8, J_34_9, J_34_10⟩
      · replace c_65 := (I_eq (a := z_64) (b := z_4) rz_64 rz_4).mp c_65
        refine lv_aload_n hx hb dX11_readKey_40 rfl (lv_at hl 0 rfl) ?_
        refine lv_iconst (v := I 3) hx hb dX11_readKey_41 (by decide) ?_
        obtain ⟨_, hc_68⟩ := hO.cell h_a (by decide) (ci := 11) rfl
        refine th_callv (va_runV (As := [.int (I 3)]) (rest := []) ⟨hx, hb, hml, hown, hts⟩ (m_wrong l G y b0 σ_J_34 E hO a h_a 3 (show rng 3 from (show rng 3 from ⟨by decide, by decide⟩)) (by omega) (by omega)) (cwV 1 hts gX11_readKey_X11_wrong rfl rfl rfl (by decide +kernel) ⟨Nat.le_of_ble_eq_true rfl, Nat.le_of_ble_eq_true rfl⟩) (th_PV hK hH rfl hc_68) rfl rfl hl.1 rfl (lv_room (Nat.le_of_ble_eq_true rfl)) dX11_readKey_42 ⟨Nat.le_of_ble_eq_true rfl, Nat.le_of_ble_eq_true rfl⟩) hS (fun σ_s_70 H locs hw_69 hH hS => ?_)
        obtain ⟨hO9, hF9, hM9, hw_69⟩ := hw_69
        replace hM := hM.tu hM9 (by decide)
        replace hF := hF.tu hF9 (by decide)
        have e_71 : gI σ_s_70 a 11 = a110 := (hM9.i (by decide)).trans J_34_5
        have e_72 : gI σ_s_70 a 13 = a130 := (hM9.i (by decide)).trans J_34_6
        have e_73 : gI σ_s_70 a 14 = a140 := (hM9.i (by decide)).trans J_34_7
        have e_74 : gI σ_s_70 a 17 = a170 := (hM9.i (by decide)).trans J_34_8
        have e_75 : gI σ_s_70 a 22 = a220 := (hM9.i (by decide)).trans J_34_9
        have e_76 : aF σ_s_70 (ad E a 2) = f2 := (hM9.a (by decide) (by decide)).trans J_34_10
        replace hsr := hsr.mv hM9 (by decide) (by decide) (by decide) (by decide) (by decide)
        replace hO := hO9
        have hw_69 : ¬ gI σ_s_70 a 19 = 0 ∧ (gI σ_J_34 a 19 = 0 ∨ gI σ_s_70 a 19 = gI σ_J_34 a 19) := hw_69
        refine lv_iload_n hx hb dX11_readKey_45 rfl (lv_at hl 2 rfl) ?_
        refine lv_aload_n hx hb dX11_readKey_46 rfl (lv_at hl 0 rfl) ?_
        refine ok.getR hO h_a (by decide) k13_2 (by decide) (fun _ _ he hv kk => th_get (ci := 11) (C := RX11) (T := TX11) (N := 66) hx hb hts inX11 hown hK hH he rfl 2 (by decide) fl2 hv dX11_readKey_47 kk) ?_
        refine lv_iconst (v := I 4) hx hb dX11_readKey_50 (by decide) ?_
        refine lv_iload_n hx hb dX11_readKey_51 rfl (lv_at hl 2 rfl) ?_
        refine lv_imul hx hb dX11_readKey_52 ?_
        refine nq_top (I_mul _ _) ?_
        refine lv_iconst (v := I 3) hx hb dX11_readKey_53 (by decide) ?_
        refine lv_iadd hx hb dX11_readKey_54 ?_
        refine nq_top (I_add _ _) ?_
        refine m_iald hx hb hK hH hO h_a k13_2 isA1 e_76 ⟨by omega, by omega⟩ (by omega) (by omega) dX11_readKey_55 (fun z_77 ez_77 rz_77 elx9 => ?_)
        have hS9 : mS f2 v3q33 = z_77 := ez_77
        refine lv_iadd hx hb dX11_readKey_56 ?_
        refine th_addo (fun z_78 rz_78 hz_78 => ?_)
        refine lv_istore_n (lv' := [(3, .int (I z_78)), (0, .ref a), (2, .int (I z_4))]) hx hb dX11_readKey_57 rfl hl (by decide) rfl (fun ls hl => ?_)
        refine lv_goto (tgt := 11) hx hb dX11_readKey_58 (by decide) ?_
        exact ihJ_34 (z_78) σ_s_70 _ _ _ (by first | omega | (dsimp only; omega)) ⟨hO, hF, hM, hsr, hH, hS, lv_sub hl [1, 2, 0] rfl, rz_78, by first | omega | (dsimp only; omega), by first | omega | (dsimp only; omega), (by first | exact Or.inr (by omega) | exact Or.inl (by rw [show z_78 = v3q33 + mS f2 v3q33 by omega]; exact (nok.step hn9 hk9.1 (by unfold mY; omega)))), by first | omega | (dsimp only; omega), by first | omega | (dsimp only; omega), e_71, e_72, e_73, e_74, e_75, e_76⟩

set_option maxHeartbeats 1000000 in
set_option maxRecDepth 100000 in
theorem m_readMany (n : Nat) (ih : ∀ (l : Launch) (G : va_G) (y : Nat → ClassId) (b0 : Nat) (σ : th_M) (E : th_E) (hO : ok y E σ) (a : Nat) (h_a : kd E a = 13) (ky : Int) (rky : rng ky) (dp : Int) (rdp : rng dp) (l_dp : 0 ≤ dp) (u_dp : dp ≤ 8) (f2 : Nat → Int32) (ef2 : aF σ (ad E a 2) = f2) (Bf : Int → Int) (hsr : sr E σ a Bf) (hy0 : 0 ≤ gI σ a 17 ∧ gI σ a 17 ≤ gI σ a 13 ∧ gI σ a 13 ≤ gI σ a 11 ∧ gI σ a 11 ≤ 400) (hy1 : gI σ a 19 = 0) (hn : (8 - dp).toNat < n), Met l yX11_readThing wsX11_readThing ({ frames := 4*n+12, cells := 0, slots := 0, locals := (120*n+900) }) (th_P G y b0 σ [.ref a, .int (I ky), .int (I dp)]) (th_Qv G b0 (fun σ1 => ok y E σ1 ∧ fr [13] E σ σ1 ∧ fm [13, 14, 15, 16, 17, 18, 19, 20, 2, 22] E σ σ1 a ∧ (((gI σ a 13 ≤ gI σ1 a 13 ∧ gI σ1 a 13 ≤ gI σ a 11 ∧ 0 ≤ gI σ1 a 17 ∧ gI σ1 a 17 ≤ gI σ1 a 13) ∧ pgo (gI σ1 a 19) (gI σ1 a 14) (gI σ a 13) (gI σ1 a 13)) ∧ gI σ a 22 ≤ gI σ1 a 22 ∧ (¬ gI σ1 a 19 = 0 ∨ rdT f2 (aF σ1 (ad E a 2)) (gI σ a 22) (gI σ1 a 22) ky)))) 0 0 (th_A b0)) (l : Launch) (G : va_G) (y : Nat → ClassId) (b0 : Nat) (σ : th_M) (E : th_E) (hO : ok y E σ) (a : Nat) (h_a : kd E a = 13) (k : Int) (rk : rng k) (l_k : 0 ≤ k) (u_k : k ≤ 236) (dp : Int) (rdp : rng dp) (l_dp : 0 ≤ dp) (u_dp : dp ≤ 7) (en : Int) (ren : rng en) (f2 : Nat → Int32) (ef2 : aF σ (ad E a 2) = f2) (Bf : Int → Int) (hsr : sr E σ a Bf) (hy0 : 0 ≤ gI σ a 17 ∧ gI σ a 17 ≤ gI σ a 13 ∧ gI σ a 13 ≤ gI σ a 11 ∧ gI σ a 11 ≤ 400) (hy1 : k % 4 = 0) (hy2 : k / 4 + 1 = gI σ a 22) (hy3 : (8 - dp).toNat < n + 1) : Met l yX11_readMany wsX11_readMany ({ frames := 4*n+14, cells := 0, slots := 0, locals := (120*n+960) }) (th_P G y b0 σ [.ref a, .int (I k), .int (I dp), .int (I en)]) (th_Qv G b0 (fun σ1 => ok y E σ1 ∧ fr [13] E σ σ1 ∧ fm [13, 14, 15, 16, 17, 18, 19, 20, 2, 22] E σ σ1 a ∧ (((gI σ a 13 ≤ gI σ1 a 13 ∧ gI σ1 a 13 ≤ gI σ a 11 ∧ 0 ≤ gI σ1 a 17 ∧ gI σ1 a 17 ≤ gI σ1 a 13) ∧ pgo (gI σ1 a 19) (gI σ1 a 14) (gI σ a 13) (gI σ1 a 13)) ∧ gI σ a 22 ≤ gI σ1 a 22 ∧ (¬ gI σ1 a 19 = 0 ∨ rdF f2 (aF σ1 (ad E a 2)) (k / 4) (gI σ1 a 22))))) 0 0 (th_A b0) := by
  refine Met.ofW (cc := cX11_readMany) (maxL := 6) (ret := none) (by decide) rfl ?_
  intro p e s m args below meth c s₁ B hml hv
  obtain ⟨rfl, hH, hK⟩ := hv
  have hx := B.exec
  have hb := B.bytes
  have hr := B.returns
  have hts := atoms_spec (ws := wsX11_readMany) B.pre
  have hown : s.vm.findClass RX11 = some m.cls := findClass_of_methodNamed B.named
  have hlocks := B.notSynchronized
  have h00 : b0 ≤ s.heap.size := hH.1
  have hS : va_S (th_A b0) s.heap s.heap [] := va_S.rf
  have hF : fr [13] E σ σ := fr.rf
  have hM : fm [13, 14, 15, 16, 17, 18, 19, 20, 2, 22] E σ σ a := fm.rf
  have inX11 : ∀ w ∈ wsX110, w ∈ wsX11_readMany := by decide +kernel
  have fl0 := hts (.fieldLink RX11 162 "NestQueryModel" "bad" "I") (by decide +kernel)
  have fl1 := hts (.fieldLink RX11 13 "NestQueryModel" "data" "[I") (by decide +kernel)
  have hl := lv_entry ([.ref a, .int (I k), .int (I dp), .int (I en)]) (n := 6) (Nat.le_of_ble_eq_true rfl)
  rw [lg_entry_eq]
  generalize (lg_sl ([.ref a, .int (I k), .int (I dp), .int (I en)]) ++ List.replicate (6 - (lg_sl ([.ref a, .int (I k), .int (I dp), .int (I en)])).length) Slot.unset).toArray = ls at hl ⊢
  have hl : lv_has ls 6 [(0, .ref a), (1, .int (I k)), (2, .int (I dp)), (3, .int (I en))] := hl
  obtain ⟨a110, ea110, ra110, la110, ua110⟩ := hO.gi h_a (by decide) k13_11
  obtain ⟨a130, ea130, ra130, la130, ua130⟩ := hO.gi h_a (by decide) k13_13
  obtain ⟨a140, ea140, ra140, la140, ua140⟩ := hO.gi h_a (by decide) k13_14
  obtain ⟨a170, ea170, ra170, la170, ua170⟩ := hO.gi h_a (by decide) k13_17
  obtain ⟨a190, ea190, ra190, la190, ua190⟩ := hO.gi h_a (by decide) k13_19
  obtain ⟨a220, ea220, ra220, la220, ua220⟩ := hO.gi h_a (by decide) k13_22
  refine lv_aload_n hx hb dX11_readMany_0 rfl (lv_at hl 0 rfl) ?_
  obtain ⟨_, hc_1⟩ := hO.cell h_a (by decide) (ci := 11) rfl
  refine th_callv (va_runV (As := []) (rest := []) ⟨hx, hb, hml, hown, hts⟩ (m_pass l G y b0 σ E hO a h_a Bf hsr (by omega)) (cwV 0 hts gX11_readMany_X11_pass rfl rfl rfl (by decide +kernel) ⟨(by first | (simp only [headSpec]; omega) | omega | (dsimp only; omega)), (by first | (simp only [headSpec]; omega) | omega | (dsimp only; omega))⟩) (th_PV hK hH rfl hc_1) rfl rfl hl.1 rfl (lv_room (Nat.le_of_ble_eq_true rfl)) dX11_readMany_1 ⟨(by first | (simp only [headSpec]; omega) | omega | (dsimp only; omega)), (by first | (simp only [headSpec]; omega) | omega | (dsimp only; omega))⟩) hS (fun σ_s_3 H locs hw_2 hH hS => ?_)
  obtain ⟨hO9, hF9, hM9, hw_2⟩ := hw_2
  replace hM := hM.tu hM9 (by decide)
  replace hF := hF.tu hF9 (by decide)
  have e_4 : aF σ_s_3 (ad E a 2) = f2 := (hM9.a (by decide) (by decide)).trans ef2
  have e_5 : gI σ_s_3 a 11 = a110 := (hM9.i (by decide)).trans ea110
  have e_6 : gI σ_s_3 a 19 = a190 := (hM9.i (by decide)).trans ea190
  have e_7 : gI σ_s_3 a 22 = a220 := (hM9.i (by decide)).trans ea220
  replace hsr := hsr.mv hM9 (by decide) (by decide) (by decide) (by decide) (by decide)
  replace hO := hO9
  have hw_2 : (gI σ a 13 ≤ gI σ_s_3 a 13 ∧ gI σ_s_3 a 13 ≤ gI σ a 11 ∧ 0 ≤ gI σ_s_3 a 17 ∧ gI σ_s_3 a 17 ≤ gI σ_s_3 a 13) ∧ pgo (gI σ_s_3 a 19) (gI σ_s_3 a 14) (gI σ a 13) (gI σ_s_3 a 13) ∧ gI σ_s_3 a 19 = gI σ a 19 := hw_2
  refine lv_aload_n hx hb dX11_readMany_4 rfl (lv_at hl 0 rfl) ?_
  refine lv_iload_n hx hb dX11_readMany_5 rfl (lv_at hl 3 rfl) ?_
  obtain ⟨_, hc_8⟩ := hO.cell h_a (by decide) (ci := 11) rfl
  refine th_calli (va_runV (As := [.int (I en)]) (rest := []) ⟨hx, hb, hml, hown, hts⟩ (m_isMarked l G y b0 σ_s_3 E hO a h_a en (show rng en from ren) Bf hsr (by omega)) (cwV 1 hts gX11_readMany_X11_isMarked rfl rfl rfl (by decide +kernel) ⟨(by first | (simp only [headSpec]; omega) | omega | (dsimp only; omega)), (by first | (simp only [headSpec]; omega) | omega | (dsimp only; omega))⟩) (th_PV hK hH rfl hc_8) rfl rfl hl.1 rfl (lv_room (Nat.le_of_ble_eq_true rfl)) dX11_readMany_6 ⟨(by first | (simp only [headSpec]; omega) | omega | (dsimp only; omega)), (by first | (simp only [headSpec]; omega) | omega | (dsimp only; omega))⟩) hS (fun z_11 σ_s_10 H locs rz_11 hw_9 hH hS => ?_)
  obtain ⟨e9, bhw_9, hw_9⟩ := hw_9
  replace e9 := e9.symm
  subst e9
  have hw_9 : z_11 = 0 ∨ (z_11 = 1 ∧ gI σ_s_3 a 19 = 0 ∧ gI σ_s_3 a 14 = 3 ∧ Bf (gI σ_s_3 a 17) = en) := hw_9
  refine lv_if_eq (tgt := 17) hx hb dX11_readMany_9 (by decide) (fun c_12 => ?_) (fun c_12 => ?_)
  · replace c_12 := (I_eq (a := z_11) (b := 0) rz_11 (show rng 0 from ⟨by decide, by decide⟩)).mp c_12
    clear hw_9
    refine lv_iconst (v := I 1) hx hb dX11_readMany_17 (by decide) ?_
    refine lv_istore (lv' := [(4, .int (I 1)), (0, .ref a), (1, .int (I k)), (2, .int (I dp)), (3, .int (I en))]) hx hb dX11_readMany_18 hl (by decide) rfl (fun ls hl => ?_)
    obtain ⟨z_13, e_14, rz_13, lz_13, uz_13⟩ := hO.gi h_a (by decide) k13_13
    refine th_loop (α := Int × Int × Int × (Nat → Int32)) (pc := 20) (fun x9 => (2 * (gI σ a 11 - x9.2.1) + x9.1).toNat) (fun x9 σ9 H9 l9 ls9 => ok y E σ9 ∧ fr [13] E σ σ9 ∧ fm [13, 14, 15, 16, 17, 18, 19, 20, 2, 22] E σ σ9 a ∧ sr E σ9 a Bf ∧ th_H G b0 σ9 H9 ∧ va_S (th_A b0) s.heap H9 l9 ∧ lv_has ls9 6 [(0, .ref a), (1, .int (I k)), (2, .int (I dp)), (3, .int (I en)), (4, .int (I x9.1))] ∧ rng x9.1 ∧ rng x9.2.1 ∧ rng x9.2.2.1 ∧ (gI σ a 13 ≤ x9.2.1) ∧ (x9.2.1 ≤ gI σ a 11) ∧ (0 ≤ gI σ9 a 17) ∧ (gI σ9 a 17 ≤ x9.2.1) ∧ (k / 4 + 1 ≤ x9.2.2.1) ∧ (x9.2.2.1 ≤ 60) ∧ (0 ≤ x9.1) ∧ (x9.1 ≤ 1) ∧ (pgo (gI σ9 a 19) (gI σ9 a 14) (gI σ a 13) x9.2.1) ∧ (0 ≤ x9.2.2.1) ∧ (¬ gI σ9 a 19 = 0 ∨ rdF f2 x9.2.2.2 (k / 4) x9.2.2.1) ∧ (gI σ9 a 11 = a110) ∧ (aF σ9 (ad E a 2) = x9.2.2.2) ∧ (gI σ9 a 13 = x9.2.1) ∧ (gI σ9 a 22 = x9.2.2.1)) ?_ (1, z_13, a220, f2) σ_s_3 _ _ _ ⟨hO, hF, hM, hsr, hH, hS, lv_sub hl [1, 2, 3, 4, 0] rfl, (show rng 1 from ⟨by decide, by decide⟩), rz_13, ra220, by first | omega | (dsimp only; omega), by first | omega | (dsimp only; omega), by first | omega | (dsimp only; omega), by first | omega | (dsimp only; omega), by first | omega | (dsimp only; omega), by first | omega | (dsimp only; omega), by first | omega | (dsimp only; omega), by first | omega | (dsimp only; omega), (by have h7 := hw_2.2.1; unfold pgo at h7 ⊢; omega), by first | omega | (dsimp only; omega), (Or.inr (by rw [show a220 = k / 4 + 1 by omega]; exact rdF.zero same.rf)), e_5, e_4, e_14, e_7⟩
    intro x9 σ_J_175 H locs ls hI9 ihJ_175
    obtain ⟨v4q174, G13q172, G22q173, F2q171⟩ := x9
    obtain ⟨hO, hF, hM, hsr, hH, hS, hl, rv4q174, rG13q172, rG22q173, J_175_0, J_175_1, J_175_2, J_175_3, J_175_4, J_175_5, J_175_6, J_175_7, J_175_8, J_175_9, J_175_10, J_175_11, J_175_12, J_175_13, J_175_14⟩ := hI9
    have hl : lv_has ls 6 [(0, .ref a), (1, .int (I k)), (2, .int (I dp)), (3, .int (I en)), (4, .int (I v4q174))] := hl
    have rv4q174 : rng v4q174 := rv4q174
    have rG13q172 : rng G13q172 := rG13q172
    have rG22q173 : rng G22q173 := rG22q173
    have J_175_0 : gI σ a 13 ≤ G13q172 := J_175_0
    have J_175_1 : G13q172 ≤ gI σ a 11 := J_175_1
    have J_175_2 : 0 ≤ gI σ_J_175 a 17 := J_175_2
    have J_175_3 : gI σ_J_175 a 17 ≤ G13q172 := J_175_3
    have J_175_4 : k / 4 + 1 ≤ G22q173 := J_175_4
    have J_175_5 : G22q173 ≤ 60 := J_175_5
    have J_175_6 : 0 ≤ v4q174 := J_175_6
    have J_175_7 : v4q174 ≤ 1 := J_175_7
    have J_175_8 : pgo (gI σ_J_175 a 19) (gI σ_J_175 a 14) (gI σ a 13) G13q172 := J_175_8
    have J_175_9 : 0 ≤ G22q173 := J_175_9
    have J_175_10 : ¬ gI σ_J_175 a 19 = 0 ∨ rdF f2 F2q171 (k / 4) G22q173 := J_175_10
    have J_175_11 : gI σ_J_175 a 11 = a110 := J_175_11
    have J_175_12 : aF σ_J_175 (ad E a 2) = F2q171 := J_175_12
    have J_175_13 : gI σ_J_175 a 13 = G13q172 := J_175_13
    have J_175_14 : gI σ_J_175 a 22 = G22q173 := J_175_14
    refine lv_iload hx hb dX11_readMany_20 (lv_at hl 4 rfl) ?_
    refine lv_if_eq (tgt := 89) hx hb dX11_readMany_22 (by decide) (fun c_176 => ?_) (fun c_176 => ?_)
    · replace c_176 := (I_eq (a := v4q174) (b := 0) rv4q174 (show rng 0 from ⟨by decide, by decide⟩)).mp c_176
      refine lv_aload_n hx hb dX11_readMany_89 rfl (lv_at hl 0 rfl) ?_
      refine lv_iload_n hx hb dX11_readMany_90 rfl (lv_at hl 3 rfl) ?_
      obtain ⟨_, hc_177⟩ := hO.cell h_a (by decide) (ci := 11) rfl
      refine th_callv (va_runV (As := [.int (I en)]) (rest := []) ⟨hx, hb, hml, hown, hts⟩ (m_need l G y b0 σ_J_175 E hO a h_a en (show rng en from ren) Bf hsr (by omega)) (cwV 1 hts gX11_readMany_X11_need rfl rfl rfl (by decide +kernel) ⟨(by first | (simp only [headSpec]; omega) | omega | (dsimp only; omega)), (by first | (simp only [headSpec]; omega) | omega | (dsimp only; omega))⟩) (th_PV hK hH rfl hc_177) rfl rfl hl.1 rfl (lv_room (Nat.le_of_ble_eq_true rfl)) dX11_readMany_91 ⟨(by first | (simp only [headSpec]; omega) | omega | (dsimp only; omega)), (by first | (simp only [headSpec]; omega) | omega | (dsimp only; omega))⟩) hS (fun σ_s_179 H locs hw_178 hH hS => ?_)
      obtain ⟨hO9, hF9, hM9, hw_178⟩ := hw_178
      replace hM := hM.tu hM9 (by decide)
      replace hF := hF.tu hF9 (by decide)
      have e_180 : gI σ_s_179 a 11 = a110 := (hM9.i (by decide)).trans J_175_11
      have e_181 : aF σ_s_179 (ad E a 2) = F2q171 := (hM9.a (by decide) (by decide)).trans J_175_12
      have e_182 : gI σ_s_179 a 22 = G22q173 := (hM9.i (by decide)).trans J_175_14
      replace hsr := hsr.mv hM9 (by decide) (by decide) (by decide) (by decide) (by decide)
      replace hO := hO9
      have hw_178 : (gI σ_J_175 a 13 ≤ gI σ_s_179 a 13 ∧ gI σ_s_179 a 13 ≤ gI σ_J_175 a 11 ∧ 0 ≤ gI σ_s_179 a 17 ∧ gI σ_s_179 a 17 ≤ gI σ_s_179 a 13) ∧ pgo (gI σ_s_179 a 19) (gI σ_s_179 a 14) (gI σ_J_175 a 13) (gI σ_s_179 a 13) ∧ bdo (gI σ_J_175 a 19) (gI σ_s_179 a 19) := hw_178
      exact th_vret hx hb hr hlocks hH hS ⟨hO, hF, hM, ⟨⟨by omega, pgo.of (by have h7 := J_175_8; have h8 := hw_178.2.1; have h6 := hw_178.2.2; unfold pgo at h7 h8; unfold bdo at h6; omega)⟩, by omega, (J_175_10).elim (fun h9 => Or.inl (by have h6 := hw_178.2.2; unfold bdo at h6; omega)) (fun h9 => Or.inr (by rw [show gI σ_s_179 a 22 = G22q173 by omega, show aF σ_s_179 (ad E a 2) = F2q171 from e_181]; exact h9))⟩⟩ dX11_readMany_94
    · replace c_176 := mt (I_eq (a := v4q174) (b := 0) rv4q174 (show rng 0 from ⟨by decide, by decide⟩)).mpr c_176
      refine lv_aload_n hx hb dX11_readMany_25 rfl (lv_at hl 0 rfl) ?_
      refine ok.getI hO h_a (by decide) k13_19 (fun _ _ he hv kk => th_get (ci := 11) (C := RX11) (T := TX11) (N := 66) hx hb hts inX11 hown hK hH he rfl 19 (by decide) fl0 hv dX11_readMany_26 kk) (fun z_183 e_184 rz_183 lz_183 uz_183 => ?_)
      refine lv_if_ne (tgt := 89) hx hb dX11_readMany_29 (by decide) (fun c_185 => ?_) (fun c_185 => ?_)
      · replace c_185 := mt (I_eq (a := z_183) (b := 0) rz_183 (show rng 0 from ⟨by decide, by decide⟩)).mpr c_185
        refine lv_aload_n hx hb dX11_readMany_89 rfl (lv_at hl 0 rfl) ?_
        refine lv_iload_n hx hb dX11_readMany_90 rfl (lv_at hl 3 rfl) ?_
        obtain ⟨_, hc_186⟩ := hO.cell h_a (by decide) (ci := 11) rfl
        refine th_callv (va_runV (As := [.int (I en)]) (rest := []) ⟨hx, hb, hml, hown, hts⟩ (m_need l G y b0 σ_J_175 E hO a h_a en (show rng en from ren) Bf hsr (by omega)) (cwV 1 hts gX11_readMany_X11_need rfl rfl rfl (by decide +kernel) ⟨(by first | (simp only [headSpec]; omega) | omega | (dsimp only; omega)), (by first | (simp only [headSpec]; omega) | omega | (dsimp only; omega))⟩) (th_PV hK hH rfl hc_186) rfl rfl hl.1 rfl (lv_room (Nat.le_of_ble_eq_true rfl)) dX11_readMany_91 ⟨(by first | (simp only [headSpec]; omega) | omega | (dsimp only; omega)), (by first | (simp only [headSpec]; omega) | omega | (dsimp only; omega))⟩) hS (fun σ_s_188 H locs hw_187 hH hS => ?_)
        obtain ⟨hO9, hF9, hM9, hw_187⟩ := hw_187
        replace hM := hM.tu hM9 (by decide)
        replace hF := hF.tu hF9 (by decide)
        have e_189 : gI σ_s_188 a 11 = a110 := (hM9.i (by decide)).trans J_175_11
        have e_190 : aF σ_s_188 (ad E a 2) = F2q171 := (hM9.a (by decide) (by decide)).trans J_175_12
        have e_191 : gI σ_s_188 a 22 = G22q173 := (hM9.i (by decide)).trans J_175_14
        replace hsr := hsr.mv hM9 (by decide) (by decide) (by decide) (by decide) (by decide)
        replace hO := hO9
        have hw_187 : (gI σ_J_175 a 13 ≤ gI σ_s_188 a 13 ∧ gI σ_s_188 a 13 ≤ gI σ_J_175 a 11 ∧ 0 ≤ gI σ_s_188 a 17 ∧ gI σ_s_188 a 17 ≤ gI σ_s_188 a 13) ∧ pgo (gI σ_s_188 a 19) (gI σ_s_188 a 14) (gI σ_J_175 a 13) (gI σ_s_188 a 13) ∧ bdo (gI σ_J_175 a 19) (gI σ_s_188 a 19) := hw_187
        exact th_vret hx hb hr hlocks hH hS ⟨hO, hF, hM, ⟨⟨by omega, pgo.of (by have h7 := J_175_8; have h8 := hw_187.2.1; have h6 := hw_187.2.2; unfold pgo at h7 h8; unfold bdo at h6; omega)⟩, by omega, (J_175_10).elim (fun h9 => Or.inl (by have h6 := hw_187.2.2; unfold bdo at h6; omega)) (fun h9 => Or.inr (by rw [show gI σ_s_188 a 22 = G22q173 by omega, show aF σ_s_188 (ad E a 2) = F2q171 from e_190]; exact h9))⟩⟩ dX11_readMany_94
      · replace c_185 := (I_eq (a := z_183) (b := 0) rz_183 (show rng 0 from ⟨by decide, by decide⟩)).mp c_185
        have hR9 := (J_175_10).resolve_left (by omega)
        have hK9 := hR9.k (by omega)
        refine lv_aload_n hx hb dX11_readMany_32 rfl (lv_at hl 0 rfl) ?_
        refine ok.getR hO h_a (by decide) k13_2 (by decide) (fun _ _ he hv kk => th_get (ci := 11) (C := RX11) (T := TX11) (N := 66) hx hb hts inX11 hown hK hH he rfl 2 (by decide) fl1 hv dX11_readMany_33 kk) ?_
        refine lv_iload_n hx hb dX11_readMany_36 rfl (lv_at hl 1 rfl) ?_
        refine m_iald hx hb hK hH hO h_a k13_2 isA1 J_175_12 rk (by omega) (by omega) dX11_readMany_37 (fun z_192 ez_192 rz_192 elx9 => ?_)
        have hK8 : mK F2q171 (k / 4) = z_192 := (by unfold mK; rw [show 4 * (k / 4) = k by omega]; exact ez_192)
        refine lv_iconst (v := I 3) hx hb dX11_readMany_38 (by decide) ?_
        refine lv_icmp_ne (tgt := 50) hx hb dX11_readMany_39 (by decide) (fun c_193 => ?_) (fun c_193 => ?_)
        · replace c_193 := mt (I_eq (a := z_192) (b := 3) rz_192 (show rng 3 from ⟨by decide, by decide⟩)).mpr c_193
          refine lv_iconst (v := I 0) hx hb dX11_readMany_50 (by decide) ?_
          refine lv_istore (lv' := [(5, .int (I 0)), (0, .ref a), (1, .int (I k)), (2, .int (I dp)), (3, .int (I en)), (4, .int (I v4q174))]) hx hb dX11_readMany_51 hl (by decide) rfl (fun ls hl => ?_)
          refine lv_aload_n hx hb dX11_readMany_53 rfl (lv_at hl 1 rfl) ?_
          refine ok.getIc hO h_a (by decide) k13_19 e_184 (fun _ _ he hv kk => th_get (ci := 11) (C := RX11) (T := TX11) (N := 66) hx hb hts inX11 hown hK hH he rfl 19 (by decide) fl0 hv dX11_readMany_54 kk) ?_
          refine lv_if_ne (tgt := 69) hx hb dX11_readMany_57 (by decide) (fun c_194 => ?_) (fun c_194 => ?_)
          · replace c_194 := mt (I_eq (a := z_183) (b := 0) rz_183 (show rng 0 from ⟨by decide, by decide⟩)).mpr c_194
            refine lv_aload_n hx hb dX11_readMany_69 rfl (lv_at hl 1 rfl) ?_
            refine lv_bipush (v := I 44) hx hb dX11_readMany_70 (by decide) ?_
            obtain ⟨_, hc_195⟩ := hO.cell h_a (by decide) (ci := 11) rfl
            refine th_calli (va_runV (As := [.int (I 44)]) (rest := []) ⟨hx, hb, hml, hown, hts⟩ (m_isMarked l G y b0 σ_J_175 E hO a h_a 44 (show rng 44 from (show rng 44 from ⟨by decide, by decide⟩)) Bf hsr (by omega)) (cwV 1 hts gX11_readMany_X11_isMarked rfl rfl rfl (by decide +kernel) ⟨(by first | (simp only [headSpec]; omega) | omega | (dsimp only; omega)), (by first | (simp only [headSpec]; omega) | omega | (dsimp only; omega))⟩) (th_PV hK hH rfl hc_195) rfl rfl hl.1 rfl (lv_room (Nat.le_of_ble_eq_true rfl)) dX11_readMany_72 ⟨(by first | (simp only [headSpec]; omega) | omega | (dsimp only; omega)), (by first | (simp only [headSpec]; omega) | omega | (dsimp only; omega))⟩) hS (fun z_198 σ_s_197 H locs rz_198 hw_196 hH hS => ?_)
            obtain ⟨e9, bhw_196, hw_196⟩ := hw_196
            replace e9 := e9.symm
            subst e9
            have hw_196 : z_198 = 0 ∨ (z_198 = 1 ∧ gI σ_J_175 a 19 = 0 ∧ gI σ_J_175 a 14 = 3 ∧ Bf (gI σ_J_175 a 17) = 44) := hw_196
            refine lv_istore (lv' := [(4, .int (I z_198)), (5, .int (I 0)), (0, .ref a), (1, .int (I k)), (2, .int (I dp)), (3, .int (I en))]) hx hb dX11_readMany_75 hl (by decide) rfl (fun ls hl => ?_)
            refine lv_iload hx hb dX11_readMany_77 (lv_at hl 0 rfl) ?_
            refine lv_if_eq (tgt := 86) hx hb dX11_readMany_79 (by decide) (fun c_199 => ?_) (fun c_199 => ?_)
            · replace c_199 := (I_eq (a := z_198) (b := 0) rz_198 (show rng 0 from ⟨by decide, by decide⟩)).mp c_199
              clear hw_196
              refine lv_goto (tgt := 20) hx hb dX11_readMany_86 (by decide) ?_
              replace hl : lv_has ls 6 [(4, .int (I z_198)), (0, .ref a), (1, .int (I k)), (2, .int (I dp)), (3, .int (I en))] := lv_sub hl [0, 2, 3, 4, 5] rfl
              exact ihJ_175 (z_198, G13q172, G22q173, F2q171) σ_J_175 _ _ _ (by first | omega | (dsimp only; omega)) ⟨hO, hF, hM, hsr, hH, hS, lv_sub hl [1, 2, 3, 4, 0] rfl, rz_198, rG13q172, rG22q173, by first | omega | (dsimp only; omega), by first | omega | (dsimp only; omega), by first | omega | (dsimp only; omega), by first | omega | (dsimp only; omega), by first | omega | (dsimp only; omega), by first | omega | (dsimp only; omega), by first | omega | (dsimp only; omega), by first | omega | (dsimp only; omega), (by unfold pgo; omega), by first | omega | (dsimp only; omega), (Or.inl (by omega)), J_175_11, J_175_12, J_175_13, J_175_14⟩
            · replace c_199 := mt (I_eq (a := z_198) (b := 0) rz_198 (show rng 0 from ⟨by decide, by decide⟩)).mpr c_199
              replace hw_196 := (hw_196.resolve_left c_199).2
              refine lv_aload_n hx hb dX11_readMany_82 rfl (lv_at hl 2 rfl) ?_
              obtain ⟨_, hc_200⟩ := hO.cell h_a (by decide) (ci := 11) rfl
              refine th_callv (va_runV (As := []) (rest := []) ⟨hx, hb, hml, hown, hts⟩ (m_pass l G y b0 σ_J_175 E hO a h_a Bf hsr (by omega)) (cwV 0 hts gX11_readMany_X11_pass rfl rfl rfl (by decide +kernel) ⟨(by first | (simp only [headSpec]; omega) | omega | (dsimp only; omega)), (by first | (simp only [headSpec]; omega) | omega | (dsimp only; omega))⟩) (th_PV hK hH rfl hc_200) rfl rfl hl.1 rfl (lv_room (Nat.le_of_ble_eq_true rfl)) dX11_readMany_83 ⟨(by first | (simp only [headSpec]; omega) | omega | (dsimp only; omega)), (by first | (simp only [headSpec]; omega) | omega | (dsimp only; omega))⟩) hS (fun σ_s_202 H locs hw_201 hH hS => ?_)
              obtain ⟨hO9, hF9, hM9, hw_201⟩ := hw_201
              replace hM := hM.tu hM9 (by decide)
              replace hF := hF.tu hF9 (by decide)
              have e_203 : gI σ_s_202 a 11 = a110 := (hM9.i (by decide)).trans J_175_11
              have e_204 : aF σ_s_202 (ad E a 2) = F2q171 := (hM9.a (by decide) (by decide)).trans J_175_12
              have e_205 : gI σ_s_202 a 22 = G22q173 := (hM9.i (by decide)).trans J_175_14
              have e_206 : gI σ_s_202 a 19 = z_183 := (hM9.i (by decide)).trans e_184
              replace hsr := hsr.mv hM9 (by decide) (by decide) (by decide) (by decide) (by decide)
              replace hO := hO9
              have hw_201 : (gI σ_J_175 a 13 ≤ gI σ_s_202 a 13 ∧ gI σ_s_202 a 13 ≤ gI σ_J_175 a 11 ∧ 0 ≤ gI σ_s_202 a 17 ∧ gI σ_s_202 a 17 ≤ gI σ_s_202 a 13) ∧ pgo (gI σ_s_202 a 19) (gI σ_s_202 a 14) (gI σ_J_175 a 13) (gI σ_s_202 a 13) ∧ gI σ_s_202 a 19 = gI σ_J_175 a 19 := hw_201
              refine lv_goto (tgt := 20) hx hb dX11_readMany_86 (by decide) ?_
              replace hl : lv_has ls 6 [(4, .int (I z_198)), (0, .ref a), (1, .int (I k)), (2, .int (I dp)), (3, .int (I en))] := lv_sub hl [0, 2, 3, 4, 5] rfl
              obtain ⟨z_207, e_208, rz_207, lz_207, uz_207⟩ := hO.gi h_a (by decide) k13_13
              exact ihJ_175 (z_198, z_207, G22q173, F2q171) σ_s_202 _ _ _ (by first | omega | (dsimp only; omega)) ⟨hO, hF, hM, hsr, hH, hS, lv_sub hl [1, 2, 3, 4, 0] rfl, rz_198, rz_207, rG22q173, by first | omega | (dsimp only; omega), by first | omega | (dsimp only; omega), by first | omega | (dsimp only; omega), by first | omega | (dsimp only; omega), by first | omega | (dsimp only; omega), by first | omega | (dsimp only; omega), by first | omega | (dsimp only; omega), by first | omega | (dsimp only; omega), (by unfold pgo; omega), by first | omega | (dsimp only; omega), (Or.inl (by omega)), e_203, e_204, e_208, e_205⟩
          · replace c_194 := (I_eq (a := z_183) (b := 0) rz_183 (show rng 0 from ⟨by decide, by decide⟩)).mp c_194
            refine lv_aload_n hx hb dX11_readMany_60 rfl (lv_at hl 1 rfl) ?_
            refine lv_iload hx hb dX11_readMany_61 (lv_at hl 0 rfl) ?_
            refine lv_iload_n hx hb dX11_readMany_63 rfl (lv_at hl 3 rfl) ?_
            refine lv_iconst (v := I 1) hx hb dX11_readMany_64 (by decide) ?_
            refine lv_iadd hx hb dX11_readMany_65 ?_
            refine nq_top (I_add _ _) ?_
            obtain ⟨_, hc_209⟩ := hO.cell h_a (by decide) (ci := 11) rfl
            refine th_callv (va_runV (As := [.int (I 0), .int (I (dp + 1))]) (rest := []) ⟨hx, hb, hml, hown, hts⟩ (ih l G y b0 σ_J_175 E hO a h_a 0 (show rng 0 from (show rng 0 from ⟨by decide, by decide⟩)) (dp + 1) (show rng (dp + 1) from ⟨by omega, by omega⟩) (by omega) (by omega) F2q171 J_175_12 Bf hsr (by omega) (by omega) (by omega)) (cwV 2 hts gX11_readMany_X11_readThing rfl rfl rfl (by decide +kernel) ⟨(by first | (simp only [headSpec]; omega) | omega | (dsimp only; omega)), (by first | (simp only [headSpec]; omega) | omega | (dsimp only; omega))⟩) (th_PV hK hH rfl hc_209) rfl rfl hl.1 rfl (lv_room (Nat.le_of_ble_eq_true rfl)) dX11_readMany_66 ⟨(by first | (simp only [headSpec]; omega) | omega | (dsimp only; omega)), (by first | (simp only [headSpec]; omega) | omega | (dsimp only; omega))⟩) hS (fun σ_s_211 H locs hw_210 hH hS => ?_)
            obtain ⟨hO9, hF9, hM9, hw_210⟩ := hw_210
            replace hM := hM.tu hM9 (by decide)
            replace hF := hF.tu hF9 (by decide)
            have e_212 : gI σ_s_211 a 11 = a110 := (hM9.i (by decide)).trans J_175_11
            replace hsr := hsr.mv hM9 (by decide) (by decide) (by decide) (by decide) (by decide)
            replace hO := hO9
            generalize ef_214 : aF σ_s_211 (ad E a 2) = g_213 at hw_210
            have hw_210 : ((gI σ_J_175 a 13 ≤ gI σ_s_211 a 13 ∧ gI σ_s_211 a 13 ≤ gI σ_J_175 a 11 ∧ 0 ≤ gI σ_s_211 a 17 ∧ gI σ_s_211 a 17 ≤ gI σ_s_211 a 13) ∧ pgo (gI σ_s_211 a 19) (gI σ_s_211 a 14) (gI σ_J_175 a 13) (gI σ_s_211 a 13)) ∧ gI σ_J_175 a 22 ≤ gI σ_s_211 a 22 ∧ (¬ gI σ_s_211 a 19 = 0 ∨ rdT F2q171 g_213 (gI σ_J_175 a 22) (gI σ_s_211 a 22) 0) := hw_210
            refine lv_aload_n hx hb dX11_readMany_69 rfl (lv_at hl 1 rfl) ?_
            refine lv_bipush (v := I 44) hx hb dX11_readMany_70 (by decide) ?_
            obtain ⟨_, hc_215⟩ := hO.cell h_a (by decide) (ci := 11) rfl
            refine th_calli (va_runV (As := [.int (I 44)]) (rest := []) ⟨hx, hb, hml, hown, hts⟩ (m_isMarked l G y b0 σ_s_211 E hO a h_a 44 (show rng 44 from (show rng 44 from ⟨by decide, by decide⟩)) Bf hsr (by omega)) (cwV 1 hts gX11_readMany_X11_isMarked rfl rfl rfl (by decide +kernel) ⟨(by first | (simp only [headSpec]; omega) | omega | (dsimp only; omega)), (by first | (simp only [headSpec]; omega) | omega | (dsimp only; omega))⟩) (th_PV hK hH rfl hc_215) rfl rfl hl.1 rfl (lv_room (Nat.le_of_ble_eq_true rfl)) dX11_readMany_72 ⟨(by first | (simp only [headSpec]; omega) | omega | (dsimp only; omega)), (by first | (simp only [headSpec]; omega) | omega | (dsimp only; omega))⟩) hS (fun z_218 σ_s_217 H locs rz_218 hw_216 hH hS => ?_)
            obtain ⟨e9, bhw_216, hw_216⟩ := hw_216
            replace e9 := e9.symm
            subst e9
            have hw_216 : z_218 = 0 ∨ (z_218 = 1 ∧ gI σ_s_211 a 19 = 0 ∧ gI σ_s_211 a 14 = 3 ∧ Bf (gI σ_s_211 a 17) = 44) := hw_216
            refine lv_istore (lv' := [(4, .int (I z_218)), (5, .int (I 0)), (0, .ref a), (1, .int (I k)), (2, .int (I dp)), (3, .int (I en))]) hx hb dX11_readMany_75 hl (by decide) rfl (fun ls hl => ?_)
            refine lv_iload hx hb dX11_readMany_77 (lv_at hl 0 rfl) ?_
            refine lv_if_eq (tgt := 86) hx hb dX11_readMany_79 (by decide) (fun c_219 => ?_) (fun c_219 => ?_)
            · replace c_219 := (I_eq (a := z_218) (b := 0) rz_218 (show rng 0 from ⟨by decide, by decide⟩)).mp c_219
              clear hw_216
              refine lv_goto (tgt := 20) hx hb dX11_readMany_86 (by decide) ?_
              replace hl : lv_has ls 6 [(4, .int (I z_218)), (0, .ref a), (1, .int (I k)), (2, .int (I dp)), (3, .int (I en))] := lv_sub hl [0, 2, 3, 4, 5] rfl
              obtain ⟨z_220, e_221, rz_220, lz_220, uz_220⟩ := hO.gi h_a (by decide) k13_13
              obtain ⟨z_222, e_223, rz_222, lz_222, uz_222⟩ := hO.gi h_a (by decide) k13_22
              exact ihJ_175 (z_218, z_220, z_222, g_213) σ_s_211 _ _ _ (by have h8 := hw_210.1.2; unfold pgo at h8; first | omega | (dsimp only; omega)) ⟨hO, hF, hM, hsr, hH, hS, lv_sub hl [1, 2, 3, 4, 0] rfl, rz_218, rz_220, rz_222, by first | omega | (dsimp only; omega), by first | omega | (dsimp only; omega), by first | omega | (dsimp only; omega), by first | omega | (dsimp only; omega), by first | omega | (dsimp only; omega), by first | omega | (dsimp only; omega), by first | omega | (dsimp only; omega), by first | omega | (dsimp only; omega), (by have h8 := hw_210.1.2; unfold pgo at h8; unfold pgo; omega), by first | omega | (dsimp only; omega), (hw_210.2.2.elim (fun h9 => Or.inl (by omega)) (fun h9 => Or.inr (by rw [show z_222 = gI σ_s_211 a 22 by omega]; exact hR9.step (by rwa [show gI σ_J_175 a 22 = G22q173 by omega] at h9) (by intro h9; first | exact absurd h9 (by omega) | (have h8 := hX.2.2.resolve_left (by omega); rwa [show gI σ a 22 = G22q173 by omega] at h8)) (by omega)))), e_212, ef_214, e_221, e_223⟩
            · replace c_219 := mt (I_eq (a := z_218) (b := 0) rz_218 (show rng 0 from ⟨by decide, by decide⟩)).mpr c_219
              replace hw_216 := (hw_216.resolve_left c_219).2
              refine lv_aload_n hx hb dX11_readMany_82 rfl (lv_at hl 2 rfl) ?_
              obtain ⟨_, hc_224⟩ := hO.cell h_a (by decide) (ci := 11) rfl
              refine th_callv (va_runV (As := []) (rest := []) ⟨hx, hb, hml, hown, hts⟩ (m_pass l G y b0 σ_s_211 E hO a h_a Bf hsr (by omega)) (cwV 0 hts gX11_readMany_X11_pass rfl rfl rfl (by decide +kernel) ⟨(by first | (simp only [headSpec]; omega) | omega | (dsimp only; omega)), (by first | (simp only [headSpec]; omega) | omega | (dsimp only; omega))⟩) (th_PV hK hH rfl hc_224) rfl rfl hl.1 rfl (lv_room (Nat.le_of_ble_eq_true rfl)) dX11_readMany_83 ⟨(by first | (simp only [headSpec]; omega) | omega | (dsimp only; omega)), (by first | (simp only [headSpec]; omega) | omega | (dsimp only; omega))⟩) hS (fun σ_s_226 H locs hw_225 hH hS => ?_)
              obtain ⟨hO9, hF9, hM9, hw_225⟩ := hw_225
              replace hM := hM.tu hM9 (by decide)
              replace hF := hF.tu hF9 (by decide)
              have e_227 : gI σ_s_226 a 11 = a110 := (hM9.i (by decide)).trans e_212
              have e_228 : aF σ_s_226 (ad E a 2) = g_213 := (hM9.a (by decide) (by decide)).trans ef_214
              replace hsr := hsr.mv hM9 (by decide) (by decide) (by decide) (by decide) (by decide)
              replace hO := hO9
              have hw_225 : (gI σ_s_211 a 13 ≤ gI σ_s_226 a 13 ∧ gI σ_s_226 a 13 ≤ gI σ_s_211 a 11 ∧ 0 ≤ gI σ_s_226 a 17 ∧ gI σ_s_226 a 17 ≤ gI σ_s_226 a 13) ∧ pgo (gI σ_s_226 a 19) (gI σ_s_226 a 14) (gI σ_s_211 a 13) (gI σ_s_226 a 13) ∧ gI σ_s_226 a 19 = gI σ_s_211 a 19 := hw_225
              refine lv_goto (tgt := 20) hx hb dX11_readMany_86 (by decide) ?_
              replace hl : lv_has ls 6 [(4, .int (I z_218)), (0, .ref a), (1, .int (I k)), (2, .int (I dp)), (3, .int (I en))] := lv_sub hl [0, 2, 3, 4, 5] rfl
              obtain ⟨z_229, e_230, rz_229, lz_229, uz_229⟩ := hO.gi h_a (by decide) k13_13
              obtain ⟨z_231, e_232, rz_231, lz_231, uz_231⟩ := hO.gi h_a (by decide) k13_22
              exact ihJ_175 (z_218, z_229, z_231, g_213) σ_s_226 _ _ _ (by have h8 := hw_210.1.2; unfold pgo at h8; first | omega | (dsimp only; omega)) ⟨hO, hF, hM, hsr, hH, hS, lv_sub hl [1, 2, 3, 4, 0] rfl, rz_218, rz_229, rz_231, by first | omega | (dsimp only; omega), by first | omega | (dsimp only; omega), by first | omega | (dsimp only; omega), by first | omega | (dsimp only; omega), by first | omega | (dsimp only; omega), by first | omega | (dsimp only; omega), by first | omega | (dsimp only; omega), by first | omega | (dsimp only; omega), (by have h8 := hw_210.1.2; unfold pgo at h8; unfold pgo; omega), by first | omega | (dsimp only; omega), (hw_210.2.2.elim (fun h9 => Or.inl (by omega)) (fun h9 => Or.inr (by rw [show z_231 = gI σ_s_211 a 22 by omega]; exact hR9.step (by rwa [show gI σ_J_175 a 22 = G22q173 by omega] at h9) (by intro h9; first | exact absurd h9 (by omega) | (have h8 := hX.2.2.resolve_left (by omega); rwa [show gI σ a 22 = G22q173 by omega] at h8)) (by omega)))), e_227, e_228, e_230, e_232⟩
        · replace c_193 := (I_eq (a := z_192) (b := 3) rz_192 (show rng 3 from ⟨by decide, by decide⟩)).mp c_193
          refine lv_aload_n hx hb dX11_readMany_42 rfl (lv_at hl 0 rfl) ?_
          refine lv_iload_n hx hb dX11_readMany_43 rfl (lv_at hl 1 rfl) ?_
          obtain ⟨_, hc_233⟩ := hO.cell h_a (by decide) (ci := 11) rfl
          refine th_calli (va_runV (As := [.int (I k)]) (rest := []) ⟨hx, hb, hml, hown, hts⟩ (m_readKey l G y b0 σ_J_175 E hO a h_a k (show rng k from rk) (by omega) (by omega) F2q171 J_175_12 Bf hsr (by omega) (by omega) (by omega) (hR9.1.1) (by omega)) (cwV 1 hts gX11_readMany_X11_readKey rfl rfl rfl (by decide +kernel) ⟨(by first | (simp only [headSpec]; omega) | omega | (dsimp only; omega)), (by first | (simp only [headSpec]; omega) | omega | (dsimp only; omega))⟩) (th_PV hK hH rfl hc_233) rfl rfl hl.1 rfl (lv_room (Nat.le_of_ble_eq_true rfl)) dX11_readMany_44 ⟨(by first | (simp only [headSpec]; omega) | omega | (dsimp only; omega)), (by first | (simp only [headSpec]; omega) | omega | (dsimp only; omega))⟩) hS (fun z_236 σ_s_235 H locs rz_236 hw_234 hH hS => ?_)
          obtain ⟨hO9, hF9, hM9, hw_234⟩ := hw_234
          replace hM := hM.tu hM9 (by decide)
          replace hF := hF.tu hF9 (by decide)
          have e_237 : gI σ_s_235 a 11 = a110 := (hM9.i (by decide)).trans J_175_11
          have e_238 : aF σ_s_235 (ad E a 2) = F2q171 := (hM9.a (by decide) (by decide)).trans J_175_12
          have e_239 : gI σ_s_235 a 22 = G22q173 := (hM9.i (by decide)).trans J_175_14
          replace hsr := hsr.mv hM9 (by decide) (by decide) (by decide) (by decide) (by decide)
          replace hO := hO9
          have hw_234 : ((gI σ_J_175 a 13 ≤ gI σ_s_235 a 13 ∧ gI σ_s_235 a 13 ≤ gI σ_J_175 a 11 ∧ 0 ≤ gI σ_s_235 a 17 ∧ gI σ_s_235 a 17 ≤ gI σ_s_235 a 13) ∧ pgo (gI σ_s_235 a 19) (gI σ_s_235 a 14) (gI σ_J_175 a 13) (gI σ_s_235 a 13)) ∧ bdo (gI σ_J_175 a 19) (gI σ_s_235 a 19) ∧ (¬ gI σ_s_235 a 19 = 0 ∨ nok F2q171 (k / 4 + 1) (gI σ_J_175 a 22) z_236) := hw_234
          refine lv_goto (tgt := 51) hx hb dX11_readMany_47 (by decide) ?_
          refine lv_istore (lv' := [(5, .int (I z_236)), (0, .ref a), (1, .int (I k)), (2, .int (I dp)), (3, .int (I en)), (4, .int (I v4q174))]) hx hb dX11_readMany_51 hl (by decide) rfl (fun ls hl => ?_)
          refine lv_aload_n hx hb dX11_readMany_53 rfl (lv_at hl 1 rfl) ?_
          refine ok.getI hO h_a (by decide) k13_19 (fun _ _ he hv kk => th_get (ci := 11) (C := RX11) (T := TX11) (N := 66) hx hb hts inX11 hown hK hH he rfl 19 (by decide) fl0 hv dX11_readMany_54 kk) (fun z_240 e_241 rz_240 lz_240 uz_240 => ?_)
          refine lv_if_ne (tgt := 69) hx hb dX11_readMany_57 (by decide) (fun c_242 => ?_) (fun c_242 => ?_)
          · replace c_242 := mt (I_eq (a := z_240) (b := 0) rz_240 (show rng 0 from ⟨by decide, by decide⟩)).mpr c_242
            refine lv_aload_n hx hb dX11_readMany_69 rfl (lv_at hl 1 rfl) ?_
            refine lv_bipush (v := I 44) hx hb dX11_readMany_70 (by decide) ?_
            obtain ⟨_, hc_243⟩ := hO.cell h_a (by decide) (ci := 11) rfl
            refine th_calli (va_runV (As := [.int (I 44)]) (rest := []) ⟨hx, hb, hml, hown, hts⟩ (m_isMarked l G y b0 σ_s_235 E hO a h_a 44 (show rng 44 from (show rng 44 from ⟨by decide, by decide⟩)) Bf hsr (by omega)) (cwV 1 hts gX11_readMany_X11_isMarked rfl rfl rfl (by decide +kernel) ⟨(by first | (simp only [headSpec]; omega) | omega | (dsimp only; omega)), (by first | (simp only [headSpec]; omega) | omega | (dsimp only; omega))⟩) (th_PV hK hH rfl hc_243) rfl rfl hl.1 rfl (lv_room (Nat.le_of_ble_eq_true rfl)) dX11_readMany_72 ⟨(by first | (simp only [headSpec]; omega) | omega | (dsimp only; omega)), (by first | (simp only [headSpec]; omega) | omega | (dsimp only; omega))⟩) hS (fun z_246 σ_s_245 H locs rz_246 hw_244 hH hS => ?_)
            obtain ⟨e9, bhw_244, hw_244⟩ := hw_244
            replace e9 := e9.symm
            subst e9
            have hw_244 : z_246 = 0 ∨ (z_246 = 1 ∧ gI σ_s_235 a 19 = 0 ∧ gI σ_s_235 a 14 = 3 ∧ Bf (gI σ_s_235 a 17) = 44) := hw_244
            refine lv_istore (lv' := [(4, .int (I z_246)), (5, .int (I z_236)), (0, .ref a), (1, .int (I k)), (2, .int (I dp)), (3, .int (I en))]) hx hb dX11_readMany_75 hl (by decide) rfl (fun ls hl => ?_)
            refine lv_iload hx hb dX11_readMany_77 (lv_at hl 0 rfl) ?_
            refine lv_if_eq (tgt := 86) hx hb dX11_readMany_79 (by decide) (fun c_247 => ?_) (fun c_247 => ?_)
            · replace c_247 := (I_eq (a := z_246) (b := 0) rz_246 (show rng 0 from ⟨by decide, by decide⟩)).mp c_247
              clear hw_244
              refine lv_goto (tgt := 20) hx hb dX11_readMany_86 (by decide) ?_
              replace hl : lv_has ls 6 [(4, .int (I z_246)), (0, .ref a), (1, .int (I k)), (2, .int (I dp)), (3, .int (I en))] := lv_sub hl [0, 2, 3, 4, 5] rfl
              obtain ⟨z_248, e_249, rz_248, lz_248, uz_248⟩ := hO.gi h_a (by decide) k13_13
              exact ihJ_175 (z_246, z_248, G22q173, F2q171) σ_s_235 _ _ _ (by first | omega | (dsimp only; omega)) ⟨hO, hF, hM, hsr, hH, hS, lv_sub hl [1, 2, 3, 4, 0] rfl, rz_246, rz_248, rG22q173, by first | omega | (dsimp only; omega), by first | omega | (dsimp only; omega), by first | omega | (dsimp only; omega), by first | omega | (dsimp only; omega), by first | omega | (dsimp only; omega), by first | omega | (dsimp only; omega), by first | omega | (dsimp only; omega), by first | omega | (dsimp only; omega), (by unfold pgo; omega), by first | omega | (dsimp only; omega), (Or.inl (by omega)), e_237, e_238, e_249, e_239⟩
            · replace c_247 := mt (I_eq (a := z_246) (b := 0) rz_246 (show rng 0 from ⟨by decide, by decide⟩)).mpr c_247
              replace hw_244 := (hw_244.resolve_left c_247).2
              refine lv_aload_n hx hb dX11_readMany_82 rfl (lv_at hl 2 rfl) ?_
              obtain ⟨_, hc_250⟩ := hO.cell h_a (by decide) (ci := 11) rfl
              refine th_callv (va_runV (As := []) (rest := []) ⟨hx, hb, hml, hown, hts⟩ (m_pass l G y b0 σ_s_235 E hO a h_a Bf hsr (by omega)) (cwV 0 hts gX11_readMany_X11_pass rfl rfl rfl (by decide +kernel) ⟨(by first | (simp only [headSpec]; omega) | omega | (dsimp only; omega)), (by first | (simp only [headSpec]; omega) | omega | (dsimp only; omega))⟩) (th_PV hK hH rfl hc_250) rfl rfl hl.1 rfl (lv_room (Nat.le_of_ble_eq_true rfl)) dX11_readMany_83 ⟨(by first | (simp only [headSpec]; omega) | omega | (dsimp only; omega)), (by first | (simp only [headSpec]; omega) | omega | (dsimp only; omega))⟩) hS (fun σ_s_252 H locs hw_251 hH hS => ?_)
              obtain ⟨hO9, hF9, hM9, hw_251⟩ := hw_251
              replace hM := hM.tu hM9 (by decide)
              replace hF := hF.tu hF9 (by decide)
              have e_253 : gI σ_s_252 a 11 = a110 := (hM9.i (by decide)).trans e_237
              have e_254 : aF σ_s_252 (ad E a 2) = F2q171 := (hM9.a (by decide) (by decide)).trans e_238
              have e_255 : gI σ_s_252 a 22 = G22q173 := (hM9.i (by decide)).trans e_239
              have e_256 : gI σ_s_252 a 19 = z_240 := (hM9.i (by decide)).trans e_241
              replace hsr := hsr.mv hM9 (by decide) (by decide) (by decide) (by decide) (by decide)
              replace hO := hO9
              have hw_251 : (gI σ_s_235 a 13 ≤ gI σ_s_252 a 13 ∧ gI σ_s_252 a 13 ≤ gI σ_s_235 a 11 ∧ 0 ≤ gI σ_s_252 a 17 ∧ gI σ_s_252 a 17 ≤ gI σ_s_252 a 13) ∧ pgo (gI σ_s_252 a 19) (gI σ_s_252 a 14) (gI σ_s_235 a 13) (gI σ_s_252 a 13) ∧ gI σ_s_252 a 19 = gI σ_s_235 a 19 := hw_251
              refine lv_goto (tgt := 20) hx hb dX11_readMany_86 (by decide) ?_
              replace hl : lv_has ls 6 [(4, .int (I z_246)), (0, .ref a), (1, .int (I k)), (2, .int (I dp)), (3, .int (I en))] := lv_sub hl [0, 2, 3, 4, 5] rfl
              obtain ⟨z_257, e_258, rz_257, lz_257, uz_257⟩ := hO.gi h_a (by decide) k13_13
              exact ihJ_175 (z_246, z_257, G22q173, F2q171) σ_s_252 _ _ _ (by first | omega | (dsimp only; omega)) ⟨hO, hF, hM, hsr, hH, hS, lv_sub hl [1, 2, 3, 4, 0] rfl, rz_246, rz_257, rG22q173, by first | omega | (dsimp only; omega), by first | omega | (dsimp only; omega), by first | omega | (dsimp only; omega), by first | omega | (dsimp only; omega), by first | omega | (dsimp only; omega), by first | omega | (dsimp only; omega), by first | omega | (dsimp only; omega), by first | omega | (dsimp only; omega), (by unfold pgo; omega), by first | omega | (dsimp only; omega), (Or.inl (by omega)), e_253, e_254, e_258, e_255⟩
          · replace c_242 := (I_eq (a := z_240) (b := 0) rz_240 (show rng 0 from ⟨by decide, by decide⟩)).mp c_242
            refine lv_aload_n hx hb dX11_readMany_60 rfl (lv_at hl 1 rfl) ?_
            refine lv_iload hx hb dX11_readMany_61 (lv_at hl 0 rfl) ?_
            refine lv_iload_n hx hb dX11_readMany_63 rfl (lv_at hl 3 rfl) ?_
            refine lv_iconst (v := I 1) hx hb dX11_readMany_64 (by decide) ?_
            refine lv_iadd hx hb dX11_readMany_65 ?_
            refine nq_top (I_add _ _) ?_
            obtain ⟨_, hc_259⟩ := hO.cell h_a (by decide) (ci := 11) rfl
            refine th_callv (va_runV (As := [.int (I z_236), .int (I (dp + 1))]) (rest := []) ⟨hx, hb, hml, hown, hts⟩ (ih l G y b0 σ_s_235 E hO a h_a z_236 (show rng z_236 from rz_236) (dp + 1) (show rng (dp + 1) from ⟨by omega, by omega⟩) (by omega) (by omega) F2q171 e_238 Bf hsr (by omega) (by omega) (by omega)) (cwV 2 hts gX11_readMany_X11_readThing rfl rfl rfl (by decide +kernel) ⟨(by first | (simp only [headSpec]; omega) | omega | (dsimp only; omega)), (by first | (simp only [headSpec]; omega) | omega | (dsimp only; omega))⟩) (th_PV hK hH rfl hc_259) rfl rfl hl.1 rfl (lv_room (Nat.le_of_ble_eq_true rfl)) dX11_readMany_66 ⟨(by first | (simp only [headSpec]; omega) | omega | (dsimp only; omega)), (by first | (simp only [headSpec]; omega) | omega | (dsimp only; omega))⟩) hS (fun σ_s_261 H locs hw_260 hH hS => ?_)
            obtain ⟨hO9, hF9, hM9, hw_260⟩ := hw_260
            replace hM := hM.tu hM9 (by decide)
            replace hF := hF.tu hF9 (by decide)
            have e_262 : gI σ_s_261 a 11 = a110 := (hM9.i (by decide)).trans e_237
            replace hsr := hsr.mv hM9 (by decide) (by decide) (by decide) (by decide) (by decide)
            replace hO := hO9
            generalize ef_264 : aF σ_s_261 (ad E a 2) = g_263 at hw_260
            have hw_260 : ((gI σ_s_235 a 13 ≤ gI σ_s_261 a 13 ∧ gI σ_s_261 a 13 ≤ gI σ_s_235 a 11 ∧ 0 ≤ gI σ_s_261 a 17 ∧ gI σ_s_261 a 17 ≤ gI σ_s_261 a 13) ∧ pgo (gI σ_s_261 a 19) (gI σ_s_261 a 14) (gI σ_s_235 a 13) (gI σ_s_261 a 13)) ∧ gI σ_s_235 a 22 ≤ gI σ_s_261 a 22 ∧ (¬ gI σ_s_261 a 19 = 0 ∨ rdT F2q171 g_263 (gI σ_s_235 a 22) (gI σ_s_261 a 22) z_236) := hw_260
            refine lv_aload_n hx hb dX11_readMany_69 rfl (lv_at hl 1 rfl) ?_
            refine lv_bipush (v := I 44) hx hb dX11_readMany_70 (by decide) ?_
            obtain ⟨_, hc_265⟩ := hO.cell h_a (by decide) (ci := 11) rfl
            refine th_calli (va_runV (As := [.int (I 44)]) (rest := []) ⟨hx, hb, hml, hown, hts⟩ (m_isMarked l G y b0 σ_s_261 E hO a h_a 44 (show rng 44 from (show rng 44 from ⟨by decide, by decide⟩)) Bf hsr (by omega)) (cwV 1 hts gX11_readMany_X11_isMarked rfl rfl rfl (by decide +kernel) ⟨(by first | (simp only [headSpec]; omega) | omega | (dsimp only; omega)), (by first | (simp only [headSpec]; omega) | omega | (dsimp only; omega))⟩) (th_PV hK hH rfl hc_265) rfl rfl hl.1 rfl (lv_room (Nat.le_of_ble_eq_true rfl)) dX11_readMany_72 ⟨(by first | (simp only [headSpec]; omega) | omega | (dsimp only; omega)), (by first | (simp only [headSpec]; omega) | omega | (dsimp only; omega))⟩) hS (fun z_268 σ_s_267 H locs rz_268 hw_266 hH hS => ?_)
            obtain ⟨e9, bhw_266, hw_266⟩ := hw_266
            replace e9 := e9.symm
            subst e9
            have hw_266 : z_268 = 0 ∨ (z_268 = 1 ∧ gI σ_s_261 a 19 = 0 ∧ gI σ_s_261 a 14 = 3 ∧ Bf (gI σ_s_261 a 17) = 44) := hw_266
            refine lv_istore (lv' := [(4, .int (I z_268)), (5, .int (I z_236)), (0, .ref a), (1, .int (I k)), (2, .int (I dp)), (3, .int (I en))]) hx hb dX11_readMany_75 hl (by decide) rfl (fun ls hl => ?_)
            refine lv_iload hx hb dX11_readMany_77 (lv_at hl 0 rfl) ?_
            refine lv_if_eq (tgt := 86) hx hb dX11_readMany_79 (by decide) (fun c_269 => ?_) (fun c_269 => ?_)
            · replace c_269 := (I_eq (a := z_268) (b := 0) rz_268 (show rng 0 from ⟨by decide, by decide⟩)).mp c_269
              clear hw_266
              refine lv_goto (tgt := 20) hx hb dX11_readMany_86 (by decide) ?_
              replace hl : lv_has ls 6 [(4, .int (I z_268)), (0, .ref a), (1, .int (I k)), (2, .int (I dp)), (3, .int (I en))] := lv_sub hl [0, 2, 3, 4, 5] rfl
              obtain ⟨z_270, e_271, rz_270, lz_270, uz_270⟩ := hO.gi h_a (by decide) k13_13
              obtain ⟨z_272, e_273, rz_272, lz_272, uz_272⟩ := hO.gi h_a (by decide) k13_22
              exact ihJ_175 (z_268, z_270, z_272, g_263) σ_s_261 _ _ _ (by have h8 := hw_260.1.2; unfold pgo at h8; first | omega | (dsimp only; omega)) ⟨hO, hF, hM, hsr, hH, hS, lv_sub hl [1, 2, 3, 4, 0] rfl, rz_268, rz_270, rz_272, by first | omega | (dsimp only; omega), by first | omega | (dsimp only; omega), by first | omega | (dsimp only; omega), by first | omega | (dsimp only; omega), by first | omega | (dsimp only; omega), by first | omega | (dsimp only; omega), by first | omega | (dsimp only; omega), by first | omega | (dsimp only; omega), (by have h8 := hw_260.1.2; unfold pgo at h8; unfold pgo; omega), by first | omega | (dsimp only; omega), (hw_260.2.2.elim (fun h9 => Or.inl (by omega)) (fun h9 => Or.inr (by rw [show z_272 = gI σ_s_261 a 22 by omega]; exact hR9.step (by rwa [show gI σ_s_235 a 22 = G22q173 by omega] at h9) (by intro h9; first | exact absurd h9 (by omega) | (have h8 := hw_234.2.2.resolve_left (by omega); rwa [show gI σ_J_175 a 22 = G22q173 by omega] at h8)) (by omega)))), e_262, ef_264, e_271, e_273⟩
            · replace c_269 := mt (I_eq (a := z_268) (b := 0) rz_268 (show rng 0 from ⟨by decide, by decide⟩)).mpr c_269
              replace hw_266 := (hw_266.resolve_left c_269).2
              refine lv_aload_n hx hb dX11_readMany_82 rfl (lv_at hl 2 rfl) ?_
              obtain ⟨_, hc_274⟩ := hO.cell h_a (by decide) (ci := 11) rfl
              refine th_callv (va_runV (As := []) (rest := []) ⟨hx, hb, hml, hown, hts⟩ (m_pass l G y b0 σ_s_261 E hO a h_a Bf hsr (by omega)) (cwV 0 hts gX11_readMany_X11_pass rfl rfl rfl (by decide +kernel) ⟨(by first | (simp only [headSpec]; omega) | omega | (dsimp only; omega)), (by first | (simp only [headSpec]; omega) | omega | (dsimp only; omega))⟩) (th_PV hK hH rfl hc_274) rfl rfl hl.1 rfl (lv_room (Nat.le_of_ble_eq_true rfl)) dX11_readMany_83 ⟨(by first | (simp only [headSpec]; omega) | omega | (dsimp only; omega)), (by first | (simp only [headSpec]; omega) | omega | (dsimp only; omega))⟩) hS (fun σ_s_276 H locs hw_275 hH hS => ?_)
              obtain ⟨hO9, hF9, hM9, hw_275⟩ := hw_275
              replace hM := hM.tu hM9 (by decide)
              replace hF := hF.tu hF9 (by decide)
              have e_277 : gI σ_s_276 a 11 = a110 := (hM9.i (by decide)).trans e_262
              have e_278 : aF σ_s_276 (ad E a 2) = g_263 := (hM9.a (by decide) (by decide)).trans ef_264
              replace hsr := hsr.mv hM9 (by decide) (by decide) (by decide) (by decide) (by decide)
              replace hO := hO9
              have hw_275 : (gI σ_s_261 a 13 ≤ gI σ_s_276 a 13 ∧ gI σ_s_276 a 13 ≤ gI σ_s_261 a 11 ∧ 0 ≤ gI σ_s_276 a 17 ∧ gI σ_s_276 a 17 ≤ gI σ_s_276 a 13) ∧ pgo (gI σ_s_276 a 19) (gI σ_s_276 a 14) (gI σ_s_261 a 13) (gI σ_s_276 a 13) ∧ gI σ_s_276 a 19 = gI σ_s_261 a 19 := hw_275
              refine lv_goto (tgt := 20) hx hb dX11_readMany_86 (by decide) ?_
              replace hl : lv_has ls 6 [(4, .int (I z_268)), (0, .ref a), (1, .int (I k)), (2, .int (I dp)), (3, .int (I en))] := lv_sub hl [0, 2, 3, 4, 5] rfl
              obtain ⟨z_279, e_280, rz_279, lz_279, uz_279⟩ := hO.gi h_a (by decide) k13_13
              obtain ⟨z_281, e_282, rz_281, lz_281, uz_281⟩ := hO.gi h_a (by decide) k13_22
              exact ihJ_175 (z_268, z_279, z_281, g_263) σ_s_276 _ _ _ (by have h8 := hw_260.1.2; unfold pgo at h8; first | omega | (dsimp only; omega)) ⟨hO, hF, hM, hsr, hH, hS, lv_sub hl [1, 2, 3, 4, 0] rfl, rz_268, rz_279, rz_281, by first | omega | (dsimp only; omega), by first | omega | (dsimp only; omega), by first | omega | (dsimp only; omega), by first | omega | (dsimp only; omega), by first | omega | (dsimp only; omega), by first | omega | (dsimp only; omega), by first | omega | (dsimp only; omega), by first | omega | (dsimp only; omega), (by have h8 := hw_260.1.2; unfold pgo at h8; unfold pgo; omega), by first | omega | (dsimp only; omega), (hw_260.2.2.elim (fun h9 => Or.inl (by omega)) (fun h9 => Or.inr (by rw [show z_281 = gI σ_s_261 a 22 by omega]; exact hR9.step (by rwa [show gI σ_s_235 a 22 = G22q173 by omega] at h9) (by intro h9; first | exact absurd h9 (by omega) | (have h8 := hw_234.2.2.resolve_left (by omega); rwa [show gI σ_J_175 a 22 = G22q173 by omega] at h8)) (by omega)))), e_277, e_278, e_280, e_282⟩
  · replace c_12 := mt (I_eq (a := z_11) (b := 0) rz_11 (show rng 0 from ⟨by decide, by decide⟩)).mpr c_12
    replace hw_9 := (hw_9.resolve_left c_12).2
    refine lv_aload_n hx hb dX11_readMany_12 rfl (lv_at hl 0 rfl) ?_
    obtain ⟨_, hc_283⟩ := hO.cell h_a (by decide) (ci := 11) rfl
    refine th_callv (va_runV (As := []) (rest := []) ⟨hx, hb, hml, hown, hts⟩ (m_pass l G y b0 σ_s_3 E hO a h_a Bf hsr (by omega)) (cwV 0 hts gX11_readMany_X11_pass rfl rfl rfl (by decide +kernel) ⟨(by first | (simp only [headSpec]; omega) | omega | (dsimp only; omega)), (by first | (simp only [headSpec]; omega) | omega | (dsimp only; omega))⟩) (th_PV hK hH rfl hc_283) rfl rfl hl.1 rfl (lv_room (Nat.le_of_ble_eq_true rfl)) dX11_readMany_13 ⟨(by first | (simp only [headSpec]; omega) | omega | (dsimp only; omega)), (by first | (simp only [headSpec]; omega) | omega | (dsimp only; omega))⟩) hS (fun σ_s_285 H locs hw_284 hH hS => ?_)
    obtain ⟨hO9, hF9, hM9, hw_284⟩ := hw_284
    replace hM := hM.tu hM9 (by decide)
    replace hF := hF.tu hF9 (by decide)
    have e_286 : aF σ_s_285 (ad E a 2) = f2 := (hM9.a (by decide) (by decide)).trans e_4
    have e_287 : gI σ_s_285 a 11 = a110 := (hM9.i (by decide)).trans e_5
    have e_288 : gI σ_s_285 a 19 = a190 := (hM9.i (by decide)).trans e_6
    have e_289 : gI σ_s_285 a 22 = a220 := (hM9.i (by decide)).trans e_7
    replace hsr := hsr.mv hM9 (by decide) (by decide) (by decide) (by decide) (by decide)
    replace hO := hO9
    have hw_284 : (gI σ_s_3 a 13 ≤ gI σ_s_285 a 13 ∧ gI σ_s_285 a 13 ≤ gI σ_s_3 a 11 ∧ 0 ≤ gI σ_s_285 a 17 ∧ gI σ_s_285 a 17 ≤ gI σ_s_285 a 13) ∧ pgo (gI σ_s_285 a 19) (gI σ_s_285 a 14) (gI σ_s_3 a 13) (gI σ_s_285 a 13) ∧ gI σ_s_285 a 19 = gI σ_s_3 a 19 := hw_284
    exact th_vret hx hb hr hlocks hH hS ⟨hO, hF, hM, ⟨⟨by omega, pgo.of (by have h7 := hw_2.2.1; have h8 := hw_284.2.1; unfold pgo at h7 h8; omega)⟩, by omega, Or.inr (by rw [show gI σ_s_285 a 22 = k / 4 + 1 by omega]; exact rdF.zero (by rw [show aF σ_s_285 (ad E a 2) = f2 from e_286]; exact same.rf))⟩⟩ dX11_readMany_16

set_option maxHeartbeats 1000000 in
set_option maxRecDepth 100000 in
theorem m_readThing (n : Nat) : ∀ (l : Launch) (G : va_G) (y : Nat → ClassId) (b0 : Nat) (σ : th_M) (E : th_E) (hO : ok y E σ) (a : Nat) (h_a : kd E a = 13) (ky : Int) (rky : rng ky) (dp : Int) (rdp : rng dp) (l_dp : 0 ≤ dp) (u_dp : dp ≤ 8) (f2 : Nat → Int32) (ef2 : aF σ (ad E a 2) = f2) (Bf : Int → Int) (hsr : sr E σ a Bf) (hy0 : 0 ≤ gI σ a 17 ∧ gI σ a 17 ≤ gI σ a 13 ∧ gI σ a 13 ≤ gI σ a 11 ∧ gI σ a 11 ≤ 400) (hy1 : gI σ a 19 = 0) (hn : (8 - dp).toNat < n), Met l yX11_readThing wsX11_readThing ({ frames := 4*n+12, cells := 0, slots := 0, locals := (120*n+900) }) (th_P G y b0 σ [.ref a, .int (I ky), .int (I dp)]) (th_Qv G b0 (fun σ1 => ok y E σ1 ∧ fr [13] E σ σ1 ∧ fm [13, 14, 15, 16, 17, 18, 19, 20, 2, 22] E σ σ1 a ∧ (((gI σ a 13 ≤ gI σ1 a 13 ∧ gI σ1 a 13 ≤ gI σ a 11 ∧ 0 ≤ gI σ1 a 17 ∧ gI σ1 a 17 ≤ gI σ1 a 13) ∧ pgo (gI σ1 a 19) (gI σ1 a 14) (gI σ a 13) (gI σ1 a 13)) ∧ gI σ a 22 ≤ gI σ1 a 22 ∧ (¬ gI σ1 a 19 = 0 ∨ rdT f2 (aF σ1 (ad E a 2)) (gI σ a 22) (gI σ1 a 22) ky)))) 0 0 (th_A b0) := by
  induction n with
  | zero => intro l G y b0 σ E hO a h_a ky rky dp rdp l_dp u_dp f2 ef2 Bf hsr hy0 hy1 hn; exact absurd hn (Nat.not_lt_zero _)
  | succ n ih =>
    intro l G y b0 σ E hO a h_a ky rky dp rdp l_dp u_dp f2 ef2 Bf hsr hy0 hy1 hn
    refine Met.ofW (cc := cX11_readThing) (maxL := 5) (ret := none) (by decide) rfl ?_
    intro p e s m args below meth c s₁ B hml hv
    obtain ⟨rfl, hH, hK⟩ := hv
    have hx := B.exec
    have hb := B.bytes
    have hr := B.returns
    have hts := atoms_spec (ws := wsX11_readThing) B.pre
    have hown : s.vm.findClass RX11 = some m.cls := findClass_of_methodNamed B.named
    have hlocks := B.notSynchronized
    have h00 : b0 ≤ s.heap.size := hH.1
    have hS : va_S (th_A b0) s.heap s.heap [] := va_S.rf
    have hF : fr [13] E σ σ := fr.rf
    have hM : fm [13, 14, 15, 16, 17, 18, 19, 20, 2, 22] E σ σ a := fm.rf
    have inX11 : ∀ w ∈ wsX110, w ∈ wsX11_readThing := by decide +kernel
    have fl0 := hts (.fieldLink RX11 136 "NestQueryModel" "token" "I") (by decide +kernel)
    have fl1 := hts (.fieldLink RX11 162 "NestQueryModel" "bad" "I") (by decide +kernel)
    have fl2 := hts (.fieldLink RX11 188 "NestQueryModel" "dataMany" "I") (by decide +kernel)
    have fl3 := hts (.fieldLink RX11 13 "NestQueryModel" "data" "[I") (by decide +kernel)
    have hl := lv_entry ([.ref a, .int (I ky), .int (I dp)]) (n := 5) (Nat.le_of_ble_eq_true rfl)
    rw [lg_entry_eq]
    generalize (lg_sl ([.ref a, .int (I ky), .int (I dp)]) ++ List.replicate (5 - (lg_sl ([.ref a, .int (I ky), .int (I dp)])).length) Slot.unset).toArray = ls at hl ⊢
    have hl : lv_has ls 5 [(0, .ref a), (1, .int (I ky)), (2, .int (I dp))] := hl
    obtain ⟨a110, ea110, ra110, la110, ua110⟩ := hO.gi h_a (by decide) k13_11
    obtain ⟨a130, ea130, ra130, la130, ua130⟩ := hO.gi h_a (by decide) k13_13
    obtain ⟨a140, ea140, ra140, la140, ua140⟩ := hO.gi h_a (by decide) k13_14
    obtain ⟨a170, ea170, ra170, la170, ua170⟩ := hO.gi h_a (by decide) k13_17
    obtain ⟨a190, ea190, ra190, la190, ua190⟩ := hO.gi h_a (by decide) k13_19
    obtain ⟨a220, ea220, ra220, la220, ua220⟩ := hO.gi h_a (by decide) k13_22
    refine lv_aload_n hx hb dX11_readThing_0 rfl (lv_at hl 0 rfl) ?_
    refine ok.getIc hO h_a (by decide) k13_14 ea140 (fun _ _ he hv kk => th_get (ci := 11) (C := RX11) (T := TX11) (N := 66) hx hb hts inX11 hown hK hH he rfl 14 (by decide) fl0 hv dX11_readThing_1 kk) ?_
    refine lv_iconst (v := I 2) hx hb dX11_readThing_4 (by decide) ?_
    refine th_join (α := Unit) (J := 43) (stk := fun x9 => []) (fun x9 σ9 H9 l9 ls9 => σ9 = σ ∧ th_H G b0 σ9 H9 ∧ va_S (th_A b0) s.heap H9 l9 ∧ lv_has ls9 5 [(0, .ref a), (1, .int (I ky)), (2, .int (I dp))]) ?_ (fun jK_236 => ?_)
    · intro x9 σ_K_236 H locs ls hI9
      obtain ⟨eK_236, hH, hS, hl⟩ := hI9
      replace eK_236 := eK_236.symm
      subst eK_236
      have hl : lv_has ls 5 [(0, .ref a), (1, .int (I ky)), (2, .int (I dp))] := hl
      refine lv_iconst (v := I 1) hx hb dX11_readThing_43 (by decide) ?_
      refine lv_goto (tgt := 48) hx hb dX11_readThing_44 (by decide) ?_
      refine lv_istore_n (lv' := [(3, .int (I 1)), (0, .ref a), (1, .int (I ky)), (2, .int (I dp))]) hx hb dX11_readThing_48 rfl hl (by decide) rfl (fun ls hl => ?_)
      refine lv_iload_n hx hb dX11_readThing_49 rfl (lv_at hl 0 rfl) ?_
      refine lv_if_ne (tgt := 58) hx hb dX11_readThing_50 (by decide) (fun _ => ?_) (fun c_238 => absurd (by decide) c_238)
      refine lv_aload_n hx hb dX11_readThing_58 rfl (lv_at hl 1 rfl) ?_
      refine ok.getIc hO h_a (by decide) k13_19 ea190 (fun _ _ he hv kk => th_get (ci := 11) (C := RX11) (T := TX11) (N := 66) hx hb hts inX11 hown hK hH he rfl 19 (by decide) fl1 hv dX11_readThing_59 kk) ?_
      refine th_join (α := Unit) (J := 85) (stk := fun x9 => []) (fun x9 σ9 H9 l9 ls9 => ok y E σ9 ∧ fr [13] E σ σ9 ∧ fm [13, 14, 15, 16, 17, 18, 19, 20, 2, 22] E σ σ9 a ∧ sr E σ9 a Bf ∧ th_H G b0 σ9 H9 ∧ va_S (th_A b0) s.heap H9 l9 ∧ lv_has ls9 5 [(0, .ref a), (1, .int (I ky)), (2, .int (I dp))] ∧ (¬ gI σ9 a 19 = 0 ∨ (a220 < 60 ∧ dp ≤ 7)) ∧ (gI σ9 a 11 = a110) ∧ (gI σ9 a 13 = a130) ∧ (gI σ9 a 14 = a140) ∧ (gI σ9 a 17 = a170) ∧ (gI σ9 a 22 = a220) ∧ (aF σ9 (ad E a 2) = f2)) ?_ (fun jK_256 => ?_)
      · intro x9 σ_K_256 H locs ls hI9
        obtain ⟨hO, hF, hM, hsr, hH, hS, hl, K_256_0, K_256_1, K_256_2, K_256_3, K_256_4, K_256_5, K_256_6⟩ := hI9
        have hl : lv_has ls 5 [(0, .ref a), (1, .int (I ky)), (2, .int (I dp))] := hl
        have K_256_0 : ¬ gI σ_K_256 a 19 = 0 ∨ (a220 < 60 ∧ dp ≤ 7) := K_256_0
        have K_256_1 : gI σ_K_256 a 11 = a110 := K_256_1
        have K_256_2 : gI σ_K_256 a 13 = a130 := K_256_2
        have K_256_3 : gI σ_K_256 a 14 = a140 := K_256_3
        have K_256_4 : gI σ_K_256 a 17 = a170 := K_256_4
        have K_256_5 : gI σ_K_256 a 22 = a220 := K_256_5
        have K_256_6 : aF σ_K_256 (ad E a 2) = f2 := K_256_6
        refine lv_aload_n hx hb dX11_readThing_85 rfl (lv_at hl 0 rfl) ?_
        refine ok.getI hO h_a (by decide) k13_19 (fun _ _ he hv kk => th_get (ci := 11) (C := RX11) (T := TX11) (N := 66) hx hb hts inX11 hown hK hH he rfl 19 (by decide) fl1 hv dX11_readThing_86 kk) (fun z_257 e_258 rz_257 lz_257 uz_257 => ?_)
        refine lv_if_eq (tgt := 93) hx hb dX11_readThing_89 (by decide) (fun c_259 => ?_) (fun c_259 => ?_)
        · replace c_259 := (I_eq (a := z_257) (b := 0) rz_257 (show rng 0 from ⟨by decide, by decide⟩)).mp c_259
          refine lv_iconst (v := I 4) hx hb dX11_readThing_93 (by decide) ?_
          refine lv_aload_n hx hb dX11_readThing_94 rfl (lv_at hl 0 rfl) ?_
          refine ok.getIc hO h_a (by decide) k13_22 K_256_5 (fun _ _ he hv kk => th_get (ci := 11) (C := RX11) (T := TX11) (N := 66) hx hb hts inX11 hown hK hH he rfl 22 (by decide) fl2 hv dX11_readThing_95 kk) ?_
          refine lv_imul hx hb dX11_readThing_98 ?_
          refine nq_top (I_mul _ _) ?_
          refine lv_istore (lv' := [(4, .int (I (4 * a220))), (0, .ref a), (1, .int (I ky)), (2, .int (I dp))]) hx hb dX11_readThing_99 hl (by decide) rfl (fun ls hl => ?_)
          refine lv_aload_n hx hb dX11_readThing_101 rfl (lv_at hl 1 rfl) ?_
          refine lv_dup hx hb dX11_readThing_102 rfl ?_
          refine ok.getIc hO h_a (by decide) k13_22 K_256_5 (fun _ _ he hv kk => th_get (ci := 11) (C := RX11) (T := TX11) (N := 66) hx hb hts inX11 hown hK hH he rfl 22 (by decide) fl2 hv dX11_readThing_103 kk) ?_
          refine lv_iconst (v := I 1) hx hb dX11_readThing_106 (by decide) ?_
          refine lv_iadd hx hb dX11_readThing_107 ?_
          refine nq_top (I_add _ _) ?_
          refine ok.putJ hO h_a k13_22 ⟨by omega, by omega⟩ (by omega) (by omega) (fun _ he hl9 kk => th_put (ci := 11) (v := .int (I (a220 + 1))) (ty := .int) (C := RX11) (T := TX11) (N := 66) hx hb hts inX11 tyX11 tyX11_ok nmX11 hown hK hH hS h00 he rfl 22 (by decide) fl2 rfl (by decide +kernel) rfl rfl hl9 dX11_readThing_108 kk) (fun σ_s_260 H locs hO hF9 hM9 hg9 ha9 hH hS => ?_)
          replace hM := hM.tu hM9 (by decide)
          replace hF := hF.tu hF9 (by decide)
          have e_261 : gI σ_s_260 a 11 = a110 := (hM9.i (by decide)).trans K_256_1
          have e_262 : gI σ_s_260 a 13 = a130 := (hM9.i (by decide)).trans K_256_2
          have e_263 : gI σ_s_260 a 14 = a140 := (hM9.i (by decide)).trans K_256_3
          have e_264 : gI σ_s_260 a 17 = a170 := (hM9.i (by decide)).trans K_256_4
          have e_265 : aF σ_s_260 (ad E a 2) = f2 := (hM9.a (by decide) (by decide)).trans K_256_6
          have e_266 : gI σ_s_260 a 19 = z_257 := (hM9.i (by decide)).trans e_258
          replace hsr := hsr.mv hM9 (by decide) (by decide) (by decide) (by decide) (by decide)
          have e_267 := hg9
          refine lv_aload_n hx hb dX11_readThing_111 rfl (lv_at hl 1 rfl) ?_
          refine ok.getR hO h_a (by decide) k13_2 (by decide) (fun _ _ he hv kk => th_get (ci := 11) (C := RX11) (T := TX11) (N := 66) hx hb hts inX11 hown hK hH he rfl 2 (by decide) fl3 hv dX11_readThing_112 kk) ?_
          refine lv_iload hx hb dX11_readThing_115 (lv_at hl 0 rfl) ?_
          refine lv_iconst (v := I 2) hx hb dX11_readThing_117 (by decide) ?_
          refine lv_iadd hx hb dX11_readThing_118 ?_
          refine nq_top (I_add _ _) ?_
          refine lv_iload_n hx hb dX11_readThing_119 rfl (lv_at hl 2 rfl) ?_
          refine m_iast hx hb hK hH hS h00 hO h_a k13_2 isA1 (by decide) e_265 ⟨by omega, by omega⟩ (by omega) (by omega) rky el1 dX11_readThing_120 (fun σ_s_268 H locs hO hF9 hM9 ha9 hH hS => ?_)
          replace hM := hM.tu hM9 (by decide)
          replace hF := hF.tu hF9 (by decide)
          have e_269 : gI σ_s_268 a 11 = a110 := (hM9.i (by decide)).trans e_261
          have e_270 : gI σ_s_268 a 13 = a130 := (hM9.i (by decide)).trans e_262
          have e_271 : gI σ_s_268 a 14 = a140 := (hM9.i (by decide)).trans e_263
          have e_272 : gI σ_s_268 a 17 = a170 := (hM9.i (by decide)).trans e_264
          have e_273 : gI σ_s_268 a 19 = z_257 := (hM9.i (by decide)).trans e_266
          have e_274 : gI σ_s_268 a 22 = a220 + 1 := (hM9.i (by decide)).trans e_267
          replace hsr := hsr.mv hM9 (by decide) (by decide) (by decide) (by decide) (by decide)
          obtain ⟨g_275, dg_275⟩ : ∃ g9, g9 = upd f2 (4 * a220 + 2).toNat (I ky) := ⟨_, rfl⟩
          rw [← dg_275] at ha9
          have ef_276 := ha9
          refine lv_aload_n hx hb dX11_readThing_121 rfl (lv_at hl 1 rfl) ?_
          refine ok.getR hO h_a (by decide) k13_2 (by decide) (fun _ _ he hv kk => th_get (ci := 11) (C := RX11) (T := TX11) (N := 66) hx hb hts inX11 hown hK hH he rfl 2 (by decide) fl3 hv dX11_readThing_122 kk) ?_
          refine lv_iload hx hb dX11_readThing_125 (lv_at hl 0 rfl) ?_
          refine lv_iconst (v := I 1) hx hb dX11_readThing_127 (by decide) ?_
          refine lv_iadd hx hb dX11_readThing_128 ?_
          refine nq_top (I_add _ _) ?_
          refine lv_iconst (v := I 0) hx hb dX11_readThing_129 (by decide) ?_
          refine m_iast hx hb hK hH hS h00 hO h_a k13_2 isA1 (by decide) ef_276 ⟨by omega, by omega⟩ (by omega) (by omega) (show rng 0 from ⟨by decide, by decide⟩) el1 dX11_readThing_130 (fun σ_s_277 H locs hO hF9 hM9 ha9 hH hS => ?_)
          replace hM := hM.tu hM9 (by decide)
          replace hF := hF.tu hF9 (by decide)
          have e_278 : gI σ_s_277 a 11 = a110 := (hM9.i (by decide)).trans e_269
          have e_279 : gI σ_s_277 a 13 = a130 := (hM9.i (by decide)).trans e_270
          have e_280 : gI σ_s_277 a 14 = a140 := (hM9.i (by decide)).trans e_271
          have e_281 : gI σ_s_277 a 17 = a170 := (hM9.i (by decide)).trans e_272
          have e_282 : gI σ_s_277 a 19 = z_257 := (hM9.i (by decide)).trans e_273
          have e_283 : gI σ_s_277 a 22 = a220 + 1 := (hM9.i (by decide)).trans e_274
          replace hsr := hsr.mv hM9 (by decide) (by decide) (by decide) (by decide) (by decide)
          obtain ⟨g_284, dg_284⟩ : ∃ g9, g9 = upd g_275 (4 * a220 + 1).toNat (I 0) := ⟨_, rfl⟩
          rw [← dg_284] at ha9
          have ef_285 := ha9
          refine lv_aload_n hx hb dX11_readThing_131 rfl (lv_at hl 1 rfl) ?_
          refine ok.getIc hO h_a (by decide) k13_14 e_280 (fun _ _ he hv kk => th_get (ci := 11) (C := RX11) (T := TX11) (N := 66) hx hb hts inX11 hown hK hH he rfl 14 (by decide) fl0 hv dX11_readThing_132 kk) ?_
          refine lv_iconst (v := I 1) hx hb dX11_readThing_135 (by decide) ?_
          refine lv_icmp_ne (tgt := 163) hx hb dX11_readThing_136 (by decide) (fun c_286 => ?_) (fun c_286 => ?_)
          · replace c_286 := mt (I_eq (a := a140) (b := 1) ra140 (show rng 1 from ⟨by decide, by decide⟩)).mpr c_286
            refine lv_aload_n hx hb dX11_readThing_163 rfl (lv_at hl 1 rfl) ?_
            refine lv_bipush (v := I 91) hx hb dX11_readThing_164 (by decide) ?_
            obtain ⟨_, hc_287⟩ := hO.cell h_a (by decide) (ci := 11) rfl
            refine th_calli (va_runV (As := [.int (I 91)]) (rest := []) ⟨hx, hb, hml, hown, hts⟩ (m_isMarked l G y b0 σ_s_277 E hO a h_a 91 (show rng 91 from (show rng 91 from ⟨by decide, by decide⟩)) Bf hsr (by omega)) (cwV 1 hts gX11_readThing_X11_isMarked rfl rfl rfl (by decide +kernel) ⟨(by first | (simp only [headSpec]; omega) | omega | (dsimp only; omega)), (by first | (simp only [headSpec]; omega) | omega | (dsimp only; omega))⟩) (th_PV hK hH rfl hc_287) rfl rfl hl.1 rfl (lv_room (Nat.le_of_ble_eq_true rfl)) dX11_readThing_166 ⟨(by first | (simp only [headSpec]; omega) | omega | (dsimp only; omega)), (by first | (simp only [headSpec]; omega) | omega | (dsimp only; omega))⟩) hS (fun z_290 σ_s_289 H locs rz_290 hw_288 hH hS => ?_)
            obtain ⟨e9, bhw_288, hw_288⟩ := hw_288
            replace e9 := e9.symm
            subst e9
            have hw_288 : z_290 = 0 ∨ (z_290 = 1 ∧ gI σ_s_277 a 19 = 0 ∧ gI σ_s_277 a 14 = 3 ∧ Bf (gI σ_s_277 a 17) = 91) := hw_288
            refine lv_if_eq (tgt := 192) hx hb dX11_readThing_169 (by decide) (fun c_291 => ?_) (fun c_291 => ?_)
            · replace c_291 := (I_eq (a := z_290) (b := 0) rz_290 (show rng 0 from ⟨by decide, by decide⟩)).mp c_291
              clear hw_288
              refine lv_aload_n hx hb dX11_readThing_192 rfl (lv_at hl 1 rfl) ?_
              refine lv_bipush (v := I 123) hx hb dX11_readThing_193 (by decide) ?_
              obtain ⟨_, hc_292⟩ := hO.cell h_a (by decide) (ci := 11) rfl
              refine th_calli (va_runV (As := [.int (I 123)]) (rest := []) ⟨hx, hb, hml, hown, hts⟩ (m_isMarked l G y b0 σ_s_277 E hO a h_a 123 (show rng 123 from (show rng 123 from ⟨by decide, by decide⟩)) Bf hsr (by omega)) (cwV 1 hts gX11_readThing_X11_isMarked rfl rfl rfl (by decide +kernel) ⟨(by first | (simp only [headSpec]; omega) | omega | (dsimp only; omega)), (by first | (simp only [headSpec]; omega) | omega | (dsimp only; omega))⟩) (th_PV hK hH rfl hc_292) rfl rfl hl.1 rfl (lv_room (Nat.le_of_ble_eq_true rfl)) dX11_readThing_195 ⟨(by first | (simp only [headSpec]; omega) | omega | (dsimp only; omega)), (by first | (simp only [headSpec]; omega) | omega | (dsimp only; omega))⟩) hS (fun z_295 σ_s_294 H locs rz_295 hw_293 hH hS => ?_)
              obtain ⟨e9, bhw_293, hw_293⟩ := hw_293
              replace e9 := e9.symm
              subst e9
              have hw_293 : z_295 = 0 ∨ (z_295 = 1 ∧ gI σ_s_277 a 19 = 0 ∧ gI σ_s_277 a 14 = 3 ∧ Bf (gI σ_s_277 a 17) = 123) := hw_293
              refine lv_if_eq (tgt := 221) hx hb dX11_readThing_198 (by decide) (fun c_296 => ?_) (fun c_296 => ?_)
              · replace c_296 := (I_eq (a := z_295) (b := 0) rz_295 (show rng 0 from ⟨by decide, by decide⟩)).mp c_296
                clear hw_293
                refine lv_aload_n hx hb dX11_readThing_221 rfl (lv_at hl 1 rfl) ?_
                refine ok.getR hO h_a (by decide) k13_2 (by decide) (fun _ _ he hv kk => th_get (ci := 11) (C := RX11) (T := TX11) (N := 66) hx hb hts inX11 hown hK hH he rfl 2 (by decide) fl3 hv dX11_readThing_222 kk) ?_
                refine lv_iload hx hb dX11_readThing_225 (lv_at hl 0 rfl) ?_
                refine lv_iconst (v := I 0) hx hb dX11_readThing_227 (by decide) ?_
                refine m_iast hx hb hK hH hS h00 hO h_a k13_2 isA1 (by decide) ef_285 ⟨by omega, by omega⟩ (by omega) (by omega) (show rng 0 from ⟨by decide, by decide⟩) el1 dX11_readThing_228 (fun σ_s_297 H locs hO hF9 hM9 ha9 hH hS => ?_)
                replace hM := hM.tu hM9 (by decide)
                replace hF := hF.tu hF9 (by decide)
                have e_298 : gI σ_s_297 a 11 = a110 := (hM9.i (by decide)).trans e_278
                have e_299 : gI σ_s_297 a 13 = a130 := (hM9.i (by decide)).trans e_279
                have e_300 : gI σ_s_297 a 14 = a140 := (hM9.i (by decide)).trans e_280
                have e_301 : gI σ_s_297 a 17 = a170 := (hM9.i (by decide)).trans e_281
                have e_302 : gI σ_s_297 a 19 = z_257 := (hM9.i (by decide)).trans e_282
                have e_303 : gI σ_s_297 a 22 = a220 + 1 := (hM9.i (by decide)).trans e_283
                replace hsr := hsr.mv hM9 (by decide) (by decide) (by decide) (by decide) (by decide)
                obtain ⟨g_304, dg_304⟩ : ∃ g9, g9 = upd g_284 (4 * a220).toNat (I 0) := ⟨_, rfl⟩
                rw [← dg_304] at ha9
                have ef_305 := ha9
                refine lv_aload_n hx hb dX11_readThing_229 rfl (lv_at hl 1 rfl) ?_
                refine ok.getR hO h_a (by decide) k13_2 (by decide) (fun _ _ he hv kk => th_get (ci := 11) (C := RX11) (T := TX11) (N := 66) hx hb hts inX11 hown hK hH he rfl 2 (by decide) fl3 hv dX11_readThing_230 kk) ?_
                refine lv_iload hx hb dX11_readThing_233 (lv_at hl 0 rfl) ?_
                refine lv_iconst (v := I 1) hx hb dX11_readThing_235 (by decide) ?_
                refine lv_iadd hx hb dX11_readThing_236 ?_
                refine nq_top (I_add _ _) ?_
                refine lv_aload_n hx hb dX11_readThing_237 rfl (lv_at hl 1 rfl) ?_
                obtain ⟨_, hc_306⟩ := hO.cell h_a (by decide) (ci := 11) rfl
                refine th_calli (va_runV (As := []) (rest := [.int (I (4 * a220 + 1)), .ref (ad E a 2)]) ⟨hx, hb, hml, hown, hts⟩ (m_readNumber l G y b0 σ_s_297 E hO a h_a Bf hsr (by omega)) (cwV 0 hts gX11_readThing_X11_readNumber rfl rfl rfl (by decide +kernel) ⟨(by first | (simp only [headSpec]; omega) | omega | (dsimp only; omega)), (by first | (simp only [headSpec]; omega) | omega | (dsimp only; omega))⟩) (th_PV hK hH rfl hc_306) rfl rfl hl.1 rfl (lv_room (Nat.le_of_ble_eq_true rfl)) dX11_readThing_238 ⟨(by first | (simp only [headSpec]; omega) | omega | (dsimp only; omega)), (by first | (simp only [headSpec]; omega) | omega | (dsimp only; omega))⟩) hS (fun z_309 σ_s_308 H locs rz_309 hw_307 hH hS => ?_)
                obtain ⟨hO9, hF9, hM9, hw_307⟩ := hw_307
                replace hM := hM.tu hM9 (by decide)
                replace hF := hF.tu hF9 (by decide)
                have e_310 : gI σ_s_308 a 11 = a110 := (hM9.i (by decide)).trans e_298
                have e_311 : gI σ_s_308 a 22 = a220 + 1 := (hM9.i (by decide)).trans e_303
                have e_312 : aF σ_s_308 (ad E a 2) = g_304 := (hM9.a (by decide) (by decide)).trans ef_305
                replace hsr := hsr.mv hM9 (by decide) (by decide) (by decide) (by decide) (by decide)
                replace hO := hO9
                have hw_307 : (gI σ_s_297 a 13 ≤ gI σ_s_308 a 13 ∧ gI σ_s_308 a 13 ≤ gI σ_s_297 a 11 ∧ 0 ≤ gI σ_s_308 a 17 ∧ gI σ_s_308 a 17 ≤ gI σ_s_308 a 13) ∧ pgo (gI σ_s_308 a 19) (gI σ_s_308 a 14) (gI σ_s_297 a 13) (gI σ_s_308 a 13) ∧ bdo (gI σ_s_297 a 19) (gI σ_s_308 a 19) := hw_307
                simp only [pgo, bdo] at hw_307
                refine m_iast hx hb hK hH hS h00 hO h_a k13_2 isA1 (by decide) e_312 ⟨by omega, by omega⟩ (by omega) (by omega) rz_309 el1 dX11_readThing_241 (fun σ_s_313 H locs hO hF9 hM9 ha9 hH hS => ?_)
                replace hM := hM.tu hM9 (by decide)
                replace hF := hF.tu hF9 (by decide)
                have e_314 : gI σ_s_313 a 11 = a110 := (hM9.i (by decide)).trans e_310
                have e_315 : gI σ_s_313 a 22 = a220 + 1 := (hM9.i (by decide)).trans e_311
                replace hsr := hsr.mv hM9 (by decide) (by decide) (by decide) (by decide) (by decide)
                obtain ⟨g_316, dg_316⟩ : ∃ g9, g9 = upd g_304 (4 * a220 + 1).toNat (I z_309) := ⟨_, rfl⟩
                rw [← dg_316] at ha9
                have ef_317 := ha9
                refine lv_aload_n hx hb dX11_readThing_242 rfl (lv_at hl 1 rfl) ?_
                refine ok.getR hO h_a (by decide) k13_2 (by decide) (fun _ _ he hv kk => th_get (ci := 11) (C := RX11) (T := TX11) (N := 66) hx hb hts inX11 hown hK hH he rfl 2 (by decide) fl3 hv dX11_readThing_243 kk) ?_
                refine lv_iload hx hb dX11_readThing_246 (lv_at hl 0 rfl) ?_
                refine lv_iconst (v := I 3) hx hb dX11_readThing_248 (by decide) ?_
                refine lv_iadd hx hb dX11_readThing_249 ?_
                refine nq_top (I_add _ _) ?_
                refine lv_aload_n hx hb dX11_readThing_250 rfl (lv_at hl 1 rfl) ?_
                refine ok.getIc hO h_a (by decide) k13_22 e_315 (fun _ _ he hv kk => th_get (ci := 11) (C := RX11) (T := TX11) (N := 66) hx hb hts inX11 hown hK hH he rfl 22 (by decide) fl2 hv dX11_readThing_251 kk) ?_
                refine lv_iload hx hb dX11_readThing_254 (lv_at hl 0 rfl) ?_
                refine lv_iconst (v := I 4) hx hb dX11_readThing_256 (by decide) ?_
                refine lv_idiv hx hb dX11_readThing_257 (by decide) ?_
                refine th_div (n := 4) ⟨by omega, by omega⟩ (by omega) (by decide) (fun z_318 rz_318 hz_318 => ?_)
                refine lv_isub hx hb dX11_readThing_258 ?_
                refine th_subo (fun z_319 rz_319 hz_319 => ?_)
                refine m_iast hx hb hK hH hS h00 hO h_a k13_2 isA1 (by decide) ef_317 ⟨by omega, by omega⟩ (by omega) (by omega) rz_319 el1 dX11_readThing_259 (fun σ_s_320 H locs hO hF9 hM9 ha9 hH hS => ?_)
                replace hM := hM.tu hM9 (by decide)
                replace hF := hF.tu hF9 (by decide)
                have e_321 : gI σ_s_320 a 11 = a110 := (hM9.i (by decide)).trans e_314
                have e_322 : gI σ_s_320 a 22 = a220 + 1 := (hM9.i (by decide)).trans e_315
                replace hsr := hsr.mv hM9 (by decide) (by decide) (by decide) (by decide) (by decide)
                obtain ⟨g_323, dg_323⟩ : ∃ g9, g9 = upd g_316 (4 * a220 + 3).toNat (I z_319) := ⟨_, rfl⟩
                rw [← dg_323] at ha9
                have ef_324 := ha9
                exact th_vret hx hb hr hlocks hH hS ⟨hO, hF, hM, ⟨⟨by omega, pgo.of (by omega)⟩, by omega, by rw [show gI σ a 22 = a220 by omega, show gI σ_s_320 a 22 = a220 + 1 by omega, show aF σ_s_320 (ad E a 2) = g_323 from ef_324]; exact Or.inr ((rdF.zero (f := g_316) same.rf).node dg_323 (by omega) ⟨by omega, by omega⟩ (by omega) (((((same.rf).up1 dg_275 (by omega)).up1 dg_284 (by omega)).up1 dg_304 (by omega)).up1 dg_316 (by omega)) ((mY_up dg_316 (by omega) (by omega)).trans ((mY_up dg_304 (by omega) (by omega)).trans ((mY_up dg_284 (by omega) (by omega)).trans (mY_at dg_275 rky)))))⟩⟩ dX11_readThing_260
              · replace c_296 := mt (I_eq (a := z_295) (b := 0) rz_295 (show rng 0 from ⟨by decide, by decide⟩)).mpr c_296
                replace hw_293 := (hw_293.resolve_left c_296).2
                refine lv_aload_n hx hb dX11_readThing_201 rfl (lv_at hl 1 rfl) ?_
                refine ok.getR hO h_a (by decide) k13_2 (by decide) (fun _ _ he hv kk => th_get (ci := 11) (C := RX11) (T := TX11) (N := 66) hx hb hts inX11 hown hK hH he rfl 2 (by decide) fl3 hv dX11_readThing_202 kk) ?_
                refine lv_iload hx hb dX11_readThing_205 (lv_at hl 0 rfl) ?_
                refine lv_iconst (v := I 3) hx hb dX11_readThing_207 (by decide) ?_
                refine m_iast hx hb hK hH hS h00 hO h_a k13_2 isA1 (by decide) ef_285 ⟨by omega, by omega⟩ (by omega) (by omega) (show rng 3 from ⟨by decide, by decide⟩) el1 dX11_readThing_208 (fun σ_s_325 H locs hO hF9 hM9 ha9 hH hS => ?_)
                replace hM := hM.tu hM9 (by decide)
                replace hF := hF.tu hF9 (by decide)
                have e_326 : gI σ_s_325 a 11 = a110 := (hM9.i (by decide)).trans e_278
                have e_327 : gI σ_s_325 a 13 = a130 := (hM9.i (by decide)).trans e_279
                have e_328 : gI σ_s_325 a 14 = a140 := (hM9.i (by decide)).trans e_280
                have e_329 : gI σ_s_325 a 17 = a170 := (hM9.i (by decide)).trans e_281
                have e_330 : gI σ_s_325 a 19 = z_257 := (hM9.i (by decide)).trans e_282
                have e_331 : gI σ_s_325 a 22 = a220 + 1 := (hM9.i (by decide)).trans e_283
                replace hsr := hsr.mv hM9 (by decide) (by decide) (by decide) (by decide) (by decide)
                obtain ⟨g_332, dg_332⟩ : ∃ g9, g9 = upd g_284 (4 * a220).toNat (I 3) := ⟨_, rfl⟩
                rw [← dg_332] at ha9
                have ef_333 := ha9
                refine lv_aload_n hx hb dX11_readThing_209 rfl (lv_at hl 1 rfl) ?_
                refine lv_iload hx hb dX11_readThing_210 (lv_at hl 0 rfl) ?_
                refine lv_iload_n hx hb dX11_readThing_212 rfl (lv_at hl 3 rfl) ?_
                refine lv_bipush (v := I 125) hx hb dX11_readThing_213 (by decide) ?_
                obtain ⟨_, hc_334⟩ := hO.cell h_a (by decide) (ci := 11) rfl
                refine th_callv (va_runV (As := [.int (I (4 * a220)), .int (I dp), .int (I 125)]) (rest := []) ⟨hx, hb, hml, hown, hts⟩ (m_readMany n ih l G y b0 σ_s_325 E hO a h_a (4 * a220) (show rng (4 * a220) from ⟨by omega, by omega⟩) (by omega) (by omega) dp (show rng dp from rdp) (by omega) (by omega) 125 (show rng 125 from (show rng 125 from ⟨by decide, by decide⟩)) g_332 ef_333 Bf hsr (by omega) (by omega) (by omega) (by omega)) (cwV 3 hts gX11_readThing_X11_readMany rfl rfl rfl (by decide +kernel) ⟨(by first | (simp only [headSpec]; omega) | omega | (dsimp only; omega)), (by first | (simp only [headSpec]; omega) | omega | (dsimp only; omega))⟩) (th_PV hK hH rfl hc_334) rfl rfl hl.1 rfl (lv_room (Nat.le_of_ble_eq_true rfl)) dX11_readThing_215 ⟨(by first | (simp only [headSpec]; omega) | omega | (dsimp only; omega)), (by first | (simp only [headSpec]; omega) | omega | (dsimp only; omega))⟩) hS (fun σ_s_336 H locs hw_335 hH hS => ?_)
                obtain ⟨hO9, hF9, hM9, hw_335⟩ := hw_335
                replace hM := hM.tu hM9 (by decide)
                replace hF := hF.tu hF9 (by decide)
                have e_337 : gI σ_s_336 a 11 = a110 := (hM9.i (by decide)).trans e_326
                replace hsr := hsr.mv hM9 (by decide) (by decide) (by decide) (by decide) (by decide)
                replace hO := hO9
                generalize ef_339 : aF σ_s_336 (ad E a 2) = g_338 at hw_335
                have hw_335 : ((gI σ_s_325 a 13 ≤ gI σ_s_336 a 13 ∧ gI σ_s_336 a 13 ≤ gI σ_s_325 a 11 ∧ 0 ≤ gI σ_s_336 a 17 ∧ gI σ_s_336 a 17 ≤ gI σ_s_336 a 13) ∧ pgo (gI σ_s_336 a 19) (gI σ_s_336 a 14) (gI σ_s_325 a 13) (gI σ_s_336 a 13)) ∧ gI σ_s_325 a 22 ≤ gI σ_s_336 a 22 ∧ (¬ gI σ_s_336 a 19 = 0 ∨ rdF g_332 g_338 ((4 * a220) / 4) (gI σ_s_336 a 22)) := hw_335
                simp only [pgo, bdo] at hw_335
                refine lv_goto (tgt := 242) hx hb dX11_readThing_218 (by decide) ?_
                refine lv_aload_n hx hb dX11_readThing_242 rfl (lv_at hl 1 rfl) ?_
                refine ok.getR hO h_a (by decide) k13_2 (by decide) (fun _ _ he hv kk => th_get (ci := 11) (C := RX11) (T := TX11) (N := 66) hx hb hts inX11 hown hK hH he rfl 2 (by decide) fl3 hv dX11_readThing_243 kk) ?_
                refine lv_iload hx hb dX11_readThing_246 (lv_at hl 0 rfl) ?_
                refine lv_iconst (v := I 3) hx hb dX11_readThing_248 (by decide) ?_
                refine lv_iadd hx hb dX11_readThing_249 ?_
                refine nq_top (I_add _ _) ?_
                refine lv_aload_n hx hb dX11_readThing_250 rfl (lv_at hl 1 rfl) ?_
                refine ok.getI hO h_a (by decide) k13_22 (fun _ _ he hv kk => th_get (ci := 11) (C := RX11) (T := TX11) (N := 66) hx hb hts inX11 hown hK hH he rfl 22 (by decide) fl2 hv dX11_readThing_251 kk) (fun z_340 e_341 rz_340 lz_340 uz_340 => ?_)
                refine lv_iload hx hb dX11_readThing_254 (lv_at hl 0 rfl) ?_
                refine lv_iconst (v := I 4) hx hb dX11_readThing_256 (by decide) ?_
                refine lv_idiv hx hb dX11_readThing_257 (by decide) ?_
                refine th_div (n := 4) ⟨by omega, by omega⟩ (by omega) (by decide) (fun z_342 rz_342 hz_342 => ?_)
                refine lv_isub hx hb dX11_readThing_258 ?_
                refine th_subo (fun z_343 rz_343 hz_343 => ?_)
                refine m_iast hx hb hK hH hS h00 hO h_a k13_2 isA1 (by decide) ef_339 ⟨by omega, by omega⟩ (by omega) (by omega) rz_343 el1 dX11_readThing_259 (fun σ_s_344 H locs hO hF9 hM9 ha9 hH hS => ?_)
                replace hM := hM.tu hM9 (by decide)
                replace hF := hF.tu hF9 (by decide)
                have e_345 : gI σ_s_344 a 11 = a110 := (hM9.i (by decide)).trans e_337
                have e_346 : gI σ_s_344 a 22 = z_340 := (hM9.i (by decide)).trans e_341
                replace hsr := hsr.mv hM9 (by decide) (by decide) (by decide) (by decide) (by decide)
                obtain ⟨g_347, dg_347⟩ : ∃ g9, g9 = upd g_338 (4 * a220 + 3).toNat (I z_343) := ⟨_, rfl⟩
                rw [← dg_347] at ha9
                have ef_348 := ha9
                exact th_vret hx hb hr hlocks hH hS ⟨hO, hF, hM, ⟨⟨by omega, pgo.of (by omega)⟩, by omega, hw_335.2.2.elim (fun h9 => Or.inl (by omega)) (fun h9 => Or.inr (by rw [show 4 * a220 / 4 = a220 by omega] at h9; rw [show gI σ a 22 = a220 by omega, show gI σ_s_344 a 22 = gI σ_s_336 a 22 by omega, show aF σ_s_344 (ad E a 2) = g_347 from ef_348]; exact h9.node dg_347 (by omega) ⟨by omega, by omega⟩ (by omega) ((((same.rf).up1 dg_275 (by omega)).up1 dg_284 (by omega)).up1 dg_332 (by omega)) ((mY_up dg_332 (by omega) (by omega)).trans ((mY_up dg_284 (by omega) (by omega)).trans (mY_at dg_275 rky)))))⟩⟩ dX11_readThing_260
            · replace c_291 := mt (I_eq (a := z_290) (b := 0) rz_290 (show rng 0 from ⟨by decide, by decide⟩)).mpr c_291
              replace hw_288 := (hw_288.resolve_left c_291).2
              refine lv_aload_n hx hb dX11_readThing_172 rfl (lv_at hl 1 rfl) ?_
              refine ok.getR hO h_a (by decide) k13_2 (by decide) (fun _ _ he hv kk => th_get (ci := 11) (C := RX11) (T := TX11) (N := 66) hx hb hts inX11 hown hK hH he rfl 2 (by decide) fl3 hv dX11_readThing_173 kk) ?_
              refine lv_iload hx hb dX11_readThing_176 (lv_at hl 0 rfl) ?_
              refine lv_iconst (v := I 2) hx hb dX11_readThing_178 (by decide) ?_
              refine m_iast hx hb hK hH hS h00 hO h_a k13_2 isA1 (by decide) ef_285 ⟨by omega, by omega⟩ (by omega) (by omega) (show rng 2 from ⟨by decide, by decide⟩) el1 dX11_readThing_179 (fun σ_s_349 H locs hO hF9 hM9 ha9 hH hS => ?_)
              replace hM := hM.tu hM9 (by decide)
              replace hF := hF.tu hF9 (by decide)
              have e_350 : gI σ_s_349 a 11 = a110 := (hM9.i (by decide)).trans e_278
              have e_351 : gI σ_s_349 a 13 = a130 := (hM9.i (by decide)).trans e_279
              have e_352 : gI σ_s_349 a 14 = a140 := (hM9.i (by decide)).trans e_280
              have e_353 : gI σ_s_349 a 17 = a170 := (hM9.i (by decide)).trans e_281
              have e_354 : gI σ_s_349 a 19 = z_257 := (hM9.i (by decide)).trans e_282
              have e_355 : gI σ_s_349 a 22 = a220 + 1 := (hM9.i (by decide)).trans e_283
              replace hsr := hsr.mv hM9 (by decide) (by decide) (by decide) (by decide) (by decide)
              obtain ⟨g_356, dg_356⟩ : ∃ g9, g9 = upd g_284 (4 * a220).toNat (I 2) := ⟨_, rfl⟩
              rw [← dg_356] at ha9
              have ef_357 := ha9
              refine lv_aload_n hx hb dX11_readThing_180 rfl (lv_at hl 1 rfl) ?_
              refine lv_iload hx hb dX11_readThing_181 (lv_at hl 0 rfl) ?_
              refine lv_iload_n hx hb dX11_readThing_183 rfl (lv_at hl 3 rfl) ?_
              refine lv_bipush (v := I 93) hx hb dX11_readThing_184 (by decide) ?_
              obtain ⟨_, hc_358⟩ := hO.cell h_a (by decide) (ci := 11) rfl
              refine th_callv (va_runV (As := [.int (I (4 * a220)), .int (I dp), .int (I 93)]) (rest := []) ⟨hx, hb, hml, hown, hts⟩ (m_readMany n ih l G y b0 σ_s_349 E hO a h_a (4 * a220) (show rng (4 * a220) from ⟨by omega, by omega⟩) (by omega) (by omega) dp (show rng dp from rdp) (by omega) (by omega) 93 (show rng 93 from (show rng 93 from ⟨by decide, by decide⟩)) g_356 ef_357 Bf hsr (by omega) (by omega) (by omega) (by omega)) (cwV 3 hts gX11_readThing_X11_readMany rfl rfl rfl (by decide +kernel) ⟨(by first | (simp only [headSpec]; omega) | omega | (dsimp only; omega)), (by first | (simp only [headSpec]; omega) | omega | (dsimp only; omega))⟩) (th_PV hK hH rfl hc_358) rfl rfl hl.1 rfl (lv_room (Nat.le_of_ble_eq_true rfl)) dX11_readThing_186 ⟨(by first | (simp only [headSpec]; omega) | omega | (dsimp only; omega)), (by first | (simp only [headSpec]; omega) | omega | (dsimp only; omega))⟩) hS (fun σ_s_360 H locs hw_359 hH hS => ?_)
              obtain ⟨hO9, hF9, hM9, hw_359⟩ := hw_359
              replace hM := hM.tu hM9 (by decide)
              replace hF := hF.tu hF9 (by decide)
              have e_361 : gI σ_s_360 a 11 = a110 := (hM9.i (by decide)).trans e_350
              replace hsr := hsr.mv hM9 (by decide) (by decide) (by decide) (by decide) (by decide)
              replace hO := hO9
              generalize ef_363 : aF σ_s_360 (ad E a 2) = g_362 at hw_359
              have hw_359 : ((gI σ_s_349 a 13 ≤ gI σ_s_360 a 13 ∧ gI σ_s_360 a 13 ≤ gI σ_s_349 a 11 ∧ 0 ≤ gI σ_s_360 a 17 ∧ gI σ_s_360 a 17 ≤ gI σ_s_360 a 13) ∧ pgo (gI σ_s_360 a 19) (gI σ_s_360 a 14) (gI σ_s_349 a 13) (gI σ_s_360 a 13)) ∧ gI σ_s_349 a 22 ≤ gI σ_s_360 a 22 ∧ (¬ gI σ_s_360 a 19 = 0 ∨ rdF g_356 g_362 ((4 * a220) / 4) (gI σ_s_360 a 22)) := hw_359
              simp only [pgo, bdo] at hw_359
              refine lv_goto (tgt := 242) hx hb dX11_readThing_189 (by decide) ?_
              refine lv_aload_n hx hb dX11_readThing_242 rfl (lv_at hl 1 rfl) ?_
              refine ok.getR hO h_a (by decide) k13_2 (by decide) (fun _ _ he hv kk => th_get (ci := 11) (C := RX11) (T := TX11) (N := 66) hx hb hts inX11 hown hK hH he rfl 2 (by decide) fl3 hv dX11_readThing_243 kk) ?_
              refine lv_iload hx hb dX11_readThing_246 (lv_at hl 0 rfl) ?_
              refine lv_iconst (v := I 3) hx hb dX11_readThing_248 (by decide) ?_
              refine lv_iadd hx hb dX11_readThing_249 ?_
              refine nq_top (I_add _ _) ?_
              refine lv_aload_n hx hb dX11_readThing_250 rfl (lv_at hl 1 rfl) ?_
              refine ok.getI hO h_a (by decide) k13_22 (fun _ _ he hv kk => th_get (ci := 11) (C := RX11) (T := TX11) (N := 66) hx hb hts inX11 hown hK hH he rfl 22 (by decide) fl2 hv dX11_readThing_251 kk) (fun z_364 e_365 rz_364 lz_364 uz_364 => ?_)
              refine lv_iload hx hb dX11_readThing_254 (lv_at hl 0 rfl) ?_
              refine lv_iconst (v := I 4) hx hb dX11_readThing_256 (by decide) ?_
              refine lv_idiv hx hb dX11_readThing_257 (by decide) ?_
              refine th_div (n := 4) ⟨by omega, by omega⟩ (by omega) (by decide) (fun z_366 rz_366 hz_366 => ?_)
              refine lv_isub hx hb dX11_readThing_258 ?_
              refine th_subo (fun z_367 rz_367 hz_367 => ?_)
              refine m_iast hx hb hK hH hS h00 hO h_a k13_2 isA1 (by decide) ef_363 ⟨by omega, by omega⟩ (by omega) (by omega) rz_367 el1 dX11_readThing_259 (fun σ_s_368 H locs hO hF9 hM9 ha9 hH hS => ?_)
              replace hM := hM.tu hM9 (by decide)
              replace hF := hF.tu hF9 (by decide)
              have e_369 : gI σ_s_368 a 11 = a110 := (hM9.i (by decide)).trans e_361
              have e_370 : gI σ_s_368 a 22 = z_364 := (hM9.i (by decide)).trans e_365
              replace hsr := hsr.mv hM9 (by decide) (by decide) (by decide) (by decide) (by decide)
              obtain ⟨g_371, dg_371⟩ : ∃ g9, g9 = upd g_362 (4 * a220 + 3).toNat (I z_367) := ⟨_, rfl⟩
              rw [← dg_371] at ha9
              have ef_372 := ha9
              exact th_vret hx hb hr hlocks hH hS ⟨hO, hF, hM, ⟨⟨by omega, pgo.of (by omega)⟩, by omega, hw_359.2.2.elim (fun h9 => Or.inl (by omega)) (fun h9 => Or.inr (by rw [show 4 * a220 / 4 = a220 by omega] at h9; rw [show gI σ a 22 = a220 by omega, show gI σ_s_368 a 22 = gI σ_s_360 a 22 by omega, show aF σ_s_368 (ad E a 2) = g_371 from ef_372]; exact h9.node dg_371 (by omega) ⟨by omega, by omega⟩ (by omega) ((((same.rf).up1 dg_275 (by omega)).up1 dg_284 (by omega)).up1 dg_356 (by omega)) ((mY_up dg_356 (by omega) (by omega)).trans ((mY_up dg_284 (by omega) (by omega)).trans (mY_at dg_275 rky)))))⟩⟩ dX11_readThing_260
          · replace c_286 := (I_eq (a := a140) (b := 1) ra140 (show rng 1 from ⟨by decide, by decide⟩)).mp c_286
            refine lv_aload_n hx hb dX11_readThing_139 rfl (lv_at hl 1 rfl) ?_
            refine ok.getR hO h_a (by decide) k13_2 (by decide) (fun _ _ he hv kk => th_get (ci := 11) (C := RX11) (T := TX11) (N := 66) hx hb hts inX11 hown hK hH he rfl 2 (by decide) fl3 hv dX11_readThing_140 kk) ?_
            refine lv_iload hx hb dX11_readThing_143 (lv_at hl 0 rfl) ?_
            refine lv_iconst (v := I 1) hx hb dX11_readThing_145 (by decide) ?_
            refine m_iast hx hb hK hH hS h00 hO h_a k13_2 isA1 (by decide) ef_285 ⟨by omega, by omega⟩ (by omega) (by omega) (show rng 1 from ⟨by decide, by decide⟩) el1 dX11_readThing_146 (fun σ_s_373 H locs hO hF9 hM9 ha9 hH hS => ?_)
            replace hM := hM.tu hM9 (by decide)
            replace hF := hF.tu hF9 (by decide)
            have e_374 : gI σ_s_373 a 11 = a110 := (hM9.i (by decide)).trans e_278
            have e_375 : gI σ_s_373 a 13 = a130 := (hM9.i (by decide)).trans e_279
            have e_376 : gI σ_s_373 a 14 = a140 := (hM9.i (by decide)).trans e_280
            have e_377 : gI σ_s_373 a 17 = a170 := (hM9.i (by decide)).trans e_281
            have e_378 : gI σ_s_373 a 19 = z_257 := (hM9.i (by decide)).trans e_282
            have e_379 : gI σ_s_373 a 22 = a220 + 1 := (hM9.i (by decide)).trans e_283
            replace hsr := hsr.mv hM9 (by decide) (by decide) (by decide) (by decide) (by decide)
            obtain ⟨g_380, dg_380⟩ : ∃ g9, g9 = upd g_284 (4 * a220).toNat (I 1) := ⟨_, rfl⟩
            rw [← dg_380] at ha9
            have ef_381 := ha9
            refine lv_aload_n hx hb dX11_readThing_147 rfl (lv_at hl 1 rfl) ?_
            refine ok.getR hO h_a (by decide) k13_2 (by decide) (fun _ _ he hv kk => th_get (ci := 11) (C := RX11) (T := TX11) (N := 66) hx hb hts inX11 hown hK hH he rfl 2 (by decide) fl3 hv dX11_readThing_148 kk) ?_
            refine lv_iload hx hb dX11_readThing_151 (lv_at hl 0 rfl) ?_
            refine lv_iconst (v := I 1) hx hb dX11_readThing_153 (by decide) ?_
            refine lv_iadd hx hb dX11_readThing_154 ?_
            refine nq_top (I_add _ _) ?_
            refine lv_aload_n hx hb dX11_readThing_155 rfl (lv_at hl 1 rfl) ?_
            obtain ⟨_, hc_382⟩ := hO.cell h_a (by decide) (ci := 11) rfl
            refine th_calli (va_runV (As := []) (rest := [.int (I (4 * a220 + 1)), .ref (ad E a 2)]) ⟨hx, hb, hml, hown, hts⟩ (m_readWord l G y b0 σ_s_373 E hO a h_a Bf hsr (by omega)) (cwV 0 hts gX11_readThing_X11_readWord rfl rfl rfl (by decide +kernel) ⟨(by first | (simp only [headSpec]; omega) | omega | (dsimp only; omega)), (by first | (simp only [headSpec]; omega) | omega | (dsimp only; omega))⟩) (th_PV hK hH rfl hc_382) rfl rfl hl.1 rfl (lv_room (Nat.le_of_ble_eq_true rfl)) dX11_readThing_156 ⟨(by first | (simp only [headSpec]; omega) | omega | (dsimp only; omega)), (by first | (simp only [headSpec]; omega) | omega | (dsimp only; omega))⟩) hS (fun z_385 σ_s_384 H locs rz_385 hw_383 hH hS => ?_)
            obtain ⟨hO9, hF9, hM9, hw_383⟩ := hw_383
            replace hM := hM.tu hM9 (by decide)
            replace hF := hF.tu hF9 (by decide)
            have e_386 : gI σ_s_384 a 11 = a110 := (hM9.i (by decide)).trans e_374
            have e_387 : gI σ_s_384 a 22 = a220 + 1 := (hM9.i (by decide)).trans e_379
            have e_388 : aF σ_s_384 (ad E a 2) = g_380 := (hM9.a (by decide) (by decide)).trans ef_381
            replace hsr := hsr.mv hM9 (by decide) (by decide) (by decide) (by decide) (by decide)
            replace hO := hO9
            have hw_383 : (gI σ_s_373 a 13 ≤ gI σ_s_384 a 13 ∧ gI σ_s_384 a 13 ≤ gI σ_s_373 a 11 ∧ 0 ≤ gI σ_s_384 a 17 ∧ gI σ_s_384 a 17 ≤ gI σ_s_384 a 13) ∧ pgo (gI σ_s_384 a 19) (gI σ_s_384 a 14) (gI σ_s_373 a 13) (gI σ_s_384 a 13) ∧ bdo (gI σ_s_373 a 19) (gI σ_s_384 a 19) := hw_383
            simp only [pgo, bdo] at hw_383
            refine m_iast hx hb hK hH hS h00 hO h_a k13_2 isA1 (by decide) e_388 ⟨by omega, by omega⟩ (by omega) (by omega) rz_385 el1 dX11_readThing_159 (fun σ_s_389 H locs hO hF9 hM9 ha9 hH hS => ?_)
            replace hM := hM.tu hM9 (by decide)
            replace hF := hF.tu hF9 (by decide)
            have e_390 : gI σ_s_389 a 11 = a110 := (hM9.i (by decide)).trans e_386
            have e_391 : gI σ_s_389 a 22 = a220 + 1 := (hM9.i (by decide)).trans e_387
            replace hsr := hsr.mv hM9 (by decide) (by decide) (by decide) (by decide) (by decide)
            obtain ⟨g_392, dg_392⟩ : ∃ g9, g9 = upd g_380 (4 * a220 + 1).toNat (I z_385) := ⟨_, rfl⟩
            rw [← dg_392] at ha9
            have ef_393 := ha9
            refine lv_goto (tgt := 242) hx hb dX11_readThing_160 (by decide) ?_
            refine lv_aload_n hx hb dX11_readThing_242 rfl (lv_at hl 1 rfl) ?_
            refine ok.getR hO h_a (by decide) k13_2 (by decide) (fun _ _ he hv kk => th_get (ci := 11) (C := RX11) (T := TX11) (N := 66) hx hb hts inX11 hown hK hH he rfl 2 (by decide) fl3 hv dX11_readThing_243 kk) ?_
            refine lv_iload hx hb dX11_readThing_246 (lv_at hl 0 rfl) ?_
            refine lv_iconst (v := I 3) hx hb dX11_readThing_248 (by decide) ?_
            refine lv_iadd hx hb dX11_readThing_249 ?_
            refine nq_top (I_add _ _) ?_
            refine lv_aload_n hx hb dX11_readThing_250 rfl (lv_at hl 1 rfl) ?_
            refine ok.getIc hO h_a (by decide) k13_22 e_391 (fun _ _ he hv kk => th_get (ci := 11) (C := RX11) (T := TX11) (N := 66) hx hb hts inX11 hown hK hH he rfl 22 (by decide) fl2 hv dX11_readThing_251 kk) ?_
            refine lv_iload hx hb dX11_readThing_254 (lv_at hl 0 rfl) ?_
            refine lv_iconst (v := I 4) hx hb dX11_readThing_256 (by decide) ?_
            refine lv_idiv hx hb dX11_readThing_257 (by decide) ?_
            refine th_div (n := 4) ⟨by omega, by omega⟩ (by omega) (by decide) (fun z_394 rz_394 hz_394 => ?_)
            refine lv_isub hx hb dX11_readThing_258 ?_
            refine th_subo (fun z_395 rz_395 hz_395 => ?_)
            refine m_iast hx hb hK hH hS h00 hO h_a k13_2 isA1 (by decide) ef_393 ⟨by omega, by omega⟩ (by omega) (by omega) rz_395 el1 dX11_readThing_259 (fun σ_s_396 H locs hO hF9 hM9 ha9 hH hS => ?_)
            replace hM := hM.tu hM9 (by decide)
            replace hF := hF.tu hF9 (by decide)
            have e_397 : gI σ_s_396 a 11 = a110 := (hM9.i (by decide)).trans e_390
            have e_398 : gI σ_s_396 a 22 = a220 + 1 := (hM9.i (by decide)).trans e_391
            replace hsr := hsr.mv hM9 (by decide) (by decide) (by decide) (by decide) (by decide)
            obtain ⟨g_399, dg_399⟩ : ∃ g9, g9 = upd g_392 (4 * a220 + 3).toNat (I z_395) := ⟨_, rfl⟩
            rw [← dg_399] at ha9
            have ef_400 := ha9
            exact th_vret hx hb hr hlocks hH hS ⟨hO, hF, hM, ⟨⟨by omega, pgo.of (by omega)⟩, by omega, by rw [show gI σ a 22 = a220 by omega, show gI σ_s_396 a 22 = a220 + 1 by omega, show aF σ_s_396 (ad E a 2) = g_399 from ef_400]; exact Or.inr ((rdF.zero (f := g_392) same.rf).node dg_399 (by omega) ⟨by omega, by omega⟩ (by omega) (((((same.rf).up1 dg_275 (by omega)).up1 dg_284 (by omega)).up1 dg_380 (by omega)).up1 dg_392 (by omega)) ((mY_up dg_392 (by omega) (by omega)).trans ((mY_up dg_380 (by omega) (by omega)).trans ((mY_up dg_284 (by omega) (by omega)).trans (mY_at dg_275 rky)))))⟩⟩ dX11_readThing_260
        · replace c_259 := mt (I_eq (a := z_257) (b := 0) rz_257 (show rng 0 from ⟨by decide, by decide⟩)).mpr c_259
          exact th_vret hx hb hr hlocks hH hS ⟨hO, hF, hM, ⟨⟨by omega, pgo.of (by omega)⟩, by omega, Or.inl (by omega)⟩⟩ dX11_readThing_92
      · refine lv_if_ne (tgt := 85) hx hb dX11_readThing_62 (by decide) (fun c_401 => ?_) (fun c_401 => ?_)
        · replace c_401 := mt (I_eq (a := a190) (b := 0) ra190 (show rng 0 from ⟨by decide, by decide⟩)).mpr c_401
          replace hl : lv_has ls 5 [(0, .ref a), (1, .int (I ky)), (2, .int (I dp))] := lv_sub hl [1, 2, 3] rfl
          exact jK_256 () σ _ _ _ ⟨hO, hF, hM, hsr, hH, hS, lv_sub hl [0, 1, 2] rfl, by first | omega | (dsimp only; omega), ea110, ea130, ea140, ea170, ea220, ef2⟩
        · replace c_401 := (I_eq (a := a190) (b := 0) ra190 (show rng 0 from ⟨by decide, by decide⟩)).mp c_401
          refine lv_aload_n hx hb dX11_readThing_65 rfl (lv_at hl 1 rfl) ?_
          refine ok.getIc hO h_a (by decide) k13_22 ea220 (fun _ _ he hv kk => th_get (ci := 11) (C := RX11) (T := TX11) (N := 66) hx hb hts inX11 hown hK hH he rfl 22 (by decide) fl2 hv dX11_readThing_66 kk) ?_
          refine lv_bipush (v := I 60) hx hb dX11_readThing_69 (by decide) ?_
          refine th_join (α := Unit) (J := 80) (stk := fun x9 => []) (fun x9 σ9 H9 l9 ls9 => σ9 = σ ∧ th_H G b0 σ9 H9 ∧ va_S (th_A b0) s.heap H9 l9 ∧ lv_has ls9 5 [(0, .ref a), (1, .int (I ky)), (2, .int (I dp))]) ?_ (fun jK_405 => ?_)
          · intro x9 σ_K_405 H locs ls hI9
            obtain ⟨eK_405, hH, hS, hl⟩ := hI9
            replace eK_405 := eK_405.symm
            subst eK_405
            have hl : lv_has ls 5 [(0, .ref a), (1, .int (I ky)), (2, .int (I dp))] := hl
            refine lv_aload_n hx hb dX11_readThing_80 rfl (lv_at hl 0 rfl) ?_
            refine lv_iconst (v := I 2) hx hb dX11_readThing_81 (by decide) ?_
            obtain ⟨_, hc_406⟩ := hO.cell h_a (by decide) (ci := 11) rfl
            refine th_callv (va_runV (As := [.int (I 2)]) (rest := []) ⟨hx, hb, hml, hown, hts⟩ (m_wrong l G y b0 σ E hO a h_a 2 (show rng 2 from (show rng 2 from ⟨by decide, by decide⟩)) (by omega) (by omega)) (cwV 1 hts gX11_readThing_X11_wrong rfl rfl rfl (by decide +kernel) ⟨(by first | (simp only [headSpec]; omega) | omega | (dsimp only; omega)), (by first | (simp only [headSpec]; omega) | omega | (dsimp only; omega))⟩) (th_PV hK hH rfl hc_406) rfl rfl hl.1 rfl (lv_room (Nat.le_of_ble_eq_true rfl)) dX11_readThing_82 ⟨(by first | (simp only [headSpec]; omega) | omega | (dsimp only; omega)), (by first | (simp only [headSpec]; omega) | omega | (dsimp only; omega))⟩) hS (fun σ_s_408 H locs hw_407 hH hS => ?_)
            obtain ⟨hO9, hF9, hM9, hw_407⟩ := hw_407
            replace hM := hM.tu hM9 (by decide)
            replace hF := hF.tu hF9 (by decide)
            have e_409 : aF σ_s_408 (ad E a 2) = f2 := (hM9.a (by decide) (by decide)).trans ef2
            have e_410 : gI σ_s_408 a 11 = a110 := (hM9.i (by decide)).trans ea110
            have e_411 : gI σ_s_408 a 13 = a130 := (hM9.i (by decide)).trans ea130
            have e_412 : gI σ_s_408 a 14 = a140 := (hM9.i (by decide)).trans ea140
            have e_413 : gI σ_s_408 a 17 = a170 := (hM9.i (by decide)).trans ea170
            have e_414 : gI σ_s_408 a 22 = a220 := (hM9.i (by decide)).trans ea220
            replace hsr := hsr.mv hM9 (by decide) (by decide) (by decide) (by decide) (by decide)
            replace hO := hO9
            have hw_407 : ¬ gI σ_s_408 a 19 = 0 ∧ (gI σ a 19 = 0 ∨ gI σ_s_408 a 19 = gI σ a 19) := hw_407
            exact jK_256 () σ_s_408 _ _ _ ⟨hO, hF, hM, hsr, hH, hS, lv_sub hl [0, 1, 2] rfl, by first | omega | (dsimp only; omega), e_410, e_411, e_412, e_413, e_414, e_409⟩
          · refine lv_icmp_eq (tgt := 80) hx hb dX11_readThing_71 (by decide) (fun c_415 => ?_) (fun c_415 => ?_)
            · replace c_415 := (I_eq (a := a220) (b := 60) ra220 (show rng 60 from ⟨by decide, by decide⟩)).mp c_415
              replace hl : lv_has ls 5 [(0, .ref a), (1, .int (I ky)), (2, .int (I dp))] := lv_sub hl [1, 2, 3] rfl
              exact jK_405 () σ _ _ _ ⟨rfl, hH, hS, lv_sub hl [0, 1, 2] rfl⟩
            · replace c_415 := mt (I_eq (a := a220) (b := 60) ra220 (show rng 60 from ⟨by decide, by decide⟩)).mpr c_415
              refine lv_iload_n hx hb dX11_readThing_74 rfl (lv_at hl 3 rfl) ?_
              refine lv_bipush (v := I 7) hx hb dX11_readThing_75 (by decide) ?_
              refine lv_icmp_le (tgt := 85) hx hb dX11_readThing_77 (by decide) (fun c_416 => ?_) (fun c_416 => ?_)
              · replace c_416 := (I_le (a := dp) (b := 7) rdp (show rng 7 from ⟨by decide, by decide⟩)).mp c_416
                replace hl : lv_has ls 5 [(0, .ref a), (1, .int (I ky)), (2, .int (I dp))] := lv_sub hl [1, 2, 3] rfl
                exact jK_256 () σ _ _ _ ⟨hO, hF, hM, hsr, hH, hS, lv_sub hl [0, 1, 2] rfl, by first | omega | (dsimp only; omega), ea110, ea130, ea140, ea170, ea220, ef2⟩
              · replace c_416 := mt (I_le (a := dp) (b := 7) rdp (show rng 7 from ⟨by decide, by decide⟩)).mpr c_416
                replace hl : lv_has ls 5 [(0, .ref a), (1, .int (I ky)), (2, .int (I dp))] := lv_sub hl [1, 2, 3] rfl
                exact jK_405 () σ _ _ _ ⟨rfl, hH, hS, lv_sub hl [0, 1, 2] rfl⟩
    · refine lv_icmp_eq (tgt := 43) hx hb dX11_readThing_5 (by decide) (fun c_434 => ?_) (fun c_434 => ?_)
      · replace c_434 := (I_eq (a := a140) (b := 2) ra140 (show rng 2 from ⟨by decide, by decide⟩)).mp c_434
        exact jK_236 () σ _ _ _ ⟨rfl, hH, hS, lv_sub hl [0, 1, 2] rfl⟩
      · replace c_434 := mt (I_eq (a := a140) (b := 2) ra140 (show rng 2 from ⟨by decide, by decide⟩)).mpr c_434
        refine lv_aload_n hx hb dX11_readThing_8 rfl (lv_at hl 0 rfl) ?_
        refine ok.getIc hO h_a (by decide) k13_14 ea140 (fun _ _ he hv kk => th_get (ci := 11) (C := RX11) (T := TX11) (N := 66) hx hb hts inX11 hown hK hH he rfl 14 (by decide) fl0 hv dX11_readThing_9 kk) ?_
        refine lv_iconst (v := I 1) hx hb dX11_readThing_12 (by decide) ?_
        refine lv_icmp_eq (tgt := 43) hx hb dX11_readThing_13 (by decide) (fun c_435 => ?_) (fun c_435 => ?_)
        · replace c_435 := (I_eq (a := a140) (b := 1) ra140 (show rng 1 from ⟨by decide, by decide⟩)).mp c_435
          exact jK_236 () σ _ _ _ ⟨rfl, hH, hS, lv_sub hl [0, 1, 2] rfl⟩
        · replace c_435 := mt (I_eq (a := a140) (b := 1) ra140 (show rng 1 from ⟨by decide, by decide⟩)).mpr c_435
          refine lv_aload_n hx hb dX11_readThing_16 rfl (lv_at hl 0 rfl) ?_
          refine lv_bipush (v := I 45) hx hb dX11_readThing_17 (by decide) ?_
          obtain ⟨_, hc_436⟩ := hO.cell h_a (by decide) (ci := 11) rfl
          refine th_calli (va_runV (As := [.int (I 45)]) (rest := []) ⟨hx, hb, hml, hown, hts⟩ (m_isMarked l G y b0 σ E hO a h_a 45 (show rng 45 from (show rng 45 from ⟨by decide, by decide⟩)) Bf hsr (by omega)) (cwV 1 hts gX11_readThing_X11_isMarked rfl rfl rfl (by decide +kernel) ⟨(by first | (simp only [headSpec]; omega) | omega | (dsimp only; omega)), (by first | (simp only [headSpec]; omega) | omega | (dsimp only; omega))⟩) (th_PV hK hH rfl hc_436) rfl rfl hl.1 rfl (lv_room (Nat.le_of_ble_eq_true rfl)) dX11_readThing_19 ⟨(by first | (simp only [headSpec]; omega) | omega | (dsimp only; omega)), (by first | (simp only [headSpec]; omega) | omega | (dsimp only; omega))⟩) hS (fun z_439 σ_s_438 H locs rz_439 hw_437 hH hS => ?_)
          obtain ⟨e9, bhw_437, hw_437⟩ := hw_437
          replace e9 := e9.symm
          subst e9
          have hw_437 : z_439 = 0 ∨ (z_439 = 1 ∧ gI σ a 19 = 0 ∧ gI σ a 14 = 3 ∧ Bf (gI σ a 17) = 45) := hw_437
          refine lv_if_ne (tgt := 43) hx hb dX11_readThing_22 (by decide) (fun c_440 => ?_) (fun c_440 => ?_)
          · replace c_440 := mt (I_eq (a := z_439) (b := 0) rz_439 (show rng 0 from ⟨by decide, by decide⟩)).mpr c_440
            replace hw_437 := (hw_437.resolve_left c_440).2
            exact jK_236 () σ _ _ _ ⟨rfl, hH, hS, lv_sub hl [0, 1, 2] rfl⟩
          · replace c_440 := (I_eq (a := z_439) (b := 0) rz_439 (show rng 0 from ⟨by decide, by decide⟩)).mp c_440
            clear hw_437
            refine lv_aload_n hx hb dX11_readThing_25 rfl (lv_at hl 0 rfl) ?_
            refine lv_bipush (v := I 91) hx hb dX11_readThing_26 (by decide) ?_
            obtain ⟨_, hc_441⟩ := hO.cell h_a (by decide) (ci := 11) rfl
            refine th_calli (va_runV (As := [.int (I 91)]) (rest := []) ⟨hx, hb, hml, hown, hts⟩ (m_isMarked l G y b0 σ E hO a h_a 91 (show rng 91 from (show rng 91 from ⟨by decide, by decide⟩)) Bf hsr (by omega)) (cwV 1 hts gX11_readThing_X11_isMarked rfl rfl rfl (by decide +kernel) ⟨(by first | (simp only [headSpec]; omega) | omega | (dsimp only; omega)), (by first | (simp only [headSpec]; omega) | omega | (dsimp only; omega))⟩) (th_PV hK hH rfl hc_441) rfl rfl hl.1 rfl (lv_room (Nat.le_of_ble_eq_true rfl)) dX11_readThing_28 ⟨(by first | (simp only [headSpec]; omega) | omega | (dsimp only; omega)), (by first | (simp only [headSpec]; omega) | omega | (dsimp only; omega))⟩) hS (fun z_444 σ_s_443 H locs rz_444 hw_442 hH hS => ?_)
            obtain ⟨e9, bhw_442, hw_442⟩ := hw_442
            replace e9 := e9.symm
            subst e9
            have hw_442 : z_444 = 0 ∨ (z_444 = 1 ∧ gI σ a 19 = 0 ∧ gI σ a 14 = 3 ∧ Bf (gI σ a 17) = 91) := hw_442
            refine lv_if_ne (tgt := 43) hx hb dX11_readThing_31 (by decide) (fun c_445 => ?_) (fun c_445 => ?_)
            · replace c_445 := mt (I_eq (a := z_444) (b := 0) rz_444 (show rng 0 from ⟨by decide, by decide⟩)).mpr c_445
              replace hw_442 := (hw_442.resolve_left c_445).2
              exact jK_236 () σ _ _ _ ⟨rfl, hH, hS, lv_sub hl [0, 1, 2] rfl⟩
            · replace c_445 := (I_eq (a := z_444) (b := 0) rz_444 (show rng 0 from ⟨by decide, by decide⟩)).mp c_445
              clear hw_442
              refine lv_aload_n hx hb dX11_readThing_34 rfl (lv_at hl 0 rfl) ?_
              refine lv_bipush (v := I 123) hx hb dX11_readThing_35 (by decide) ?_
              obtain ⟨_, hc_446⟩ := hO.cell h_a (by decide) (ci := 11) rfl
              refine th_calli (va_runV (As := [.int (I 123)]) (rest := []) ⟨hx, hb, hml, hown, hts⟩ (m_isMarked l G y b0 σ E hO a h_a 123 (show rng 123 from (show rng 123 from ⟨by decide, by decide⟩)) Bf hsr (by omega)) (cwV 1 hts gX11_readThing_X11_isMarked rfl rfl rfl (by decide +kernel) ⟨(by first | (simp only [headSpec]; omega) | omega | (dsimp only; omega)), (by first | (simp only [headSpec]; omega) | omega | (dsimp only; omega))⟩) (th_PV hK hH rfl hc_446) rfl rfl hl.1 rfl (lv_room (Nat.le_of_ble_eq_true rfl)) dX11_readThing_37 ⟨(by first | (simp only [headSpec]; omega) | omega | (dsimp only; omega)), (by first | (simp only [headSpec]; omega) | omega | (dsimp only; omega))⟩) hS (fun z_449 σ_s_448 H locs rz_449 hw_447 hH hS => ?_)
              obtain ⟨e9, bhw_447, hw_447⟩ := hw_447
              replace e9 := e9.symm
              subst e9
              have hw_447 : z_449 = 0 ∨ (z_449 = 1 ∧ gI σ a 19 = 0 ∧ gI σ a 14 = 3 ∧ Bf (gI σ a 17) = 123) := hw_447
              refine lv_if_eq (tgt := 47) hx hb dX11_readThing_40 (by decide) (fun c_450 => ?_) (fun c_450 => ?_)
              · replace c_450 := (I_eq (a := z_449) (b := 0) rz_449 (show rng 0 from ⟨by decide, by decide⟩)).mp c_450
                clear hw_447
                refine lv_iconst (v := I 0) hx hb dX11_readThing_47 (by decide) ?_
                refine lv_istore_n (lv' := [(3, .int (I 0)), (0, .ref a), (1, .int (I ky)), (2, .int (I dp))]) hx hb dX11_readThing_48 rfl hl (by decide) rfl (fun ls hl => ?_)
                refine lv_iload_n hx hb dX11_readThing_49 rfl (lv_at hl 0 rfl) ?_
                refine lv_if_ne (tgt := 58) hx hb dX11_readThing_50 (by decide) (fun c_461 => absurd c_461 (by decide)) (fun _ => ?_)
                refine lv_aload_n hx hb dX11_readThing_53 rfl (lv_at hl 1 rfl) ?_
                refine lv_iconst (v := I 1) hx hb dX11_readThing_54 (by decide) ?_
                obtain ⟨_, hc_462⟩ := hO.cell h_a (by decide) (ci := 11) rfl
                refine th_callv (va_runV (As := [.int (I 1)]) (rest := []) ⟨hx, hb, hml, hown, hts⟩ (m_wrong l G y b0 σ E hO a h_a 1 (show rng 1 from (show rng 1 from ⟨by decide, by decide⟩)) (by omega) (by omega)) (cwV 1 hts gX11_readThing_X11_wrong rfl rfl rfl (by decide +kernel) ⟨(by first | (simp only [headSpec]; omega) | omega | (dsimp only; omega)), (by first | (simp only [headSpec]; omega) | omega | (dsimp only; omega))⟩) (th_PV hK hH rfl hc_462) rfl rfl hl.1 rfl (lv_room (Nat.le_of_ble_eq_true rfl)) dX11_readThing_55 ⟨(by first | (simp only [headSpec]; omega) | omega | (dsimp only; omega)), (by first | (simp only [headSpec]; omega) | omega | (dsimp only; omega))⟩) hS (fun σ_s_464 H locs hw_463 hH hS => ?_)
                obtain ⟨hO9, hF9, hM9, hw_463⟩ := hw_463
                replace hM := hM.tu hM9 (by decide)
                replace hF := hF.tu hF9 (by decide)
                have e_465 : aF σ_s_464 (ad E a 2) = f2 := (hM9.a (by decide) (by decide)).trans ef2
                have e_466 : gI σ_s_464 a 11 = a110 := (hM9.i (by decide)).trans ea110
                have e_467 : gI σ_s_464 a 13 = a130 := (hM9.i (by decide)).trans ea130
                have e_468 : gI σ_s_464 a 14 = a140 := (hM9.i (by decide)).trans ea140
                have e_469 : gI σ_s_464 a 17 = a170 := (hM9.i (by decide)).trans ea170
                have e_470 : gI σ_s_464 a 22 = a220 := (hM9.i (by decide)).trans ea220
                replace hsr := hsr.mv hM9 (by decide) (by decide) (by decide) (by decide) (by decide)
                replace hO := hO9
                have hw_463 : ¬ gI σ_s_464 a 19 = 0 ∧ (gI σ a 19 = 0 ∨ gI σ_s_464 a 19 = gI σ a 19) := hw_463
                refine lv_aload_n hx hb dX11_readThing_58 rfl (lv_at hl 1 rfl) ?_
                refine ok.getI hO h_a (by decide) k13_19 (fun _ _ he hv kk => th_get (ci := 11) (C := RX11) (T := TX11) (N := 66) hx hb hts inX11 hown hK hH he rfl 19 (by decide) fl1 hv dX11_readThing_59 kk) (fun z_471 e_472 rz_471 lz_471 uz_471 => ?_)
                refine th_join (α := Unit) (J := 85) (stk := fun x9 => []) (fun x9 σ9 H9 l9 ls9 => ok y E σ9 ∧ fr [13] E σ σ9 ∧ fm [13, 14, 15, 16, 17, 18, 19, 20, 2, 22] E σ σ9 a ∧ sr E σ9 a Bf ∧ th_H G b0 σ9 H9 ∧ va_S (th_A b0) s.heap H9 l9 ∧ lv_has ls9 5 [(0, .ref a), (1, .int (I ky)), (2, .int (I dp))] ∧ (¬ gI σ9 a 19 = 0 ∨ (a220 < 60 ∧ dp ≤ 7)) ∧ (gI σ9 a 11 = a110) ∧ (gI σ9 a 13 = a130) ∧ (gI σ9 a 14 = a140) ∧ (gI σ9 a 17 = a170) ∧ (gI σ9 a 22 = a220) ∧ (aF σ9 (ad E a 2) = f2)) ?_ (fun jK_490 => ?_)
                · intro x9 σ_K_490 H locs ls hI9
                  obtain ⟨hO, hF, hM, hsr, hH, hS, hl, K_490_0, K_490_1, K_490_2, K_490_3, K_490_4, K_490_5, K_490_6⟩ := hI9
                  have hl : lv_has ls 5 [(0, .ref a), (1, .int (I ky)), (2, .int (I dp))] := hl
                  have K_490_0 : ¬ gI σ_K_490 a 19 = 0 ∨ (a220 < 60 ∧ dp ≤ 7) := K_490_0
                  have K_490_1 : gI σ_K_490 a 11 = a110 := K_490_1
                  have K_490_2 : gI σ_K_490 a 13 = a130 := K_490_2
                  have K_490_3 : gI σ_K_490 a 14 = a140 := K_490_3
                  have K_490_4 : gI σ_K_490 a 17 = a170 := K_490_4
                  have K_490_5 : gI σ_K_490 a 22 = a220 := K_490_5
                  have K_490_6 : aF σ_K_490 (ad E a 2) = f2 := K_490_6
                  refine lv_aload_n hx hb dX11_readThing_85 rfl (lv_at hl 0 rfl) ?_
                  refine ok.getI hO h_a (by decide) k13_19 (fun _ _ he hv kk => th_get (ci := 11) (C := RX11) (T := TX11) (N := 66) hx hb hts inX11 hown hK hH he rfl 19 (by decide) fl1 hv dX11_readThing_86 kk) (fun z_491 e_492 rz_491 lz_491 uz_491 => ?_)
                  refine lv_if_eq (tgt := 93) hx hb dX11_readThing_89 (by decide) (fun c_493 => ?_) (fun c_493 => ?_)
                  · replace c_493 := (I_eq (a := z_491) (b := 0) rz_491 (show rng 0 from ⟨by decide, by decide⟩)).mp c_493
                    refine lv_iconst (v := I 4) hx hb dX11_readThing_93 (by decide) ?_
                    refine lv_aload_n hx hb dX11_readThing_94 rfl (lv_at hl 0 rfl) ?_
                    refine ok.getIc hO h_a (by decide) k13_22 K_490_5 (fun _ _ he hv kk => th_get (ci := 11) (C := RX11) (T := TX11) (N := 66) hx hb hts inX11 hown hK hH he rfl 22 (by decide) fl2 hv dX11_readThing_95 kk) ?_
                    refine lv_imul hx hb dX11_readThing_98 ?_
                    refine nq_top (I_mul _ _) ?_
                    refine lv_istore (lv' := [(4, .int (I (4 * a220))), (0, .ref a), (1, .int (I ky)), (2, .int (I dp))]) hx hb dX11_readThing_99 hl (by decide) rfl (fun ls hl => ?_)
                    refine lv_aload_n hx hb dX11_readThing_101 rfl (lv_at hl 1 rfl) ?_
                    refine lv_dup hx hb dX11_readThing_102 rfl ?_
                    refine ok.getIc hO h_a (by decide) k13_22 K_490_5 (fun _ _ he hv kk => th_get (ci := 11) (C := RX11) (T := TX11) (N := 66) hx hb hts inX11 hown hK hH he rfl 22 (by decide) fl2 hv dX11_readThing_103 kk) ?_
                    refine lv_iconst (v := I 1) hx hb dX11_readThing_106 (by decide) ?_
                    refine lv_iadd hx hb dX11_readThing_107 ?_
                    refine nq_top (I_add _ _) ?_
                    refine ok.putJ hO h_a k13_22 ⟨by omega, by omega⟩ (by omega) (by omega) (fun _ he hl9 kk => th_put (ci := 11) (v := .int (I (a220 + 1))) (ty := .int) (C := RX11) (T := TX11) (N := 66) hx hb hts inX11 tyX11 tyX11_ok nmX11 hown hK hH hS h00 he rfl 22 (by decide) fl2 rfl (by decide +kernel) rfl rfl hl9 dX11_readThing_108 kk) (fun σ_s_494 H locs hO hF9 hM9 hg9 ha9 hH hS => ?_)
                    replace hM := hM.tu hM9 (by decide)
                    replace hF := hF.tu hF9 (by decide)
                    have e_495 : gI σ_s_494 a 11 = a110 := (hM9.i (by decide)).trans K_490_1
                    have e_496 : gI σ_s_494 a 13 = a130 := (hM9.i (by decide)).trans K_490_2
                    have e_497 : gI σ_s_494 a 14 = a140 := (hM9.i (by decide)).trans K_490_3
                    have e_498 : gI σ_s_494 a 17 = a170 := (hM9.i (by decide)).trans K_490_4
                    have e_499 : aF σ_s_494 (ad E a 2) = f2 := (hM9.a (by decide) (by decide)).trans K_490_6
                    have e_500 : gI σ_s_494 a 19 = z_491 := (hM9.i (by decide)).trans e_492
                    replace hsr := hsr.mv hM9 (by decide) (by decide) (by decide) (by decide) (by decide)
                    have e_501 := hg9
                    refine lv_aload_n hx hb dX11_readThing_111 rfl (lv_at hl 1 rfl) ?_
                    refine ok.getR hO h_a (by decide) k13_2 (by decide) (fun _ _ he hv kk => th_get (ci := 11) (C := RX11) (T := TX11) (N := 66) hx hb hts inX11 hown hK hH he rfl 2 (by decide) fl3 hv dX11_readThing_112 kk) ?_
                    refine lv_iload hx hb dX11_readThing_115 (lv_at hl 0 rfl) ?_
                    refine lv_iconst (v := I 2) hx hb dX11_readThing_117 (by decide) ?_
                    refine lv_iadd hx hb dX11_readThing_118 ?_
                    refine nq_top (I_add _ _) ?_
                    refine lv_iload_n hx hb dX11_readThing_119 rfl (lv_at hl 2 rfl) ?_
                    refine m_iast hx hb hK hH hS h00 hO h_a k13_2 isA1 (by decide) e_499 ⟨by omega, by omega⟩ (by omega) (by omega) rky el1 dX11_readThing_120 (fun σ_s_502 H locs hO hF9 hM9 ha9 hH hS => ?_)
                    replace hM := hM.tu hM9 (by decide)
                    replace hF := hF.tu hF9 (by decide)
                    have e_503 : gI σ_s_502 a 11 = a110 := (hM9.i (by decide)).trans e_495
                    have e_504 : gI σ_s_502 a 13 = a130 := (hM9.i (by decide)).trans e_496
                    have e_505 : gI σ_s_502 a 14 = a140 := (hM9.i (by decide)).trans e_497
                    have e_506 : gI σ_s_502 a 17 = a170 := (hM9.i (by decide)).trans e_498
                    have e_507 : gI σ_s_502 a 19 = z_491 := (hM9.i (by decide)).trans e_500
                    have e_508 : gI σ_s_502 a 22 = a220 + 1 := (hM9.i (by decide)).trans e_501
                    replace hsr := hsr.mv hM9 (by decide) (by decide) (by decide) (by decide) (by decide)
                    obtain ⟨g_509, dg_509⟩ : ∃ g9, g9 = upd f2 (4 * a220 + 2).toNat (I ky) := ⟨_, rfl⟩
                    rw [← dg_509] at ha9
                    have ef_510 := ha9
                    refine lv_aload_n hx hb dX11_readThing_121 rfl (lv_at hl 1 rfl) ?_
                    refine ok.getR hO h_a (by decide) k13_2 (by decide) (fun _ _ he hv kk => th_get (ci := 11) (C := RX11) (T := TX11) (N := 66) hx hb hts inX11 hown hK hH he rfl 2 (by decide) fl3 hv dX11_readThing_122 kk) ?_
                    refine lv_iload hx hb dX11_readThing_125 (lv_at hl 0 rfl) ?_
                    refine lv_iconst (v := I 1) hx hb dX11_readThing_127 (by decide) ?_
                    refine lv_iadd hx hb dX11_readThing_128 ?_
                    refine nq_top (I_add _ _) ?_
                    refine lv_iconst (v := I 0) hx hb dX11_readThing_129 (by decide) ?_
                    refine m_iast hx hb hK hH hS h00 hO h_a k13_2 isA1 (by decide) ef_510 ⟨by omega, by omega⟩ (by omega) (by omega) (show rng 0 from ⟨by decide, by decide⟩) el1 dX11_readThing_130 (fun σ_s_511 H locs hO hF9 hM9 ha9 hH hS => ?_)
                    replace hM := hM.tu hM9 (by decide)
                    replace hF := hF.tu hF9 (by decide)
                    have e_512 : gI σ_s_511 a 11 = a110 := (hM9.i (by decide)).trans e_503
                    have e_513 : gI σ_s_511 a 13 = a130 := (hM9.i (by decide)).trans e_504
                    have e_514 : gI σ_s_511 a 14 = a140 := (hM9.i (by decide)).trans e_505
                    have e_515 : gI σ_s_511 a 17 = a170 := (hM9.i (by decide)).trans e_506
                    have e_516 : gI σ_s_511 a 19 = z_491 := (hM9.i (by decide)).trans e_507
                    have e_517 : gI σ_s_511 a 22 = a220 + 1 := (hM9.i (by decide)).trans e_508
                    replace hsr := hsr.mv hM9 (by decide) (by decide) (by decide) (by decide) (by decide)
                    obtain ⟨g_518, dg_518⟩ : ∃ g9, g9 = upd g_509 (4 * a220 + 1).toNat (I 0) := ⟨_, rfl⟩
                    rw [← dg_518] at ha9
                    have ef_519 := ha9
                    refine lv_aload_n hx hb dX11_readThing_131 rfl (lv_at hl 1 rfl) ?_
                    refine ok.getIc hO h_a (by decide) k13_14 e_514 (fun _ _ he hv kk => th_get (ci := 11) (C := RX11) (T := TX11) (N := 66) hx hb hts inX11 hown hK hH he rfl 14 (by decide) fl0 hv dX11_readThing_132 kk) ?_
                    refine lv_iconst (v := I 1) hx hb dX11_readThing_135 (by decide) ?_
                    refine lv_icmp_ne (tgt := 163) hx hb dX11_readThing_136 (by decide) (fun c_520 => ?_) (fun c_520 => ?_)
                    · replace c_520 := mt (I_eq (a := a140) (b := 1) ra140 (show rng 1 from ⟨by decide, by decide⟩)).mpr c_520
                      refine lv_aload_n hx hb dX11_readThing_163 rfl (lv_at hl 1 rfl) ?_
                      refine lv_bipush (v := I 91) hx hb dX11_readThing_164 (by decide) ?_
                      obtain ⟨_, hc_521⟩ := hO.cell h_a (by decide) (ci := 11) rfl
                      refine th_calli (va_runV (As := [.int (I 91)]) (rest := []) ⟨hx, hb, hml, hown, hts⟩ (m_isMarked l G y b0 σ_s_511 E hO a h_a 91 (show rng 91 from (show rng 91 from ⟨by decide, by decide⟩)) Bf hsr (by omega)) (cwV 1 hts gX11_readThing_X11_isMarked rfl rfl rfl (by decide +kernel) ⟨(by first | (simp only [headSpec]; omega) | omega | (dsimp only; omega)), (by first | (simp only [headSpec]; omega) | omega | (dsimp only; omega))⟩) (th_PV hK hH rfl hc_521) rfl rfl hl.1 rfl (lv_room (Nat.le_of_ble_eq_true rfl)) dX11_readThing_166 ⟨(by first | (simp only [headSpec]; omega) | omega | (dsimp only; omega)), (by first | (simp only [headSpec]; omega) | omega | (dsimp only; omega))⟩) hS (fun z_524 σ_s_523 H locs rz_524 hw_522 hH hS => ?_)
                      obtain ⟨e9, bhw_522, hw_522⟩ := hw_522
                      replace e9 := e9.symm
                      subst e9
                      have hw_522 : z_524 = 0 ∨ (z_524 = 1 ∧ gI σ_s_511 a 19 = 0 ∧ gI σ_s_511 a 14 = 3 ∧ Bf (gI σ_s_511 a 17) = 91) := hw_522
                      refine lv_if_eq (tgt := 192) hx hb dX11_readThing_169 (by decide) (fun c_525 => ?_) (fun c_525 => ?_)
                      · replace c_525 := (I_eq (a := z_524) (b := 0) rz_524 (show rng 0 from ⟨by decide, by decide⟩)).mp c_525
                        clear hw_522
                        refine lv_aload_n hx hb dX11_readThing_192 rfl (lv_at hl 1 rfl) ?_
                        refine lv_bipush (v := I 123) hx hb dX11_readThing_193 (by decide) ?_
                        obtain ⟨_, hc_526⟩ := hO.cell h_a (by decide) (ci := 11) rfl
                        refine th_calli (va_runV (As := [.int (I 123)]) (rest := []) ⟨hx, hb, hml, hown, hts⟩ (m_isMarked l G y b0 σ_s_511 E hO a h_a 123 (show rng 123 from (show rng 123 from ⟨by decide, by decide⟩)) Bf hsr (by omega)) (cwV 1 hts gX11_readThing_X11_isMarked rfl rfl rfl (by decide +kernel) ⟨(by first | (simp only [headSpec]; omega) | omega | (dsimp only; omega)), (by first | (simp only [headSpec]; omega) | omega | (dsimp only; omega))⟩) (th_PV hK hH rfl hc_526) rfl rfl hl.1 rfl (lv_room (Nat.le_of_ble_eq_true rfl)) dX11_readThing_195 ⟨(by first | (simp only [headSpec]; omega) | omega | (dsimp only; omega)), (by first | (simp only [headSpec]; omega) | omega | (dsimp only; omega))⟩) hS (fun z_529 σ_s_528 H locs rz_529 hw_527 hH hS => ?_)
                        obtain ⟨e9, bhw_527, hw_527⟩ := hw_527
                        replace e9 := e9.symm
                        subst e9
                        have hw_527 : z_529 = 0 ∨ (z_529 = 1 ∧ gI σ_s_511 a 19 = 0 ∧ gI σ_s_511 a 14 = 3 ∧ Bf (gI σ_s_511 a 17) = 123) := hw_527
                        refine lv_if_eq (tgt := 221) hx hb dX11_readThing_198 (by decide) (fun c_530 => ?_) (fun c_530 => ?_)
                        · replace c_530 := (I_eq (a := z_529) (b := 0) rz_529 (show rng 0 from ⟨by decide, by decide⟩)).mp c_530
                          clear hw_527
                          refine lv_aload_n hx hb dX11_readThing_221 rfl (lv_at hl 1 rfl) ?_
                          refine ok.getR hO h_a (by decide) k13_2 (by decide) (fun _ _ he hv kk => th_get (ci := 11) (C := RX11) (T := TX11) (N := 66) hx hb hts inX11 hown hK hH he rfl 2 (by decide) fl3 hv dX11_readThing_222 kk) ?_
                          refine lv_iload hx hb dX11_readThing_225 (lv_at hl 0 rfl) ?_
                          refine lv_iconst (v := I 0) hx hb dX11_readThing_227 (by decide) ?_
                          refine m_iast hx hb hK hH hS h00 hO h_a k13_2 isA1 (by decide) ef_519 ⟨by omega, by omega⟩ (by omega) (by omega) (show rng 0 from ⟨by decide, by decide⟩) el1 dX11_readThing_228 (fun σ_s_531 H locs hO hF9 hM9 ha9 hH hS => ?_)
                          replace hM := hM.tu hM9 (by decide)
                          replace hF := hF.tu hF9 (by decide)
                          have e_532 : gI σ_s_531 a 11 = a110 := (hM9.i (by decide)).trans e_512
                          have e_533 : gI σ_s_531 a 13 = a130 := (hM9.i (by decide)).trans e_513
                          have e_534 : gI σ_s_531 a 14 = a140 := (hM9.i (by decide)).trans e_514
                          have e_535 : gI σ_s_531 a 17 = a170 := (hM9.i (by decide)).trans e_515
                          have e_536 : gI σ_s_531 a 19 = z_491 := (hM9.i (by decide)).trans e_516
                          have e_537 : gI σ_s_531 a 22 = a220 + 1 := (hM9.i (by decide)).trans e_517
                          replace hsr := hsr.mv hM9 (by decide) (by decide) (by decide) (by decide) (by decide)
                          obtain ⟨g_538, dg_538⟩ : ∃ g9, g9 = upd g_518 (4 * a220).toNat (I 0) := ⟨_, rfl⟩
                          rw [← dg_538] at ha9
                          have ef_539 := ha9
                          refine lv_aload_n hx hb dX11_readThing_229 rfl (lv_at hl 1 rfl) ?_
                          refine ok.getR hO h_a (by decide) k13_2 (by decide) (fun _ _ he hv kk => th_get (ci := 11) (C := RX11) (T := TX11) (N := 66) hx hb hts inX11 hown hK hH he rfl 2 (by decide) fl3 hv dX11_readThing_230 kk) ?_
                          refine lv_iload hx hb dX11_readThing_233 (lv_at hl 0 rfl) ?_
                          refine lv_iconst (v := I 1) hx hb dX11_readThing_235 (by decide) ?_
                          refine lv_iadd hx hb dX11_readThing_236 ?_
                          refine nq_top (I_add _ _) ?_
                          refine lv_aload_n hx hb dX11_readThing_237 rfl (lv_at hl 1 rfl) ?_
                          obtain ⟨_, hc_540⟩ := hO.cell h_a (by decide) (ci := 11) rfl
                          refine th_calli (va_runV (As := []) (rest := [.int (I (4 * a220 + 1)), .ref (ad E a 2)]) ⟨hx, hb, hml, hown, hts⟩ (m_readNumber l G y b0 σ_s_531 E hO a h_a Bf hsr (by omega)) (cwV 0 hts gX11_readThing_X11_readNumber rfl rfl rfl (by decide +kernel) ⟨(by first | (simp only [headSpec]; omega) | omega | (dsimp only; omega)), (by first | (simp only [headSpec]; omega) | omega | (dsimp only; omega))⟩) (th_PV hK hH rfl hc_540) rfl rfl hl.1 rfl (lv_room (Nat.le_of_ble_eq_true rfl)) dX11_readThing_238 ⟨(by first | (simp only [headSpec]; omega) | omega | (dsimp only; omega)), (by first | (simp only [headSpec]; omega) | omega | (dsimp only; omega))⟩) hS (fun z_543 σ_s_542 H locs rz_543 hw_541 hH hS => ?_)
                          obtain ⟨hO9, hF9, hM9, hw_541⟩ := hw_541
                          replace hM := hM.tu hM9 (by decide)
                          replace hF := hF.tu hF9 (by decide)
                          have e_544 : gI σ_s_542 a 11 = a110 := (hM9.i (by decide)).trans e_532
                          have e_545 : gI σ_s_542 a 22 = a220 + 1 := (hM9.i (by decide)).trans e_537
                          have e_546 : aF σ_s_542 (ad E a 2) = g_538 := (hM9.a (by decide) (by decide)).trans ef_539
                          replace hsr := hsr.mv hM9 (by decide) (by decide) (by decide) (by decide) (by decide)
                          replace hO := hO9
                          have hw_541 : (gI σ_s_531 a 13 ≤ gI σ_s_542 a 13 ∧ gI σ_s_542 a 13 ≤ gI σ_s_531 a 11 ∧ 0 ≤ gI σ_s_542 a 17 ∧ gI σ_s_542 a 17 ≤ gI σ_s_542 a 13) ∧ pgo (gI σ_s_542 a 19) (gI σ_s_542 a 14) (gI σ_s_531 a 13) (gI σ_s_542 a 13) ∧ bdo (gI σ_s_531 a 19) (gI σ_s_542 a 19) := hw_541
                          simp only [pgo, bdo] at hw_541
                          refine m_iast hx hb hK hH hS h00 hO h_a k13_2 isA1 (by decide) e_546 ⟨by omega, by omega⟩ (by omega) (by omega) rz_543 el1 dX11_readThing_241 (fun σ_s_547 H locs hO hF9 hM9 ha9 hH hS => ?_)
                          replace hM := hM.tu hM9 (by decide)
                          replace hF := hF.tu hF9 (by decide)
                          have e_548 : gI σ_s_547 a 11 = a110 := (hM9.i (by decide)).trans e_544
                          have e_549 : gI σ_s_547 a 22 = a220 + 1 := (hM9.i (by decide)).trans e_545
                          replace hsr := hsr.mv hM9 (by decide) (by decide) (by decide) (by decide) (by decide)
                          obtain ⟨g_550, dg_550⟩ : ∃ g9, g9 = upd g_538 (4 * a220 + 1).toNat (I z_543) := ⟨_, rfl⟩
                          rw [← dg_550] at ha9
                          have ef_551 := ha9
                          refine lv_aload_n hx hb dX11_readThing_242 rfl (lv_at hl 1 rfl) ?_
                          refine ok.getR hO h_a (by decide) k13_2 (by decide) (fun _ _ he hv kk => th_get (ci := 11) (C := RX11) (T := TX11) (N := 66) hx hb hts inX11 hown hK hH he rfl 2 (by decide) fl3 hv dX11_readThing_243 kk) ?_
                          refine lv_iload hx hb dX11_readThing_246 (lv_at hl 0 rfl) ?_
                          refine lv_iconst (v := I 3) hx hb dX11_readThing_248 (by decide) ?_
                          refine lv_iadd hx hb dX11_readThing_249 ?_
                          refine nq_top (I_add _ _) ?_
                          refine lv_aload_n hx hb dX11_readThing_250 rfl (lv_at hl 1 rfl) ?_
                          refine ok.getIc hO h_a (by decide) k13_22 e_549 (fun _ _ he hv kk => th_get (ci := 11) (C := RX11) (T := TX11) (N := 66) hx hb hts inX11 hown hK hH he rfl 22 (by decide) fl2 hv dX11_readThing_251 kk) ?_
                          refine lv_iload hx hb dX11_readThing_254 (lv_at hl 0 rfl) ?_
                          refine lv_iconst (v := I 4) hx hb dX11_readThing_256 (by decide) ?_
                          refine lv_idiv hx hb dX11_readThing_257 (by decide) ?_
                          refine th_div (n := 4) ⟨by omega, by omega⟩ (by omega) (by decide) (fun z_552 rz_552 hz_552 => ?_)
                          refine lv_isub hx hb dX11_readThing_258 ?_
                          refine th_subo (fun z_553 rz_553 hz_553 => ?_)
                          refine m_iast hx hb hK hH hS h00 hO h_a k13_2 isA1 (by decide) ef_551 ⟨by omega, by omega⟩ (by omega) (by omega) rz_553 el1 dX11_readThing_259 (fun σ_s_554 H locs hO hF9 hM9 ha9 hH hS => ?_)
                          replace hM := hM.tu hM9 (by decide)
                          replace hF := hF.tu hF9 (by decide)
                          have e_555 : gI σ_s_554 a 11 = a110 := (hM9.i (by decide)).trans e_548
                          have e_556 : gI σ_s_554 a 22 = a220 + 1 := (hM9.i (by decide)).trans e_549
                          replace hsr := hsr.mv hM9 (by decide) (by decide) (by decide) (by decide) (by decide)
                          obtain ⟨g_557, dg_557⟩ : ∃ g9, g9 = upd g_550 (4 * a220 + 3).toNat (I z_553) := ⟨_, rfl⟩
                          rw [← dg_557] at ha9
                          have ef_558 := ha9
                          exact th_vret hx hb hr hlocks hH hS ⟨hO, hF, hM, ⟨⟨by omega, pgo.of (by omega)⟩, by omega, by rw [show gI σ a 22 = a220 by omega, show gI σ_s_554 a 22 = a220 + 1 by omega, show aF σ_s_554 (ad E a 2) = g_557 from ef_558]; exact Or.inr ((rdF.zero (f := g_550) same.rf).node dg_557 (by omega) ⟨by omega, by omega⟩ (by omega) (((((same.rf).up1 dg_509 (by omega)).up1 dg_518 (by omega)).up1 dg_538 (by omega)).up1 dg_550 (by omega)) ((mY_up dg_550 (by omega) (by omega)).trans ((mY_up dg_538 (by omega) (by omega)).trans ((mY_up dg_518 (by omega) (by omega)).trans (mY_at dg_509 rky)))))⟩⟩ dX11_readThing_260
                        · replace c_530 := mt (I_eq (a := z_529) (b := 0) rz_529 (show rng 0 from ⟨by decide, by decide⟩)).mpr c_530
                          replace hw_527 := (hw_527.resolve_left c_530).2
                          refine lv_aload_n hx hb dX11_readThing_201 rfl (lv_at hl 1 rfl) ?_
                          refine ok.getR hO h_a (by decide) k13_2 (by decide) (fun _ _ he hv kk => th_get (ci := 11) (C := RX11) (T := TX11) (N := 66) hx hb hts inX11 hown hK hH he rfl 2 (by decide) fl3 hv dX11_readThing_202 kk) ?_
                          refine lv_iload hx hb dX11_readThing_205 (lv_at hl 0 rfl) ?_
                          refine lv_iconst (v := I 3) hx hb dX11_readThing_207 (by decide) ?_
                          refine m_iast hx hb hK hH hS h00 hO h_a k13_2 isA1 (by decide) ef_519 ⟨by omega, by omega⟩ (by omega) (by omega) (show rng 3 from ⟨by decide, by decide⟩) el1 dX11_readThing_208 (fun σ_s_559 H locs hO hF9 hM9 ha9 hH hS => ?_)
                          replace hM := hM.tu hM9 (by decide)
                          replace hF := hF.tu hF9 (by decide)
                          have e_560 : gI σ_s_559 a 11 = a110 := (hM9.i (by decide)).trans e_512
                          have e_561 : gI σ_s_559 a 13 = a130 := (hM9.i (by decide)).trans e_513
                          have e_562 : gI σ_s_559 a 14 = a140 := (hM9.i (by decide)).trans e_514
                          have e_563 : gI σ_s_559 a 17 = a170 := (hM9.i (by decide)).trans e_515
                          have e_564 : gI σ_s_559 a 19 = z_491 := (hM9.i (by decide)).trans e_516
                          have e_565 : gI σ_s_559 a 22 = a220 + 1 := (hM9.i (by decide)).trans e_517
                          replace hsr := hsr.mv hM9 (by decide) (by decide) (by decide) (by decide) (by decide)
                          obtain ⟨g_566, dg_566⟩ : ∃ g9, g9 = upd g_518 (4 * a220).toNat (I 3) := ⟨_, rfl⟩
                          rw [← dg_566] at ha9
                          have ef_567 := ha9
                          refine lv_aload_n hx hb dX11_readThing_209 rfl (lv_at hl 1 rfl) ?_
                          refine lv_iload hx hb dX11_readThing_210 (lv_at hl 0 rfl) ?_
                          refine lv_iload_n hx hb dX11_readThing_212 rfl (lv_at hl 3 rfl) ?_
                          refine lv_bipush (v := I 125) hx hb dX11_readThing_213 (by decide) ?_
                          obtain ⟨_, hc_568⟩ := hO.cell h_a (by decide) (ci := 11) rfl
                          refine th_callv (va_runV (As := [.int (I (4 * a220)), .int (I dp), .int (I 125)]) (rest := []) ⟨hx, hb, hml, hown, hts⟩ (m_readMany n ih l G y b0 σ_s_559 E hO a h_a (4 * a220) (show rng (4 * a220) from ⟨by omega, by omega⟩) (by omega) (by omega) dp (show rng dp from rdp) (by omega) (by omega) 125 (show rng 125 from (show rng 125 from ⟨by decide, by decide⟩)) g_566 ef_567 Bf hsr (by omega) (by omega) (by omega) (by omega)) (cwV 3 hts gX11_readThing_X11_readMany rfl rfl rfl (by decide +kernel) ⟨(by first | (simp only [headSpec]; omega) | omega | (dsimp only; omega)), (by first | (simp only [headSpec]; omega) | omega | (dsimp only; omega))⟩) (th_PV hK hH rfl hc_568) rfl rfl hl.1 rfl (lv_room (Nat.le_of_ble_eq_true rfl)) dX11_readThing_215 ⟨(by first | (simp only [headSpec]; omega) | omega | (dsimp only; omega)), (by first | (simp only [headSpec]; omega) | omega | (dsimp only; omega))⟩) hS (fun σ_s_570 H locs hw_569 hH hS => ?_)
                          obtain ⟨hO9, hF9, hM9, hw_569⟩ := hw_569
                          replace hM := hM.tu hM9 (by decide)
                          replace hF := hF.tu hF9 (by decide)
                          have e_571 : gI σ_s_570 a 11 = a110 := (hM9.i (by decide)).trans e_560
                          replace hsr := hsr.mv hM9 (by decide) (by decide) (by decide) (by decide) (by decide)
                          replace hO := hO9
                          generalize ef_573 : aF σ_s_570 (ad E a 2) = g_572 at hw_569
                          have hw_569 : ((gI σ_s_559 a 13 ≤ gI σ_s_570 a 13 ∧ gI σ_s_570 a 13 ≤ gI σ_s_559 a 11 ∧ 0 ≤ gI σ_s_570 a 17 ∧ gI σ_s_570 a 17 ≤ gI σ_s_570 a 13) ∧ pgo (gI σ_s_570 a 19) (gI σ_s_570 a 14) (gI σ_s_559 a 13) (gI σ_s_570 a 13)) ∧ gI σ_s_559 a 22 ≤ gI σ_s_570 a 22 ∧ (¬ gI σ_s_570 a 19 = 0 ∨ rdF g_566 g_572 ((4 * a220) / 4) (gI σ_s_570 a 22)) := hw_569
                          simp only [pgo, bdo] at hw_569
                          refine lv_goto (tgt := 242) hx hb dX11_readThing_218 (by decide) ?_
                          refine lv_aload_n hx hb dX11_readThing_242 rfl (lv_at hl 1 rfl) ?_
                          refine ok.getR hO h_a (by decide) k13_2 (by decide) (fun _ _ he hv kk => th_get (ci := 11) (C := RX11) (T := TX11) (N := 66) hx hb hts inX11 hown hK hH he rfl 2 (by decide) fl3 hv dX11_readThing_243 kk) ?_
                          refine lv_iload hx hb dX11_readThing_246 (lv_at hl 0 rfl) ?_
                          refine lv_iconst (v := I 3) hx hb dX11_readThing_248 (by decide) ?_
                          refine lv_iadd hx hb dX11_readThing_249 ?_
                          refine nq_top (I_add _ _) ?_
                          refine lv_aload_n hx hb dX11_readThing_250 rfl (lv_at hl 1 rfl) ?_
                          refine ok.getI hO h_a (by decide) k13_22 (fun _ _ he hv kk => th_get (ci := 11) (C := RX11) (T := TX11) (N := 66) hx hb hts inX11 hown hK hH he rfl 22 (by decide) fl2 hv dX11_readThing_251 kk) (fun z_574 e_575 rz_574 lz_574 uz_574 => ?_)
                          refine lv_iload hx hb dX11_readThing_254 (lv_at hl 0 rfl) ?_
                          refine lv_iconst (v := I 4) hx hb dX11_readThing_256 (by decide) ?_
                          refine lv_idiv hx hb dX11_readThing_257 (by decide) ?_
                          refine th_div (n := 4) ⟨by omega, by omega⟩ (by omega) (by decide) (fun z_576 rz_576 hz_576 => ?_)
                          refine lv_isub hx hb dX11_readThing_258 ?_
                          refine th_subo (fun z_577 rz_577 hz_577 => ?_)
                          refine m_iast hx hb hK hH hS h00 hO h_a k13_2 isA1 (by decide) ef_573 ⟨by omega, by omega⟩ (by omega) (by omega) rz_577 el1 dX11_readThing_259 (fun σ_s_578 H locs hO hF9 hM9 ha9 hH hS => ?_)
                          replace hM := hM.tu hM9 (by decide)
                          replace hF := hF.tu hF9 (by decide)
                          have e_579 : gI σ_s_578 a 11 = a110 := (hM9.i (by decide)).trans e_571
                          have e_580 : gI σ_s_578 a 22 = z_574 := (hM9.i (by decide)).trans e_575
                          replace hsr := hsr.mv hM9 (by decide) (by decide) (by decide) (by decide) (by decide)
                          obtain ⟨g_581, dg_581⟩ : ∃ g9, g9 = upd g_572 (4 * a220 + 3).toNat (I z_577) := ⟨_, rfl⟩
                          rw [← dg_581] at ha9
                          have ef_582 := ha9
                          exact th_vret hx hb hr hlocks hH hS ⟨hO, hF, hM, ⟨⟨by omega, pgo.of (by omega)⟩, by omega, hw_569.2.2.elim (fun h9 => Or.inl (by omega)) (fun h9 => Or.inr (by rw [show 4 * a220 / 4 = a220 by omega] at h9; rw [show gI σ a 22 = a220 by omega, show gI σ_s_578 a 22 = gI σ_s_570 a 22 by omega, show aF σ_s_578 (ad E a 2) = g_581 from ef_582]; exact h9.node dg_581 (by omega) ⟨by omega, by omega⟩ (by omega) ((((same.rf).up1 dg_509 (by omega)).up1 dg_518 (by omega)).up1 dg_566 (by omega)) ((mY_up dg_566 (by omega) (by omega)).trans ((mY_up dg_518 (by omega) (by omega)).trans (mY_at dg_509 rky)))))⟩⟩ dX11_readThing_260
                      · replace c_525 := mt (I_eq (a := z_524) (b := 0) rz_524 (show rng 0 from ⟨by decide, by decide⟩)).mpr c_525
                        replace hw_522 := (hw_522.resolve_left c_525).2
                        refine lv_aload_n hx hb dX11_readThing_172 rfl (lv_at hl 1 rfl) ?_
                        refine ok.getR hO h_a (by decide) k13_2 (by decide) (fun _ _ he hv kk => th_get (ci := 11) (C := RX11) (T := TX11) (N := 66) hx hb hts inX11 hown hK hH he rfl 2 (by decide) fl3 hv dX11_readThing_173 kk) ?_
                        refine lv_iload hx hb dX11_readThing_176 (lv_at hl 0 rfl) ?_
                        refine lv_iconst (v := I 2) hx hb dX11_readThing_178 (by decide) ?_
                        refine m_iast hx hb hK hH hS h00 hO h_a k13_2 isA1 (by decide) ef_519 ⟨by omega, by omega⟩ (by omega) (by omega) (show rng 2 from ⟨by decide, by decide⟩) el1 dX11_readThing_179 (fun σ_s_583 H locs hO hF9 hM9 ha9 hH hS => ?_)
                        replace hM := hM.tu hM9 (by decide)
                        replace hF := hF.tu hF9 (by decide)
                        have e_584 : gI σ_s_583 a 11 = a110 := (hM9.i (by decide)).trans e_512
                        have e_585 : gI σ_s_583 a 13 = a130 := (hM9.i (by decide)).trans e_513
                        have e_586 : gI σ_s_583 a 14 = a140 := (hM9.i (by decide)).trans e_514
                        have e_587 : gI σ_s_583 a 17 = a170 := (hM9.i (by decide)).trans e_515
                        have e_588 : gI σ_s_583 a 19 = z_491 := (hM9.i (by decide)).trans e_516
                        have e_589 : gI σ_s_583 a 22 = a220 + 1 := (hM9.i (by decide)).trans e_517
                        replace hsr := hsr.mv hM9 (by decide) (by decide) (by decide) (by decide) (by decide)
                        obtain ⟨g_590, dg_590⟩ : ∃ g9, g9 = upd g_518 (4 * a220).toNat (I 2) := ⟨_, rfl⟩
                        rw [← dg_590] at ha9
                        have ef_591 := ha9
                        refine lv_aload_n hx hb dX11_readThing_180 rfl (lv_at hl 1 rfl) ?_
                        refine lv_iload hx hb dX11_readThing_181 (lv_at hl 0 rfl) ?_
                        refine lv_iload_n hx hb dX11_readThing_183 rfl (lv_at hl 3 rfl) ?_
                        refine lv_bipush (v := I 93) hx hb dX11_readThing_184 (by decide) ?_
                        obtain ⟨_, hc_592⟩ := hO.cell h_a (by decide) (ci := 11) rfl
                        refine th_callv (va_runV (As := [.int (I (4 * a220)), .int (I dp), .int (I 93)]) (rest := []) ⟨hx, hb, hml, hown, hts⟩ (m_readMany n ih l G y b0 σ_s_583 E hO a h_a (4 * a220) (show rng (4 * a220) from ⟨by omega, by omega⟩) (by omega) (by omega) dp (show rng dp from rdp) (by omega) (by omega) 93 (show rng 93 from (show rng 93 from ⟨by decide, by decide⟩)) g_590 ef_591 Bf hsr (by omega) (by omega) (by omega) (by omega)) (cwV 3 hts gX11_readThing_X11_readMany rfl rfl rfl (by decide +kernel) ⟨(by first | (simp only [headSpec]; omega) | omega | (dsimp only; omega)), (by first | (simp only [headSpec]; omega) | omega | (dsimp only; omega))⟩) (th_PV hK hH rfl hc_592) rfl rfl hl.1 rfl (lv_room (Nat.le_of_ble_eq_true rfl)) dX11_readThing_186 ⟨(by first | (simp only [headSpec]; omega) | omega | (dsimp only; omega)), (by first | (simp only [headSpec]; omega) | omega | (dsimp only; omega))⟩) hS (fun σ_s_594 H locs hw_593 hH hS => ?_)
                        obtain ⟨hO9, hF9, hM9, hw_593⟩ := hw_593
                        replace hM := hM.tu hM9 (by decide)
                        replace hF := hF.tu hF9 (by decide)
                        have e_595 : gI σ_s_594 a 11 = a110 := (hM9.i (by decide)).trans e_584
                        replace hsr := hsr.mv hM9 (by decide) (by decide) (by decide) (by decide) (by decide)
                        replace hO := hO9
                        generalize ef_597 : aF σ_s_594 (ad E a 2) = g_596 at hw_593
                        have hw_593 : ((gI σ_s_583 a 13 ≤ gI σ_s_594 a 13 ∧ gI σ_s_594 a 13 ≤ gI σ_s_583 a 11 ∧ 0 ≤ gI σ_s_594 a 17 ∧ gI σ_s_594 a 17 ≤ gI σ_s_594 a 13) ∧ pgo (gI σ_s_594 a 19) (gI σ_s_594 a 14) (gI σ_s_583 a 13) (gI σ_s_594 a 13)) ∧ gI σ_s_583 a 22 ≤ gI σ_s_594 a 22 ∧ (¬ gI σ_s_594 a 19 = 0 ∨ rdF g_590 g_596 ((4 * a220) / 4) (gI σ_s_594 a 22)) := hw_593
                        simp only [pgo, bdo] at hw_593
                        refine lv_goto (tgt := 242) hx hb dX11_readThing_189 (by decide) ?_
                        refine lv_aload_n hx hb dX11_readThing_242 rfl (lv_at hl 1 rfl) ?_
                        refine ok.getR hO h_a (by decide) k13_2 (by decide) (fun _ _ he hv kk => th_get (ci := 11) (C := RX11) (T := TX11) (N := 66) hx hb hts inX11 hown hK hH he rfl 2 (by decide) fl3 hv dX11_readThing_243 kk) ?_
                        refine lv_iload hx hb dX11_readThing_246 (lv_at hl 0 rfl) ?_
                        refine lv_iconst (v := I 3) hx hb dX11_readThing_248 (by decide) ?_
                        refine lv_iadd hx hb dX11_readThing_249 ?_
                        refine nq_top (I_add _ _) ?_
                        refine lv_aload_n hx hb dX11_readThing_250 rfl (lv_at hl 1 rfl) ?_
                        refine ok.getI hO h_a (by decide) k13_22 (fun _ _ he hv kk => th_get (ci := 11) (C := RX11) (T := TX11) (N := 66) hx hb hts inX11 hown hK hH he rfl 22 (by decide) fl2 hv dX11_readThing_251 kk) (fun z_598 e_599 rz_598 lz_598 uz_598 => ?_)
                        refine lv_iload hx hb dX11_readThing_254 (lv_at hl 0 rfl) ?_
                        refine lv_iconst (v := I 4) hx hb dX11_readThing_256 (by decide) ?_
                        refine lv_idiv hx hb dX11_readThing_257 (by decide) ?_
                        refine th_div (n := 4) ⟨by omega, by omega⟩ (by omega) (by decide) (fun z_600 rz_600 hz_600 => ?_)
                        refine lv_isub hx hb dX11_readThing_258 ?_
                        refine th_subo (fun z_601 rz_601 hz_601 => ?_)
                        refine m_iast hx hb hK hH hS h00 hO h_a k13_2 isA1 (by decide) ef_597 ⟨by omega, by omega⟩ (by omega) (by omega) rz_601 el1 dX11_readThing_259 (fun σ_s_602 H locs hO hF9 hM9 ha9 hH hS => ?_)
                        replace hM := hM.tu hM9 (by decide)
                        replace hF := hF.tu hF9 (by decide)
                        have e_603 : gI σ_s_602 a 11 = a110 := (hM9.i (by decide)).trans e_595
                        have e_604 : gI σ_s_602 a 22 = z_598 := (hM9.i (by decide)).trans e_599
                        replace hsr := hsr.mv hM9 (by decide) (by decide) (by decide) (by decide) (by decide)
                        obtain ⟨g_605, dg_605⟩ : ∃ g9, g9 = upd g_596 (4 * a220 + 3).toNat (I z_601) := ⟨_, rfl⟩
                        rw [← dg_605] at ha9
                        have ef_606 := ha9
                        exact th_vret hx hb hr hlocks hH hS ⟨hO, hF, hM, ⟨⟨by omega, pgo.of (by omega)⟩, by omega, hw_593.2.2.elim (fun h9 => Or.inl (by omega)) (fun h9 => Or.inr (by rw [show 4 * a220 / 4 = a220 by omega] at h9; rw [show gI σ a 22 = a220 by omega, show gI σ_s_602 a 22 = gI σ_s_594 a 22 by omega, show aF σ_s_602 (ad E a 2) = g_605 from ef_606]; exact h9.node dg_605 (by omega) ⟨by omega, by omega⟩ (by omega) ((((same.rf).up1 dg_509 (by omega)).up1 dg_518 (by omega)).up1 dg_590 (by omega)) ((mY_up dg_590 (by omega) (by omega)).trans ((mY_up dg_518 (by omega) (by omega)).trans (mY_at dg_509 rky)))))⟩⟩ dX11_readThing_260
                    · replace c_520 := (I_eq (a := a140) (b := 1) ra140 (show rng 1 from ⟨by decide, by decide⟩)).mp c_520
                      refine lv_aload_n hx hb dX11_readThing_139 rfl (lv_at hl 1 rfl) ?_
                      refine ok.getR hO h_a (by decide) k13_2 (by decide) (fun _ _ he hv kk => th_get (ci := 11) (C := RX11) (T := TX11) (N := 66) hx hb hts inX11 hown hK hH he rfl 2 (by decide) fl3 hv dX11_readThing_140 kk) ?_
                      refine lv_iload hx hb dX11_readThing_143 (lv_at hl 0 rfl) ?_
                      refine lv_iconst (v := I 1) hx hb dX11_readThing_145 (by decide) ?_
                      refine m_iast hx hb hK hH hS h00 hO h_a k13_2 isA1 (by decide) ef_519 ⟨by omega, by omega⟩ (by omega) (by omega) (show rng 1 from ⟨by decide, by decide⟩) el1 dX11_readThing_146 (fun σ_s_607 H locs hO hF9 hM9 ha9 hH hS => ?_)
                      replace hM := hM.tu hM9 (by decide)
                      replace hF := hF.tu hF9 (by decide)
                      have e_608 : gI σ_s_607 a 11 = a110 := (hM9.i (by decide)).trans e_512
                      have e_609 : gI σ_s_607 a 13 = a130 := (hM9.i (by decide)).trans e_513
                      have e_610 : gI σ_s_607 a 14 = a140 := (hM9.i (by decide)).trans e_514
                      have e_611 : gI σ_s_607 a 17 = a170 := (hM9.i (by decide)).trans e_515
                      have e_612 : gI σ_s_607 a 19 = z_491 := (hM9.i (by decide)).trans e_516
                      have e_613 : gI σ_s_607 a 22 = a220 + 1 := (hM9.i (by decide)).trans e_517
                      replace hsr := hsr.mv hM9 (by decide) (by decide) (by decide) (by decide) (by decide)
                      obtain ⟨g_614, dg_614⟩ : ∃ g9, g9 = upd g_518 (4 * a220).toNat (I 1) := ⟨_, rfl⟩
                      rw [← dg_614] at ha9
                      have ef_615 := ha9
                      refine lv_aload_n hx hb dX11_readThing_147 rfl (lv_at hl 1 rfl) ?_
                      refine ok.getR hO h_a (by decide) k13_2 (by decide) (fun _ _ he hv kk => th_get (ci := 11) (C := RX11) (T := TX11) (N := 66) hx hb hts inX11 hown hK hH he rfl 2 (by decide) fl3 hv dX11_readThing_148 kk) ?_
                      refine lv_iload hx hb dX11_readThing_151 (lv_at hl 0 rfl) ?_
                      refine lv_iconst (v := I 1) hx hb dX11_readThing_153 (by decide) ?_
                      refine lv_iadd hx hb dX11_readThing_154 ?_
                      refine nq_top (I_add _ _) ?_
                      refine lv_aload_n hx hb dX11_readThing_155 rfl (lv_at hl 1 rfl) ?_
                      obtain ⟨_, hc_616⟩ := hO.cell h_a (by decide) (ci := 11) rfl
                      refine th_calli (va_runV (As := []) (rest := [.int (I (4 * a220 + 1)), .ref (ad E a 2)]) ⟨hx, hb, hml, hown, hts⟩ (m_readWord l G y b0 σ_s_607 E hO a h_a Bf hsr (by omega)) (cwV 0 hts gX11_readThing_X11_readWord rfl rfl rfl (by decide +kernel) ⟨(by first | (simp only [headSpec]; omega) | omega | (dsimp only; omega)), (by first | (simp only [headSpec]; omega) | omega | (dsimp only; omega))⟩) (th_PV hK hH rfl hc_616) rfl rfl hl.1 rfl (lv_room (Nat.le_of_ble_eq_true rfl)) dX11_readThing_156 ⟨(by first | (simp only [headSpec]; omega) | omega | (dsimp only; omega)), (by first | (simp only [headSpec]; omega) | omega | (dsimp only; omega))⟩) hS (fun z_619 σ_s_618 H locs rz_619 hw_617 hH hS => ?_)
                      obtain ⟨hO9, hF9, hM9, hw_617⟩ := hw_617
                      replace hM := hM.tu hM9 (by decide)
                      replace hF := hF.tu hF9 (by decide)
                      have e_620 : gI σ_s_618 a 11 = a110 := (hM9.i (by decide)).trans e_608
                      have e_621 : gI σ_s_618 a 22 = a220 + 1 := (hM9.i (by decide)).trans e_613
                      have e_622 : aF σ_s_618 (ad E a 2) = g_614 := (hM9.a (by decide) (by decide)).trans ef_615
                      replace hsr := hsr.mv hM9 (by decide) (by decide) (by decide) (by decide) (by decide)
                      replace hO := hO9
                      have hw_617 : (gI σ_s_607 a 13 ≤ gI σ_s_618 a 13 ∧ gI σ_s_618 a 13 ≤ gI σ_s_607 a 11 ∧ 0 ≤ gI σ_s_618 a 17 ∧ gI σ_s_618 a 17 ≤ gI σ_s_618 a 13) ∧ pgo (gI σ_s_618 a 19) (gI σ_s_618 a 14) (gI σ_s_607 a 13) (gI σ_s_618 a 13) ∧ bdo (gI σ_s_607 a 19) (gI σ_s_618 a 19) := hw_617
                      simp only [pgo, bdo] at hw_617
                      refine m_iast hx hb hK hH hS h00 hO h_a k13_2 isA1 (by decide) e_622 ⟨by omega, by omega⟩ (by omega) (by omega) rz_619 el1 dX11_readThing_159 (fun σ_s_623 H locs hO hF9 hM9 ha9 hH hS => ?_)
                      replace hM := hM.tu hM9 (by decide)
                      replace hF := hF.tu hF9 (by decide)
                      have e_624 : gI σ_s_623 a 11 = a110 := (hM9.i (by decide)).trans e_620
                      have e_625 : gI σ_s_623 a 22 = a220 + 1 := (hM9.i (by decide)).trans e_621
                      replace hsr := hsr.mv hM9 (by decide) (by decide) (by decide) (by decide) (by decide)
                      obtain ⟨g_626, dg_626⟩ : ∃ g9, g9 = upd g_614 (4 * a220 + 1).toNat (I z_619) := ⟨_, rfl⟩
                      rw [← dg_626] at ha9
                      have ef_627 := ha9
                      refine lv_goto (tgt := 242) hx hb dX11_readThing_160 (by decide) ?_
                      refine lv_aload_n hx hb dX11_readThing_242 rfl (lv_at hl 1 rfl) ?_
                      refine ok.getR hO h_a (by decide) k13_2 (by decide) (fun _ _ he hv kk => th_get (ci := 11) (C := RX11) (T := TX11) (N := 66) hx hb hts inX11 hown hK hH he rfl 2 (by decide) fl3 hv dX11_readThing_243 kk) ?_
                      refine lv_iload hx hb dX11_readThing_246 (lv_at hl 0 rfl) ?_
                      refine lv_iconst (v := I 3) hx hb dX11_readThing_248 (by decide) ?_
                      refine lv_iadd hx hb dX11_readThing_249 ?_
                      refine nq_top (I_add _ _) ?_
                      refine lv_aload_n hx hb dX11_readThing_250 rfl (lv_at hl 1 rfl) ?_
                      refine ok.getIc hO h_a (by decide) k13_22 e_625 (fun _ _ he hv kk => th_get (ci := 11) (C := RX11) (T := TX11) (N := 66) hx hb hts inX11 hown hK hH he rfl 22 (by decide) fl2 hv dX11_readThing_251 kk) ?_
                      refine lv_iload hx hb dX11_readThing_254 (lv_at hl 0 rfl) ?_
                      refine lv_iconst (v := I 4) hx hb dX11_readThing_256 (by decide) ?_
                      refine lv_idiv hx hb dX11_readThing_257 (by decide) ?_
                      refine th_div (n := 4) ⟨by omega, by omega⟩ (by omega) (by decide) (fun z_628 rz_628 hz_628 => ?_)
                      refine lv_isub hx hb dX11_readThing_258 ?_
                      refine th_subo (fun z_629 rz_629 hz_629 => ?_)
                      refine m_iast hx hb hK hH hS h00 hO h_a k13_2 isA1 (by decide) ef_627 ⟨by omega, by omega⟩ (by omega) (by omega) rz_629 el1 dX11_readThing_259 (fun σ_s_630 H locs hO hF9 hM9 ha9 hH hS => ?_)
                      replace hM := hM.tu hM9 (by decide)
                      replace hF := hF.tu hF9 (by decide)
                      have e_631 : gI σ_s_630 a 11 = a110 := (hM9.i (by decide)).trans e_624
                      have e_632 : gI σ_s_630 a 22 = a220 + 1 := (hM9.i (by decide)).trans e_625
                      replace hsr := hsr.mv hM9 (by decide) (by decide) (by decide) (by decide) (by decide)
                      obtain ⟨g_633, dg_633⟩ : ∃ g9, g9 = upd g_626 (4 * a220 + 3).toNat (I z_629) := ⟨_, rfl⟩
                      rw [← dg_633] at ha9
                      have ef_634 := ha9
                      exact th_vret hx hb hr hlocks hH hS ⟨hO, hF, hM, ⟨⟨by omega, pgo.of (by omega)⟩, by omega, by rw [show gI σ a 22 = a220 by omega, show gI σ_s_630 a 22 = a220 + 1 by omega, show aF σ_s_630 (ad E a 2) = g_633 from ef_634]; exact Or.inr ((rdF.zero (f := g_626) same.rf).node dg_633 (by omega) ⟨by omega, by omega⟩ (by omega) (((((same.rf).up1 dg_509 (by omega)).up1 dg_518 (by omega)).up1 dg_614 (by omega)).up1 dg_626 (by omega)) ((mY_up dg_626 (by omega) (by omega)).trans ((mY_up dg_614 (by omega) (by omega)).trans ((mY_up dg_518 (by omega) (by omega)).trans (mY_at dg_509 rky)))))⟩⟩ dX11_readThing_260
                  · replace c_493 := mt (I_eq (a := z_491) (b := 0) rz_491 (show rng 0 from ⟨by decide, by decide⟩)).mpr c_493
                    exact th_vret hx hb hr hlocks hH hS ⟨hO, hF, hM, ⟨⟨by omega, pgo.of (by omega)⟩, by omega, Or.inl (by omega)⟩⟩ dX11_readThing_92
                · refine lv_if_ne (tgt := 85) hx hb dX11_readThing_62 (by decide) (fun c_635 => ?_) (fun c_635 => ?_)
                  · replace c_635 := mt (I_eq (a := z_471) (b := 0) rz_471 (show rng 0 from ⟨by decide, by decide⟩)).mpr c_635
                    replace hl : lv_has ls 5 [(0, .ref a), (1, .int (I ky)), (2, .int (I dp))] := lv_sub hl [1, 2, 3] rfl
                    exact jK_490 () σ_s_464 _ _ _ ⟨hO, hF, hM, hsr, hH, hS, lv_sub hl [0, 1, 2] rfl, by first | omega | (dsimp only; omega), e_466, e_467, e_468, e_469, e_470, e_465⟩
                  · replace c_635 := (I_eq (a := z_471) (b := 0) rz_471 (show rng 0 from ⟨by decide, by decide⟩)).mp c_635
                    refine lv_aload_n hx hb dX11_readThing_65 rfl (lv_at hl 1 rfl) ?_
                    refine ok.getIc hO h_a (by decide) k13_22 e_470 (fun _ _ he hv kk => th_get (ci := 11) (C := RX11) (T := TX11) (N := 66) hx hb hts inX11 hown hK hH he rfl 22 (by decide) fl2 hv dX11_readThing_66 kk) ?_
                    refine lv_bipush (v := I 60) hx hb dX11_readThing_69 (by decide) ?_
                    refine th_join (α := Unit) (J := 80) (stk := fun x9 => []) (fun x9 σ9 H9 l9 ls9 => σ9 = σ_s_464 ∧ th_H G b0 σ9 H9 ∧ va_S (th_A b0) s.heap H9 l9 ∧ lv_has ls9 5 [(0, .ref a), (1, .int (I ky)), (2, .int (I dp))]) ?_ (fun jK_639 => ?_)
                    · intro x9 σ_K_639 H locs ls hI9
                      obtain ⟨eK_639, hH, hS, hl⟩ := hI9
                      replace eK_639 := eK_639.symm
                      subst eK_639
                      have hl : lv_has ls 5 [(0, .ref a), (1, .int (I ky)), (2, .int (I dp))] := hl
                      refine lv_aload_n hx hb dX11_readThing_80 rfl (lv_at hl 0 rfl) ?_
                      refine lv_iconst (v := I 2) hx hb dX11_readThing_81 (by decide) ?_
                      obtain ⟨_, hc_640⟩ := hO.cell h_a (by decide) (ci := 11) rfl
                      refine th_callv (va_runV (As := [.int (I 2)]) (rest := []) ⟨hx, hb, hml, hown, hts⟩ (m_wrong l G y b0 σ_s_464 E hO a h_a 2 (show rng 2 from (show rng 2 from ⟨by decide, by decide⟩)) (by omega) (by omega)) (cwV 1 hts gX11_readThing_X11_wrong rfl rfl rfl (by decide +kernel) ⟨(by first | (simp only [headSpec]; omega) | omega | (dsimp only; omega)), (by first | (simp only [headSpec]; omega) | omega | (dsimp only; omega))⟩) (th_PV hK hH rfl hc_640) rfl rfl hl.1 rfl (lv_room (Nat.le_of_ble_eq_true rfl)) dX11_readThing_82 ⟨(by first | (simp only [headSpec]; omega) | omega | (dsimp only; omega)), (by first | (simp only [headSpec]; omega) | omega | (dsimp only; omega))⟩) hS (fun σ_s_642 H locs hw_641 hH hS => ?_)
                      obtain ⟨hO9, hF9, hM9, hw_641⟩ := hw_641
                      replace hM := hM.tu hM9 (by decide)
                      replace hF := hF.tu hF9 (by decide)
                      have e_643 : aF σ_s_642 (ad E a 2) = f2 := (hM9.a (by decide) (by decide)).trans e_465
                      have e_644 : gI σ_s_642 a 11 = a110 := (hM9.i (by decide)).trans e_466
                      have e_645 : gI σ_s_642 a 13 = a130 := (hM9.i (by decide)).trans e_467
                      have e_646 : gI σ_s_642 a 14 = a140 := (hM9.i (by decide)).trans e_468
                      have e_647 : gI σ_s_642 a 17 = a170 := (hM9.i (by decide)).trans e_469
                      have e_648 : gI σ_s_642 a 22 = a220 := (hM9.i (by decide)).trans e_470
                      replace hsr := hsr.mv hM9 (by decide) (by decide) (by decide) (by decide) (by decide)
                      replace hO := hO9
                      have hw_641 : ¬ gI σ_s_642 a 19 = 0 ∧ (gI σ_s_464 a 19 = 0 ∨ gI σ_s_642 a 19 = gI σ_s_464 a 19) := hw_641
                      exact jK_490 () σ_s_642 _ _ _ ⟨hO, hF, hM, hsr, hH, hS, lv_sub hl [0, 1, 2] rfl, by first | omega | (dsimp only; omega), e_644, e_645, e_646, e_647, e_648, e_643⟩
                    · refine lv_icmp_eq (tgt := 80) hx hb dX11_readThing_71 (by decide) (fun c_649 => ?_) (fun c_649 => ?_)
                      · replace c_649 := (I_eq (a := a220) (b := 60) ra220 (show rng 60 from ⟨by decide, by decide⟩)).mp c_649
                        replace hl : lv_has ls 5 [(0, .ref a), (1, .int (I ky)), (2, .int (I dp))] := lv_sub hl [1, 2, 3] rfl
                        exact jK_639 () σ_s_464 _ _ _ ⟨rfl, hH, hS, lv_sub hl [0, 1, 2] rfl⟩
                      · replace c_649 := mt (I_eq (a := a220) (b := 60) ra220 (show rng 60 from ⟨by decide, by decide⟩)).mpr c_649
                        refine lv_iload_n hx hb dX11_readThing_74 rfl (lv_at hl 3 rfl) ?_
                        refine lv_bipush (v := I 7) hx hb dX11_readThing_75 (by decide) ?_
                        refine lv_icmp_le (tgt := 85) hx hb dX11_readThing_77 (by decide) (fun c_650 => ?_) (fun c_650 => ?_)
                        · replace c_650 := (I_le (a := dp) (b := 7) rdp (show rng 7 from ⟨by decide, by decide⟩)).mp c_650
                          replace hl : lv_has ls 5 [(0, .ref a), (1, .int (I ky)), (2, .int (I dp))] := lv_sub hl [1, 2, 3] rfl
                          exact jK_490 () σ_s_464 _ _ _ ⟨hO, hF, hM, hsr, hH, hS, lv_sub hl [0, 1, 2] rfl, by first | omega | (dsimp only; omega), e_466, e_467, e_468, e_469, e_470, e_465⟩
                        · replace c_650 := mt (I_le (a := dp) (b := 7) rdp (show rng 7 from ⟨by decide, by decide⟩)).mpr c_650
                          replace hl : lv_has ls 5 [(0, .ref a), (1, .int (I ky)), (2, .int (I dp))] := lv_sub hl [1, 2, 3] rfl
                          exact jK_639 () σ_s_464 _ _ _ ⟨rfl, hH, hS, lv_sub hl [0, 1, 2] rfl⟩
              · replace c_450 := mt (I_eq (a := z_449) (b := 0) rz_449 (show rng 0 from ⟨by decide, by decide⟩)).mpr c_450
                replace hw_447 := (hw_447.resolve_left c_450).2
                exact jK_236 () σ _ _ _ ⟨rfl, hH, hS, lv_sub hl [0, 1, 2] rfl⟩
