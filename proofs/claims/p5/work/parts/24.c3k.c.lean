set_option maxHeartbeats 1000000 in
set_option maxRecDepth 100000 in
theorem m_readKey (l : Launch) (G : va_G) (y : Nat → ClassId) (b0 : Nat) (σ : th_M) (E : th_E) (hO : ok y E σ) (a : Nat) (h_a : kd E a = 13) (k : Int) (rk : rng k) (l_k : 0 ≤ k) (u_k : k ≤ 236) (f2 : Nat → Int32) (ef2 : aF σ (ad E a 2) = f2) (Bf : Int → Int) (hsr : sr E σ a Bf) (hy0 : 0 ≤ gI σ a 17 ∧ gI σ a 17 ≤ gI σ a 13 ∧ gI σ a 13 ≤ gI σ a 11 ∧ gI σ a 11 ≤ 400) (hy1 : k % 4 = 0) (hy2 : k / 4 + 1 ≤ gI σ a 22) (hy3 : wf f2 (k / 4 + 1) (gI σ a 22)) (hy4 : gI σ a 19 = 0) : Met l yX11_readKey wsX11_readKey ({ frames := 4, cells := 0, slots := 0, locals := 115 }) (th_P G y b0 σ [.ref a, .int (I k)]) (th_Qi G b0 (fun r σ1 => ok y E σ1 ∧ fr [13] E σ σ1 ∧ fm [13, 14, 15, 16, 17, 18, 19, 20] E σ σ1 a ∧ (((gI σ a 13 ≤ gI σ1 a 13 ∧ gI σ1 a 13 ≤ gI σ a 11 ∧ 0 ≤ gI σ1 a 17 ∧ gI σ1 a 17 ≤ gI σ1 a 13) ∧ pgo (gI σ1 a 19) (gI σ1 a 14) (gI σ a 13) (gI σ1 a 13)) ∧ bdo (gI σ a 19) (gI σ1 a 19) ∧ (¬ gI σ1 a 19 = 0 ∨ nok f2 (k / 4 + 1) (gI σ a 22) r)))) 0 0 (th_A b0) := by
  refine Met.ofW (cc := cX11_readKey) (maxL := 4) (ret := (some .int)) (by decide) rfl ?_
  intro p e s m args below meth c s₁ B hml hv
  obtain ⟨rfl, hH, hK⟩ := hv
  have hx := B.exec
  have hb := B.bytes
  have hr := B.returns
  have hts := atoms_spec (ws := wsX11_readKey) B.pre
  have hown : s.vm.findClass RX11 = some m.cls := findClass_of_methodNamed B.named
  have hlocks := B.notSynchronized
  have h00 : b0 ≤ s.heap.size := hH.1
  have hS : va_S (th_A b0) s.heap s.heap [] := va_S.rf
  have hF : fr [13] E σ σ := fr.rf
  have hM : fm [13, 14, 15, 16, 17, 18, 19, 20] E σ σ a := fm.rf
  have inX11 : ∀ w ∈ wsX110, w ∈ wsX11_readKey := by decide +kernel
  have fl0 := hts (.fieldLink RX11 188 "NestQueryModel" "dataMany" "I") (by decide +kernel)
  have fl1 := hts (.fieldLink RX11 162 "NestQueryModel" "bad" "I") (by decide +kernel)
  have fl2 := hts (.fieldLink RX11 13 "NestQueryModel" "data" "[I") (by decide +kernel)
  have hl := lv_entry ([.ref a, .int (I k)]) (n := 4) (Nat.le_of_ble_eq_true rfl)
  rw [lg_entry_eq]
  generalize (lg_sl ([.ref a, .int (I k)]) ++ List.replicate (4 - (lg_sl ([.ref a, .int (I k)])).length) Slot.unset).toArray = ls at hl ⊢
  have hl : lv_has ls 4 [(0, .ref a), (1, .int (I k))] := hl
  obtain ⟨a110, ea110, ra110, la110, ua110⟩ := hO.gi h_a (by decide) k13_11
  obtain ⟨a130, ea130, ra130, la130, ua130⟩ := hO.gi h_a (by decide) k13_13
  obtain ⟨a140, ea140, ra140, la140, ua140⟩ := hO.gi h_a (by decide) k13_14
  obtain ⟨a170, ea170, ra170, la170, ua170⟩ := hO.gi h_a (by decide) k13_17
  obtain ⟨a190, ea190, ra190, la190, ua190⟩ := hO.gi h_a (by decide) k13_19
  obtain ⟨a220, ea220, ra220, la220, ua220⟩ := hO.gi h_a (by decide) k13_22
  refine lv_aload_n hx hb dX11_readKey_0 rfl (lv_at hl 0 rfl) ?_
  obtain ⟨_, hc_1⟩ := hO.cell h_a (by decide) (ci := 11) rfl
  refine th_calli (va_runV (As := []) (rest := []) ⟨hx, hb, hml, hown, hts⟩ (m_wordNow l G y b0 σ E hO a h_a) (cwV 0 hts gX11_readKey_X11_wordNow rfl rfl rfl (by decide +kernel) ⟨Nat.le_of_ble_eq_true rfl, Nat.le_of_ble_eq_true rfl⟩) (th_PV hK hH rfl hc_1) rfl rfl hl.1 rfl (lv_room (Nat.le_of_ble_eq_true rfl)) dX11_readKey_1 ⟨Nat.le_of_ble_eq_true rfl, Nat.le_of_ble_eq_true rfl⟩) hS (fun z_4 σ_s_3 H locs rz_4 hw_2 hH hS => ?_)
  obtain ⟨hO9, hF9, hM9, hw_2⟩ := hw_2
  replace hM := hM.tu hM9 (by decide)
  replace hF := hF.tu hF9 (by decide)
  have e_5 : aF σ_s_3 (ad E a 2) = f2 := (hM9.a (by decide) (by decide)).trans ef2
  have e_6 : gI σ_s_3 a 11 = a110 := (hM9.i (by decide)).trans ea110
  have e_7 : gI σ_s_3 a 13 = a130 := (hM9.i (by decide)).trans ea130
  have e_8 : gI σ_s_3 a 14 = a140 := (hM9.i (by decide)).trans ea140
  have e_9 : gI σ_s_3 a 17 = a170 := (hM9.i (by decide)).trans ea170
  have e_10 : gI σ_s_3 a 22 = a220 := (hM9.i (by decide)).trans ea220
  replace hsr := hsr.mv hM9 (by decide) (by decide) (by decide) (by decide) (by decide)
  replace hO := hO9
  have hw_2 : bdo (gI σ a 19) (gI σ_s_3 a 19) := hw_2
  simp only [pgo, bdo] at hw_2
  refine lv_istore_n (lv' := [(2, .int (I z_4)), (0, .ref a), (1, .int (I k))]) hx hb dX11_readKey_4 rfl hl (by decide) rfl (fun ls hl => ?_)
  refine lv_iload_n hx hb dX11_readKey_5 rfl (lv_at hl 2 rfl) ?_
  refine lv_iconst (v := I 4) hx hb dX11_readKey_6 (by decide) ?_
  refine lv_idiv hx hb dX11_readKey_7 (by decide) ?_
  refine th_div (n := 4) rk (by omega) (by decide) (fun z_11 rz_11 hz_11 => ?_)
  refine lv_iconst (v := I 1) hx hb dX11_readKey_8 (by decide) ?_
  refine lv_iadd hx hb dX11_readKey_9 ?_
  refine th_addo (fun z_12 rz_12 hz_12 => ?_)
  refine lv_istore_n (lv' := [(3, .int (I z_12)), (2, .int (I z_4)), (0, .ref a), (1, .int (I k))]) hx hb dX11_readKey_10 rfl hl (by decide) rfl (fun ls hl => ?_)
  replace hl : lv_has ls 4 [(3, .int (I z_12)), (2, .int (I z_4)), (0, .ref a)] := lv_sub hl [0, 1, 2] rfl
  refine th_loop (α := Int) (pc := 11) (fun x9 => (gI σ a 22 - x9).toNat) (fun x9 σ9 H9 l9 ls9 => ok y E σ9 ∧ fr [13] E σ σ9 ∧ fm [13, 14, 15, 16, 17, 18, 19, 20] E σ σ9 a ∧ sr E σ9 a Bf ∧ th_H G b0 σ9 H9 ∧ va_S (th_A b0) s.heap H9 l9 ∧ lv_has ls9 4 [(0, .ref a), (2, .int (I z_4)), (3, .int (I x9))] ∧ rng x9 ∧ (k / 4 + 1 ≤ x9) ∧ (x9 ≤ gI σ a 22) ∧ (nok f2 (k / 4 + 1) x9 z_4 ∨ ¬ gI σ9 a 19 = 0) ∧ (0 ≤ x9) ∧ (x9 ≤ 60) ∧ (gI σ9 a 11 = a110) ∧ (gI σ9 a 13 = a130) ∧ (gI σ9 a 14 = a140) ∧ (gI σ9 a 17 = a170) ∧ (gI σ9 a 22 = a220) ∧ (aF σ9 (ad E a 2) = f2)) ?_ (z_12) σ_s_3 _ _ _ ⟨hO, hF, hM, hsr, hH, hS, lv_sub hl [2, 1, 0] rfl, rz_12, by first | omega | (dsimp only; omega), by first | omega | (dsimp only; omega), (Or.inl (by rw [show z_12 = k / 4 + 1 by omega]; exact nok.zero)), by first | omega | (dsimp only; omega), by first | omega | (dsimp only; omega), e_6, e_7, e_8, e_9, e_10, e_5⟩
  intro x9 σ_J_34 H locs ls hI9 ihJ_34
  obtain ⟨v3q33, ex9⟩ : ∃ z, z = x9 := ⟨_, rfl⟩
  subst ex9
  obtain ⟨hO, hF, hM, hsr, hH, hS, hl, rv3q33, J_34_0, J_34_1, J_34_2, J_34_3, J_34_4, J_34_5, J_34_6, J_34_7, J_34_8, J_34_9, J_34_10⟩ := hI9
  have hl : lv_has ls 4 [(0, .ref a), (2, .int (I z_4)), (3, .int (I v3q33))] := hl
  have rv3q33 : rng v3q33 := rv3q33
  have J_34_0 : k / 4 + 1 ≤ v3q33 := J_34_0
  have J_34_1 : v3q33 ≤ gI σ a 22 := J_34_1
  have J_34_2 : nok f2 (k / 4 + 1) v3q33 z_4 ∨ ¬ gI σ_J_34 a 19 = 0 := J_34_2
  have J_34_3 : 0 ≤ v3q33 := J_34_3
  have J_34_4 : v3q33 ≤ 60 := J_34_4
  have J_34_5 : gI σ_J_34 a 11 = a110 := J_34_5
  have J_34_6 : gI σ_J_34 a 13 = a130 := J_34_6
  have J_34_7 : gI σ_J_34 a 14 = a140 := J_34_7
  have J_34_8 : gI σ_J_34 a 17 = a170 := J_34_8
  have J_34_9 : gI σ_J_34 a 22 = a220 := J_34_9
  have J_34_10 : aF σ_J_34 (ad E a 2) = f2 := J_34_10
  refine lv_iload_n hx hb dX11_readKey_11 rfl (lv_at hl 2 rfl) ?_
  refine lv_aload_n hx hb dX11_readKey_12 rfl (lv_at hl 0 rfl) ?_
  refine ok.getIc hO h_a (by decide) k13_22 J_34_9 (fun _ _ he hv kk => th_get (ci := 11) (C := RX11) (T := TX11) (N := 66) hx hb hts inX11 hown hK hH he rfl 22 (by decide) fl0 hv dX11_readKey_13 kk) ?_
  refine lv_icmp_ge (tgt := 61) hx hb dX11_readKey_16 (by decide) (fun c_35 => ?_) (fun c_35 => ?_)
  · replace c_35 := (I_le (a := a220) (b := v3q33) ra220 rv3q33).mp c_35
    have hE9 : ¬ (gI σ_J_34 a 19) = 0 ∨ nok f2 (k / 4 + 1) (gI σ a 22) z_4 := by
      first
      | exact Or.inl (by omega)
      | exact (J_34_2).elim (fun h9 => Or.inr (by rw [show gI σ a 22 = v3q33 by omega]; exact h9)) (fun h9 => Or.inl (by omega))
    refine lv_aload_n hx hb dX11_readKey_61 rfl (lv_at hl 0 rfl) ?_
    obtain ⟨_, hc_36⟩ := hO.cell h_a (by decide) (ci := 11) rfl
    refine th_callv (va_runV (As := []) (rest := []) ⟨hx, hb, hml, hown, hts⟩ (m_pass l G y b0 σ_J_34 E hO a h_a Bf hsr (by omega)) (cwV 0 hts gX11_readKey_X11_pass rfl rfl rfl (by decide +kernel) ⟨Nat.le_of_ble_eq_true rfl, Nat.le_of_ble_eq_true rfl⟩) (th_PV hK hH rfl hc_36) rfl rfl hl.1 rfl (lv_room (Nat.le_of_ble_eq_true rfl)) dX11_readKey_62 ⟨Nat.le_of_ble_eq_true rfl, Nat.le_of_ble_eq_true rfl⟩) hS (fun σ_s_38 H locs hw_37 hH hS => ?_)
    obtain ⟨hO9, hF9, hM9, hw_37⟩ := hw_37
    replace hM := hM.tu hM9 (by decide)
    replace hF := hF.tu hF9 (by decide)
    have e_39 : gI σ_s_38 a 11 = a110 := (hM9.i (by decide)).trans J_34_5
    have e_40 : gI σ_s_38 a 22 = a220 := (hM9.i (by decide)).trans J_34_9
    have e_41 : aF σ_s_38 (ad E a 2) = f2 := (hM9.a (by decide) (by decide)).trans J_34_10
    replace hsr := hsr.mv hM9 (by decide) (by decide) (by decide) (by decide) (by decide)
    replace hO := hO9
    have hw_37 : (gI σ_J_34 a 13 ≤ gI σ_s_38 a 13 ∧ gI σ_s_38 a 13 ≤ gI σ_J_34 a 11 ∧ 0 ≤ gI σ_s_38 a 17 ∧ gI σ_s_38 a 17 ≤ gI σ_s_38 a 13) ∧ pgo (gI σ_s_38 a 19) (gI σ_s_38 a 14) (gI σ_J_34 a 13) (gI σ_s_38 a 13) ∧ gI σ_s_38 a 19 = gI σ_J_34 a 19 := hw_37
    simp only [pgo, bdo] at hw_37
    refine lv_aload_n hx hb dX11_readKey_65 rfl (lv_at hl 0 rfl) ?_
    refine lv_bipush (v := I 58) hx hb dX11_readKey_66 (by decide) ?_
    obtain ⟨_, hc_42⟩ := hO.cell h_a (by decide) (ci := 11) rfl
    refine th_callv (va_runV (As := [.int (I 58)]) (rest := []) ⟨hx, hb, hml, hown, hts⟩ (m_need l G y b0 σ_s_38 E hO a h_a 58 (show rng 58 from (show rng 58 from ⟨by decide, by decide⟩)) Bf hsr (by omega)) (cwV 1 hts gX11_readKey_X11_need rfl rfl rfl (by decide +kernel) ⟨Nat.le_of_ble_eq_true rfl, Nat.le_of_ble_eq_true rfl⟩) (th_PV hK hH rfl hc_42) rfl rfl hl.1 rfl (lv_room (Nat.le_of_ble_eq_true rfl)) dX11_readKey_68 ⟨Nat.le_of_ble_eq_true rfl, Nat.le_of_ble_eq_true rfl⟩) hS (fun σ_s_44 H locs hw_43 hH hS => ?_)
    obtain ⟨hO9, hF9, hM9, hw_43⟩ := hw_43
    replace hM := hM.tu hM9 (by decide)
    replace hF := hF.tu hF9 (by decide)
    have e_45 : gI σ_s_44 a 11 = a110 := (hM9.i (by decide)).trans e_39
    have e_46 : gI σ_s_44 a 22 = a220 := (hM9.i (by decide)).trans e_40
    have e_47 : aF σ_s_44 (ad E a 2) = f2 := (hM9.a (by decide) (by decide)).trans e_41
    replace hsr := hsr.mv hM9 (by decide) (by decide) (by decide) (by decide) (by decide)
    replace hO := hO9
    have hw_43 : (gI σ_s_38 a 13 ≤ gI σ_s_44 a 13 ∧ gI σ_s_44 a 13 ≤ gI σ_s_38 a 11 ∧ 0 ≤ gI σ_s_44 a 17 ∧ gI σ_s_44 a 17 ≤ gI σ_s_44 a 13) ∧ pgo (gI σ_s_44 a 19) (gI σ_s_44 a 14) (gI σ_s_38 a 13) (gI σ_s_44 a 13) ∧ bdo (gI σ_s_38 a 19) (gI σ_s_44 a 19) := hw_43
    simp only [pgo, bdo] at hw_43
    refine lv_iload_n hx hb dX11_readKey_71 rfl (lv_at hl 1 rfl) ?_
    exact th_iret hx hb hr hlocks hH hS (z := z_4) rz_4 ⟨hO, hF, hM, ⟨⟨by omega, pgo.of (by omega)⟩, bdo.of (by omega), hE9.elim (fun h9 => Or.inl (by omega)) Or.inr⟩⟩ dX11_readKey_72
  · replace c_35 := mt (I_le (a := a220) (b := v3q33) ra220 rv3q33).mpr c_35
    refine lv_aload_n hx hb dX11_readKey_19 rfl (lv_at hl 0 rfl) ?_
    refine ok.getI hO h_a (by decide) k13_19 (fun _ _ he hv kk => th_get (ci := 11) (C := RX11) (T := TX11) (N := 66) hx hb hts inX11 hown hK hH he rfl 19 (by decide) fl1 hv dX11_readKey_20 kk) (fun z_48 e_49 rz_48 lz_48 uz_48 => ?_)
    refine lv_if_ne (tgt := 61) hx hb dX11_readKey_23 (by decide) (fun c_50 => ?_) (fun c_50 => ?_)
    · replace c_50 := mt (I_eq (a := z_48) (b := 0) rz_48 (show rng 0 from ⟨by decide, by decide⟩)).mpr c_50
      have hE9 : ¬ (gI σ_J_34 a 19) = 0 ∨ nok f2 (k / 4 + 1) (gI σ a 22) z_4 := by
        first
        | exact Or.inl (by omega)
        | exact (J_34_2).elim (fun h9 => Or.inr (by rw [show gI σ a 22 = v3q33 by omega]; exact h9)) (fun h9 => Or.inl (by omega))
      refine lv_aload_n hx hb dX11_readKey_61 rfl (lv_at hl 0 rfl) ?_
      obtain ⟨_, hc_51⟩ := hO.cell h_a (by decide) (ci := 11) rfl
      refine th_callv (va_runV (As := []) (rest := []) ⟨hx, hb, hml, hown, hts⟩ (m_pass l G y b0 σ_J_34 E hO a h_a Bf hsr (by omega)) (cwV 0 hts gX11_readKey_X11_pass rfl rfl rfl (by decide +kernel) ⟨Nat.le_of_ble_eq_true rfl, Nat.le_of_ble_eq_true rfl⟩) (th_PV hK hH rfl hc_51) rfl rfl hl.1 rfl (lv_room (Nat.le_of_ble_eq_true rfl)) dX11_readKey_62 ⟨Nat.le_of_ble_eq_true rfl, Nat.le_of_ble_eq_true rfl⟩) hS (fun σ_s_53 H locs hw_52 hH hS => ?_)
      obtain ⟨hO9, hF9, hM9, hw_52⟩ := hw_52
      replace hM := hM.tu hM9 (by decide)
      replace hF := hF.tu hF9 (by decide)
      have e_54 : gI σ_s_53 a 11 = a110 := (hM9.i (by decide)).trans J_34_5
      have e_55 : gI σ_s_53 a 22 = a220 := (hM9.i (by decide)).trans J_34_9
      have e_56 : aF σ_s_53 (ad E a 2) = f2 := (hM9.a (by decide) (by decide)).trans J_34_10
      have e_57 : gI σ_s_53 a 19 = z_48 := (hM9.i (by decide)).trans e_49
      replace hsr := hsr.mv hM9 (by decide) (by decide) (by decide) (by decide) (by decide)
      replace hO := hO9
      have hw_52 : (gI σ_J_34 a 13 ≤ gI σ_s_53 a 13 ∧ gI σ_s_53 a 13 ≤ gI σ_J_34 a 11 ∧ 0 ≤ gI σ_s_53 a 17 ∧ gI σ_s_53 a 17 ≤ gI σ_s_53 a 13) ∧ pgo (gI σ_s_53 a 19) (gI σ_s_53 a 14) (gI σ_J_34 a 13) (gI σ_s_53 a 13) ∧ gI σ_s_53 a 19 = gI σ_J_34 a 19 := hw_52
      simp only [pgo, bdo] at hw_52
      refine lv_aload_n hx hb dX11_readKey_65 rfl (lv_at hl 0 rfl) ?_
      refine lv_bipush (v := I 58) hx hb dX11_readKey_66 (by decide) ?_
      obtain ⟨_, hc_58⟩ := hO.cell h_a (by decide) (ci := 11) rfl
      refine th_callv (va_runV (As := [.int (I 58)]) (rest := []) ⟨hx, hb, hml, hown, hts⟩ (m_need l G y b0 σ_s_53 E hO a h_a 58 (show rng 58 from (show rng 58 from ⟨by decide, by decide⟩)) Bf hsr (by omega)) (cwV 1 hts gX11_readKey_X11_need rfl rfl rfl (by decide +kernel) ⟨Nat.le_of_ble_eq_true rfl, Nat.le_of_ble_eq_true rfl⟩) (th_PV hK hH rfl hc_58) rfl rfl hl.1 rfl (lv_room (Nat.le_of_ble_eq_true rfl)) dX11_readKey_68 ⟨Nat.le_of_ble_eq_true rfl, Nat.le_of_ble_eq_true rfl⟩) hS (fun σ_s_60 H locs hw_59 hH hS => ?_)
      obtain ⟨hO9, hF9, hM9, hw_59⟩ := hw_59
      replace hM := hM.tu hM9 (by decide)
      replace hF := hF.tu hF9 (by decide)
      have e_61 : gI σ_s_60 a 11 = a110 := (hM9.i (by decide)).trans e_54
      have e_62 : gI σ_s_60 a 22 = a220 := (hM9.i (by decide)).trans e_55
      have e_63 : aF σ_s_60 (ad E a 2) = f2 := (hM9.a (by decide) (by decide)).trans e_56
      replace hsr := hsr.mv hM9 (by decide) (by decide) (by decide) (by decide) (by decide)
      replace hO := hO9
      have hw_59 : (gI σ_s_53 a 13 ≤ gI σ_s_60 a 13 ∧ gI σ_s_60 a 13 ≤ gI σ_s_53 a 11 ∧ 0 ≤ gI σ_s_60 a 17 ∧ gI σ_s_60 a 17 ≤ gI σ_s_60 a 13) ∧ pgo (gI σ_s_60 a 19) (gI σ_s_60 a 14) (gI σ_s_53 a 13) (gI σ_s_60 a 13) ∧ bdo (gI σ_s_53 a 19) (gI σ_s_60 a 19) := hw_59
      simp only [pgo, bdo] at hw_59
      refine lv_iload_n hx hb dX11_readKey_71 rfl (lv_at hl 1 rfl) ?_
      exact th_iret hx hb hr hlocks hH hS (z := z_4) rz_4 ⟨hO, hF, hM, ⟨⟨by omega, pgo.of (by omega)⟩, bdo.of (by omega), hE9.elim (fun h9 => Or.inl (by omega)) Or.inr⟩⟩ dX11_readKey_72
    · replace c_50 := (I_eq (a := z_48) (b := 0) rz_48 (show rng 0 from ⟨by decide, by decide⟩)).mp c_50
      have hk9 := hy3 v3q33 (by omega) (by omega)
      have hn9 := (J_34_2).resolve_right (by omega)
      refine lv_aload_n hx hb dX11_readKey_26 rfl (lv_at hl 0 rfl) ?_
      refine ok.getR hO h_a (by decide) k13_2 (by decide) (fun _ _ he hv kk => th_get (ci := 11) (C := RX11) (T := TX11) (N := 66) hx hb hts inX11 hown hK hH he rfl 2 (by decide) fl2 hv dX11_readKey_27 kk) ?_
      refine lv_iconst (v := I 4) hx hb dX11_readKey_30 (by decide) ?_
      refine lv_iload_n hx hb dX11_readKey_31 rfl (lv_at hl 2 rfl) ?_
      refine lv_imul hx hb dX11_readKey_32 ?_
      refine nq_top (I_mul _ _) ?_
      refine lv_iconst (v := I 2) hx hb dX11_readKey_33 (by decide) ?_
      refine lv_iadd hx hb dX11_readKey_34 ?_
      refine nq_top (I_add _ _) ?_
      refine m_iald hx hb hK hH hO h_a k13_2 isA1 J_34_10 ⟨by omega, by omega⟩ (by omega) (by omega) dX11_readKey_35 (fun z_64 ez_64 rz_64 elx9 => ?_)
      refine lv_iload_n hx hb dX11_readKey_36 rfl (lv_at hl 1 rfl) ?_
      refine lv_icmp_ne (tgt := 45) hx hb dX11_readKey_37 (by decide) (fun c_65 => ?_) (fun c_65 => ?_)
      · replace c_65 := mt (I_eq (a := z_64) (b := z_4) rz_64 rz_4).mpr c_65
        refine lv_iload_n hx hb dX11_readKey_45 rfl (lv_at hl 2 rfl) ?_
        refine lv_aload_n hx hb dX11_readKey_46 rfl (lv_at hl 0 rfl) ?_
        refine ok.getR hO h_a (by decide) k13_2 (by decide) (fun _ _ he hv kk => th_get (ci := 11) (C := RX11) (T := TX11) (N := 66) hx hb hts inX11 hown hK hH he rfl 2 (by decide) fl2 hv dX11_readKey_47 kk) ?_
        refine lv_iconst (v := I 4) hx hb dX11_readKey_50 (by decide) ?_
        refine lv_iload_n hx hb dX11_readKey_51 rfl (lv_at hl 2 rfl) ?_
        refine lv_imul hx hb dX11_readKey_52 ?_
        refine nq_top (I_mul _ _) ?_
        refine lv_iconst (v := I 3) hx hb dX11_readKey_53 (by decide) ?_
        refine lv_iadd hx hb dX11_readKey_54 ?_
        refine nq_top (I_add _ _) ?_
        refine m_iald hx hb hK hH hO h_a k13_2 isA1 J_34_10 ⟨by omega, by omega⟩ (by omega) (by omega) dX11_readKey_55 (fun z_66 ez_66 rz_66 elx9 => ?_)
        have hS9 : mS f2 v3q33 = z_66 := ez_66
        refine lv_iadd hx hb dX11_readKey_56 ?_
        refine th_addo (fun z_67 rz_67 hz_67 => ?_)
        refine lv_istore_n (lv' := [(3, .int (I z_67)), (0, .ref a), (2, .int (I z_4))]) hx hb dX11_readKey_57 rfl hl (by decide) rfl (fun ls hl => ?_)
        refine lv_goto (tgt := 11) hx hb dX11_readKey_58 (by decide) ?_
        exact ihJ_34 (z_67) σ_J_34 _ _ _ (by first | omega | (dsimp only; omega)) ⟨hO, hF, hM, hsr, hH, hS, lv_sub hl [1, 2, 0] rfl, rz_67, by first | omega | (dsimp only; omega), by first | omega | (dsimp only; omega), (by first | exact Or.inr (by omega) | exact Or.inl (by rw [show z_67 = v3q33 + mS f2 v3q33 by omega]; exact (nok.step hn9 hk9.1 (by unfold mY; omega)))), by first | omega | (dsimp only; omega), by first | omega | (dsimp only; omega), J_34_5, J_34_6, J_34_7, J_34_8, J_34_9, J_34_10⟩
      · replace c_65 := (I_eq (a := z_64) (b := z_4) rz_64 rz_4).mp c_65
        refine lv_aload_n hx hb dX11_readKey_40 rfl (lv_at hl 0 rfl) ?_
        refine lv_iconst (v := I 3) hx hb dX11_readKey_41 (by decide) ?_
        obtain ⟨_, hc_68⟩ := hO.cell h_a (by decide) (ci := 11) rfl
        refine th_callv (va_runV (As := [.int (I 3)]) (rest := []) ⟨hx, hb, hml, hown, hts⟩ (m_wrong l G y b0 σ_J_34 E hO a h_a 3 (show rng 3 from (show rng 3 from ⟨by decide, by decide⟩)) (by omega) (by omega)) (cwV 1 hts gX11_readKey_X11_wrong rfl rfl rfl (by decide +kernel) ⟨Nat.le_of_ble_eq_true rfl, Nat.le_of_ble_eq_true rfl⟩) (th_PV hK hH rfl hc_68) rfl rfl hl.1 rfl (lv_room (Nat.le_of_ble_eq_true rfl)) dX11_readKey_42 ⟨Nat.le_of_ble_eq_true rfl, Nat.le_of_ble_eq_true rfl⟩) hS (fun σ_s_70 H locs hw_69 hH hS => ?_)
        obtain ⟨hO9, hF9, hM9, hw_69⟩ := hw_69
        replace hM := hM.tu hM9 (by decide)
        replace hF := hF.tu hF9 (by decide)
        have e_71 : gI σ_s_70 a 11 = a110 := (hM9.i (by decide)).trans J_34_5
        have e_72 : gI σ_s_70 a 13 = a130 := (hM9.i (by decide)).trans J_34_6
        have e_73 : gI σ_s_70 a 14 = a140 := (hM9.i (by decide)).trans J_34_7
        have e_74 : gI σ_s_70 a 17 = a170 := (hM9.i (by decide)).trans J_34_8
        have e_75 : gI σ_s_70 a 22 = a220 := (hM9.i (by decide)).trans J_34_9
        have e_76 : aF σ_s_70 (ad E a 2) = f2 := (hM9.a (by decide) (by decide)).trans J_34_10
        replace hsr := hsr.mv hM9 (by decide) (by decide) (by decide) (by decide) (by decide)
        replace hO := hO9
        have hw_69 : ¬ gI σ_s_70 a 19 = 0 ∧ (gI σ_J_34 a 19 = 0 ∨ gI σ_s_70 a 19 = gI σ_J_34 a 19) := hw_69
        refine lv_iload_n hx hb dX11_readKey_45 rfl (lv_at hl 2 rfl) ?_
        refine lv_aload_n hx hb dX11_readKey_46 rfl (lv_at hl 0 rfl) ?_
        refine ok.getR hO h_a (by decide) k13_2 (by decide) (fun _ _ he hv kk => th_get (ci := 11) (C := RX11) (T := TX11) (N := 66) hx hb hts inX11 hown hK hH he rfl 2 (by decide) fl2 hv dX11_readKey_47 kk) ?_
        refine lv_iconst (v := I 4) hx hb dX11_readKey_50 (by decide) ?_
        refine lv_iload_n hx hb dX11_readKey_51 rfl (lv_at hl 2 rfl) ?_
        refine lv_imul hx hb dX11_readKey_52 ?_
        refine nq_top (I_mul _ _) ?_
        refine lv_iconst (v := I 3) hx hb dX11_readKey_53 (by decide) ?_
        refine lv_iadd hx hb dX11_readKey_54 ?_
        refine nq_top (I_add _ _) ?_
        refine m_iald hx hb hK hH hO h_a k13_2 isA1 e_76 ⟨by omega, by omega⟩ (by omega) (by omega) dX11_readKey_55 (fun z_77 ez_77 rz_77 elx9 => ?_)
        have hS9 : mS f2 v3q33 = z_77 := ez_77
        refine lv_iadd hx hb dX11_readKey_56 ?_
        refine th_addo (fun z_78 rz_78 hz_78 => ?_)
        refine lv_istore_n (lv' := [(3, .int (I z_78)), (0, .ref a), (2, .int (I z_4))]) hx hb dX11_readKey_57 rfl hl (by decide) rfl (fun ls hl => ?_)
        refine lv_goto (tgt := 11) hx hb dX11_readKey_58 (by decide) ?_
        exact ihJ_34 (z_78) σ_s_70 _ _ _ (by first | omega | (dsimp only; omega)) ⟨hO, hF, hM, hsr, hH, hS, lv_sub hl [1, 2, 0] rfl, rz_78, by first | omega | (dsimp only; omega), by first | omega | (dsimp only; omega), (by first | exact Or.inr (by omega) | exact Or.inl (by rw [show z_78 = v3q33 + mS f2 v3q33 by omega]; exact (nok.step hn9 hk9.1 (by unfold mY; omega)))), by first | omega | (dsimp only; omega), by first | omega | (dsimp only; omega), e_71, e_72, e_73, e_74, e_75, e_76⟩
