set_option maxHeartbeats 4000000 in
set_option maxRecDepth 100000 in
theorem n_readKey (l : Launch) (G : va_G) (y : Nat → ClassId) (b0 : Nat) (σ : th_M) (E : th_E) (hO : ok y E σ) (a : Nat) (h_a : kd E a = 13) (k : Int) (rk : rng k) (l_k : 0 ≤ k) (u_k : k ≤ 236) (f2 : Nat → Int32) (ef2 : aF σ (ad E a 2) = f2) (Bf : Int → Int) (hsr : sr E σ a Bf) (T : tkT) (hSt : tkSt Bf T) (fc jt : Int) (hR0 : RSt σ a T fc jt) (ks : List Int) (hy0 : 0 ≤ gI σ a 17 ∧ gI σ a 17 ≤ gI σ a 13 ∧ gI σ a 13 ≤ gI σ a 11 ∧ gI σ a 11 ≤ 400) (hy1 : k % 4 = 0) (hy2 : k / 4 + 1 ≤ gI σ a 22) (hy3 : wf f2 (k / 4 + 1) (gI σ a 22)) (hy4 : gI σ a 19 = 0) (hy5 : krl f2 (k / 4) (gI σ a 22) ks) : Met l yX11_readKey wsX11_readKey ({ frames := 4, cells := 0, slots := 0, locals := 115 }) (th_P G y b0 σ [.ref a, .int (I k)]) (th_Qi G b0 (fun r σ1 => ok y E σ1 ∧ fr [13] E σ σ1 ∧ fm [13, 14, 15, 16, 17, 18, 19, 20] E σ σ1 a ∧ ((((gI σ a 13 ≤ gI σ1 a 13 ∧ gI σ1 a 13 ≤ gI σ a 11 ∧ 0 ≤ gI σ1 a 17 ∧ gI σ1 a 17 ≤ gI σ1 a 13) ∧ pgo (gI σ1 a 19) (gI σ1 a 14) (gI σ a 13) (gI σ1 a 13)) ∧ bdo (gI σ a 19) (gI σ1 a 19) ∧ (¬ gI σ1 a 19 = 0 ∨ nok f2 (k / 4 + 1) (gI σ a 22) r)) ∧ ∃ c1 j1, RSt σ1 a T c1 j1 ∧ kyR T 2 jt ks c1 j1 r))) 0 0 (th_A b0) := by
  refine Met.ofW (cc := cX11_readKey) (maxL := 4) (ret := (some .int)) (by decide) rfl ?_
  intro p e s m args below meth c s₁ B hml hv
  obtain ⟨rfl, hH, hK⟩ := hv
  have hx := B.exec
  have hb := B.bytes
  have hr := B.returns
  have hts := atoms_spec (ws := wsX11_readKey) B.pre
  have hown : s.vm.findClass RX11 = some m.cls := findClass_of_methodNamed B.named
  have hlocks := B.notSynchronized
  have h00 : b0 ≤ s.heap.size := hH.1
  have hS : va_S (th_A b0) s.heap s.heap [] := va_S.rf
  have hF : fr [13] E σ σ := fr.rf
  have hM : fm [13, 14, 15, 16, 17, 18, 19, 20] E σ σ a := fm.rf
  have inX11 : ∀ w ∈ wsX110, w ∈ wsX11_readKey := by decide +kernel
  have fl0 := hts (.fieldLink RX11 188 "NestQueryModel" "dataMany" "I") (by decide +kernel)
  have fl1 := hts (.fieldLink RX11 162 "NestQueryModel" "bad" "I") (by decide +kernel)
  have fl2 := hts (.fieldLink RX11 13 "NestQueryModel" "data" "[I") (by decide +kernel)
  have hl := lv_entry ([.ref a, .int (I k)]) (n := 4) (Nat.le_of_ble_eq_true rfl)
  rw [lg_entry_eq]
  generalize (lg_sl ([.ref a, .int (I k)]) ++ List.replicate (4 - (lg_sl ([.ref a, .int (I k)])).length) Slot.unset).toArray = ls at hl ⊢
  have hl : lv_has ls 4 [(0, .ref a), (1, .int (I k))] := hl
  obtain ⟨a110, ea110, ra110, la110, ua110⟩ := hO.gi h_a (by decide) k13_11
  obtain ⟨a130, ea130, ra130, la130, ua130⟩ := hO.gi h_a (by decide) k13_13
  obtain ⟨a140, ea140, ra140, la140, ua140⟩ := hO.gi h_a (by decide) k13_14
  obtain ⟨a170, ea170, ra170, la170, ua170⟩ := hO.gi h_a (by decide) k13_17
  obtain ⟨a190, ea190, ra190, la190, ua190⟩ := hO.gi h_a (by decide) k13_19
  obtain ⟨a220, ea220, ra220, la220, ua220⟩ := hO.gi h_a (by decide) k13_22
  have hV0 := hR0.1
  refine lv_aload_n hx hb dX11_readKey_0 rfl (lv_at hl 0 rfl) ?_
  obtain ⟨_, hc_1⟩ := hO.cell h_a (by decide) (ci := 11) rfl
  refine th_calli (va_runV (As := []) (rest := []) ⟨hx, hb, hml, hown, hts⟩ (n_wordNow l G y b0 σ E hO a h_a Bf hsr T hSt fc jt hR0 (by omega)) (cwV 0 hts gX11_readKey_X11_wordNow rfl rfl rfl (by decide +kernel) ⟨Nat.le_of_ble_eq_true rfl, Nat.le_of_ble_eq_true rfl⟩) (th_PV hK hH rfl hc_1) rfl rfl hl.1 rfl (lv_room (Nat.le_of_ble_eq_true rfl)) dX11_readKey_1 ⟨Nat.le_of_ble_eq_true rfl, Nat.le_of_ble_eq_true rfl⟩) hS (fun z_4 σ_s_3 H locs rz_4 hw_2 hH hS => ?_)
  obtain ⟨hO9, hF9, hM9, hw_2⟩ := hw_2
  replace hM := hM.tu hM9 (by decide)
  replace hF := hF.tu hF9 (by decide)
  have e_5 : aF σ_s_3 (ad E a 2) = f2 := (hM9.a (by decide) (by decide)).trans ef2
  have e_6 : gI σ_s_3 a 11 = a110 := (hM9.i (by decide)).trans ea110
  have e_7 : gI σ_s_3 a 13 = a130 := (hM9.i (by decide)).trans ea130
  have e_8 : gI σ_s_3 a 14 = a140 := (hM9.i (by decide)).trans ea140
  have e_9 : gI σ_s_3 a 17 = a170 := (hM9.i (by decide)).trans ea170
  have e_10 : gI σ_s_3 a 22 = a220 := (hM9.i (by decide)).trans ea220
  replace hsr := hsr.mv hM9 (by decide) (by decide) (by decide) (by decide) (by decide)
  replace hO := hO9
  replace hw_2 : (bdo (gI σ a 19) (gI σ_s_3 a 19)) ∧ ∃ c1 j1, RSt σ_s_3 a T c1 j1 ∧ (j1 = jt ∧ (fc ≠ 0 → c1 = fc) ∧ (fc = 0 → (tK T jt ≠ 256 ∧ c1 = 1) ∨ (tK T jt = 256 ∧ 6 < tL T jt ∧ c1 = 2) ∨ (tK T jt = 256 ∧ tL T jt ≤ 6 ∧ c1 = 0 ∧ z_4 = tV T jt))) := hw_2
  simp only [pgo, bdo] at hw_2
  have hn_11 := hw_2.2
  replace hw_2 := hw_2.1
  obtain ⟨cc_12, jj_13, hR_14, hn_11⟩ := hn_11
  have hVhR_14 := hR_14.1
  have hj9 := hn_11.1.symm
  subst hj9
  refine lv_istore_n (lv' := [(2, .int (I z_4)), (0, .ref a), (1, .int (I k))]) hx hb dX11_readKey_4 rfl hl (by decide) rfl (fun ls hl => ?_)
  refine lv_iload_n hx hb dX11_readKey_5 rfl (lv_at hl 2 rfl) ?_
  refine lv_iconst (v := I 4) hx hb dX11_readKey_6 (by decide) ?_
  refine lv_idiv hx hb dX11_readKey_7 (by decide) ?_
  refine th_div (n := 4) rk (by omega) (by decide) (fun z_15 rz_15 hz_15 => ?_)
  refine lv_iconst (v := I 1) hx hb dX11_readKey_8 (by decide) ?_
  refine lv_iadd hx hb dX11_readKey_9 ?_
  refine th_addo (fun z_16 rz_16 hz_16 => ?_)
  refine lv_istore_n (lv' := [(3, .int (I z_16)), (2, .int (I z_4)), (0, .ref a), (1, .int (I k))]) hx hb dX11_readKey_10 rfl hl (by decide) rfl (fun ls hl => ?_)
  replace hl : lv_has ls 4 [(3, .int (I z_16)), (2, .int (I z_4)), (0, .ref a)] := lv_sub hl [0, 1, 2] rfl
  refine th_loop (α := Int) (pc := 11) (fun x9 => (gI σ a 22 - x9).toNat) (fun x9 σ9 H9 l9 ls9 => ok y E σ9 ∧ fr [13] E σ σ9 ∧ fm [13, 14, 15, 16, 17, 18, 19, 20] E σ σ9 a ∧ sr E σ9 a Bf ∧ th_H G b0 σ9 H9 ∧ va_S (th_A b0) s.heap H9 l9 ∧ lv_has ls9 4 [(0, .ref a), (2, .int (I z_4)), (3, .int (I x9))] ∧ rng x9 ∧ (k / 4 + 1 ≤ x9) ∧ (x9 ≤ gI σ a 22) ∧ (nok f2 (k / 4 + 1) x9 z_4 ∨ ¬ gI σ9 a 19 = 0) ∧ (0 ≤ x9) ∧ (x9 ≤ 60) ∧ (∃ c2, RSt σ9 a T c2 jt ∧ (c2 = cc_12 ∨ (c2 = 3 ∧ cc_12 = 0 ∧ z_4 ∈ ks))) ∧ (gI σ9 a 11 = a110) ∧ (gI σ9 a 13 = a130) ∧ (gI σ9 a 14 = a140) ∧ (gI σ9 a 17 = a170) ∧ (gI σ9 a 22 = a220) ∧ (aF σ9 (ad E a 2) = f2)) ?_ (z_16) σ_s_3 _ _ _ ⟨hO, hF, hM, hsr, hH, hS, lv_sub hl [2, 1, 0] rfl, rz_16, by first | (dsimp only; omega) | omega, by first | (dsimp only; omega) | omega, (Or.inl (by rw [show z_16 = k / 4 + 1 by omega]; exact nok.zero)), by first | (dsimp only; omega) | omega, by first | (dsimp only; omega) | omega, ⟨cc_12, hR_14, Or.inl rfl⟩, e_6, e_7, e_8, e_9, e_10, e_5⟩
  intro x9 σ_J_42 H locs ls hI9 ihJ_42
  obtain ⟨v3q41, ex9⟩ : ∃ z, z = x9 := ⟨_, rfl⟩
  subst ex9
  obtain ⟨hO, hF, hM, hsr, hH, hS, hl, rv3q41, J_42_0, J_42_1, J_42_2, J_42_3, J_42_4, J_42_5, J_42_6, J_42_7, J_42_8, J_42_9, J_42_10, J_42_11⟩ := hI9
  have hl : lv_has ls 4 [(0, .ref a), (2, .int (I z_4)), (3, .int (I v3q41))] := hl
  have rv3q41 : rng v3q41 := rv3q41
  replace J_42_0 : k / 4 + 1 ≤ v3q41 := J_42_0
  replace J_42_1 : v3q41 ≤ gI σ a 22 := J_42_1
  replace J_42_2 : nok f2 (k / 4 + 1) v3q41 z_4 ∨ ¬ gI σ_J_42 a 19 = 0 := J_42_2
  replace J_42_3 : 0 ≤ v3q41 := J_42_3
  replace J_42_4 : v3q41 ≤ 60 := J_42_4
  replace J_42_5 : ∃ c2, RSt σ_J_42 a T c2 jt ∧ (c2 = cc_12 ∨ (c2 = 3 ∧ cc_12 = 0 ∧ z_4 ∈ ks)) := J_42_5
  replace J_42_6 : gI σ_J_42 a 11 = a110 := J_42_6
  replace J_42_7 : gI σ_J_42 a 13 = a130 := J_42_7
  replace J_42_8 : gI σ_J_42 a 14 = a140 := J_42_8
  replace J_42_9 : gI σ_J_42 a 17 = a170 := J_42_9
  replace J_42_10 : gI σ_J_42 a 22 = a220 := J_42_10
  replace J_42_11 : aF σ_J_42 (ad E a 2) = f2 := J_42_11
  obtain ⟨cc_43, hR_44, hc_45⟩ := J_42_5
  have hVhR_44 := hR_44.1
  refine lv_iload_n hx hb dX11_readKey_11 rfl (lv_at hl 2 rfl) ?_
  refine lv_aload_n hx hb dX11_readKey_12 rfl (lv_at hl 0 rfl) ?_
  refine ok.getIc hO h_a (by decide) k13_22 J_42_10 (fun _ _ he hv kk => th_get (ci := 11) (C := RX11) (T := TX11) (N := 66) hx hb hts inX11 hown hK hH he rfl 22 (by decide) fl0 hv dX11_readKey_13 kk) ?_
  refine lv_icmp_ge (tgt := 61) hx hb dX11_readKey_16 (by decide) (fun c_46 => ?_) (fun c_46 => ?_)
  · replace c_46 := (I_le (a := a220) (b := v3q41) ra220 rv3q41).mp c_46
    have hE9 : ¬ (gI σ_J_42 a 19) = 0 ∨ nok f2 (k / 4 + 1) (gI σ a 22) z_4 := by
      first
      | exact Or.inl (by omega)
      | exact (J_42_2).elim (fun h9 => Or.inr (by rw [show gI σ a 22 = v3q41 by omega]; exact h9)) (fun h9 => Or.inl (by omega))
    refine lv_aload_n hx hb dX11_readKey_61 rfl (lv_at hl 0 rfl) ?_
    obtain ⟨_, hc_47⟩ := hO.cell h_a (by decide) (ci := 11) rfl
    refine th_callv (va_runV (As := []) (rest := []) ⟨hx, hb, hml, hown, hts⟩ (n_pass l G y b0 σ_J_42 E hO a h_a Bf hsr T hSt cc_43 jt hR_44 (by omega) (by omega)) (cwV 0 hts gX11_readKey_X11_pass rfl rfl rfl (by decide +kernel) ⟨Nat.le_of_ble_eq_true rfl, Nat.le_of_ble_eq_true rfl⟩) (th_PV hK hH rfl hc_47) rfl rfl hl.1 rfl (lv_room (Nat.le_of_ble_eq_true rfl)) dX11_readKey_62 ⟨Nat.le_of_ble_eq_true rfl, Nat.le_of_ble_eq_true rfl⟩) hS (fun σ_s_49 H locs hw_48 hH hS => ?_)
    obtain ⟨hO9, hF9, hM9, hw_48⟩ := hw_48
    replace hM := hM.tu hM9 (by decide)
    replace hF := hF.tu hF9 (by decide)
    have e_50 : gI σ_s_49 a 11 = a110 := (hM9.i (by decide)).trans J_42_6
    have e_51 : gI σ_s_49 a 22 = a220 := (hM9.i (by decide)).trans J_42_10
    have e_52 : aF σ_s_49 (ad E a 2) = f2 := (hM9.a (by decide) (by decide)).trans J_42_11
    replace hsr := hsr.mv hM9 (by decide) (by decide) (by decide) (by decide) (by decide)
    replace hO := hO9
    replace hw_48 : ((gI σ_J_42 a 13 ≤ gI σ_s_49 a 13 ∧ gI σ_s_49 a 13 ≤ gI σ_J_42 a 11 ∧ 0 ≤ gI σ_s_49 a 17 ∧ gI σ_s_49 a 17 ≤ gI σ_s_49 a 13) ∧ pgo (gI σ_s_49 a 19) (gI σ_s_49 a 14) (gI σ_J_42 a 13) (gI σ_s_49 a 13) ∧ gI σ_s_49 a 19 = gI σ_J_42 a 19) ∧ ∃ c1 j1, RSt σ_s_49 a T c1 j1 ∧ (c1 = cc_43 ∧ (cc_43 ≠ 0 → j1 = jt) ∧ (cc_43 = 0 → j1 = jt + 1)) := hw_48
    simp only [pgo, bdo] at hw_48
    have hn_53 := hw_48.2
    replace hw_48 := hw_48.1
    obtain ⟨cc_54, jj_55, hR_56, hn_53⟩ := hn_53
    have hVhR_56 := hR_56.1
    refine lv_aload_n hx hb dX11_readKey_65 rfl (lv_at hl 0 rfl) ?_
    refine lv_bipush (v := I 58) hx hb dX11_readKey_66 (by decide) ?_
    obtain ⟨_, hc_57⟩ := hO.cell h_a (by decide) (ci := 11) rfl
    refine th_callv (va_runV (As := [.int (I 58)]) (rest := []) ⟨hx, hb, hml, hown, hts⟩ (n_need l G y b0 σ_s_49 E hO a h_a 58 (show rng 58 from (show rng 58 from ⟨by decide, by decide⟩)) (by omega) (by omega) Bf hsr T hSt cc_54 jj_55 hR_56 (by omega)) (cwV 1 hts gX11_readKey_X11_need rfl rfl rfl (by decide +kernel) ⟨Nat.le_of_ble_eq_true rfl, Nat.le_of_ble_eq_true rfl⟩) (th_PV hK hH rfl hc_57) rfl rfl hl.1 rfl (lv_room (Nat.le_of_ble_eq_true rfl)) dX11_readKey_68 ⟨Nat.le_of_ble_eq_true rfl, Nat.le_of_ble_eq_true rfl⟩) hS (fun σ_s_59 H locs hw_58 hH hS => ?_)
    obtain ⟨hO9, hF9, hM9, hw_58⟩ := hw_58
    replace hM := hM.tu hM9 (by decide)
    replace hF := hF.tu hF9 (by decide)
    have e_60 : gI σ_s_59 a 11 = a110 := (hM9.i (by decide)).trans e_50
    have e_61 : gI σ_s_59 a 22 = a220 := (hM9.i (by decide)).trans e_51
    have e_62 : aF σ_s_59 (ad E a 2) = f2 := (hM9.a (by decide) (by decide)).trans e_52
    replace hsr := hsr.mv hM9 (by decide) (by decide) (by decide) (by decide) (by decide)
    replace hO := hO9
    replace hw_58 : ((gI σ_s_49 a 13 ≤ gI σ_s_59 a 13 ∧ gI σ_s_59 a 13 ≤ gI σ_s_49 a 11 ∧ 0 ≤ gI σ_s_59 a 17 ∧ gI σ_s_59 a 17 ≤ gI σ_s_59 a 13) ∧ pgo (gI σ_s_59 a 19) (gI σ_s_59 a 14) (gI σ_s_49 a 13) (gI σ_s_59 a 13) ∧ bdo (gI σ_s_49 a 19) (gI σ_s_59 a 19)) ∧ ∃ c1 j1, RSt σ_s_59 a T c1 j1 ∧ ((cc_54 ≠ 0 → c1 = cc_54 ∧ j1 = jj_55) ∧ (cc_54 = 0 → (tK T jj_55 = 58 ∧ c1 = 0 ∧ j1 = jj_55 + 1) ∨ (tK T jj_55 ≠ 58 ∧ c1 = 1 ∧ j1 = jj_55))) := hw_58
    simp only [pgo, bdo] at hw_58
    have hn_63 := hw_58.2
    replace hw_58 := hw_58.1
    obtain ⟨cc_64, jj_65, hR_66, hn_63⟩ := hn_63
    have hVhR_66 := hR_66.1
    refine lv_iload_n hx hb dX11_readKey_71 rfl (lv_at hl 1 rfl) ?_
    exact th_iret hx hb hr hlocks hH hS (z := z_4) rz_4 ⟨hO, hF, hM, ⟨⟨⟨by omega, pgo.of (by omega)⟩, bdo.of (by omega), hE9.elim (fun h9 => Or.inl (by omega)) Or.inr⟩, cc_64, jj_65, hR_66, kyR.mk2 (c3 := cc_54) (j3 := jj_55) (kR_of (c2 := cc_43) (hn_11.2.2 (by omega)) hc_45 (fun h9 => krl.no hy5 (hE9.resolve_left (by omega))) (by omega) (by omega)) hn_63.1 hn_63.2⟩⟩ dX11_readKey_72
  · replace c_46 := mt (I_le (a := a220) (b := v3q41) ra220 rv3q41).mpr c_46
    refine lv_aload_n hx hb dX11_readKey_19 rfl (lv_at hl 0 rfl) ?_
    refine ok.getI hO h_a (by decide) k13_19 (fun _ _ he hv kk => th_get (ci := 11) (C := RX11) (T := TX11) (N := 66) hx hb hts inX11 hown hK hH he rfl 19 (by decide) fl1 hv dX11_readKey_20 kk) (fun z_67 e_68 rz_67 lz_67 uz_67 => ?_)
    refine lv_if_ne (tgt := 61) hx hb dX11_readKey_23 (by decide) (fun c_69 => ?_) (fun c_69 => ?_)
    · replace c_69 := mt (I_eq (a := z_67) (b := 0) rz_67 (show rng 0 from ⟨by decide, by decide⟩)).mpr c_69
      have hE9 : ¬ (gI σ_J_42 a 19) = 0 ∨ nok f2 (k / 4 + 1) (gI σ a 22) z_4 := by
        first
        | exact Or.inl (by omega)
        | exact (J_42_2).elim (fun h9 => Or.inr (by rw [show gI σ a 22 = v3q41 by omega]; exact h9)) (fun h9 => Or.inl (by omega))
      refine lv_aload_n hx hb dX11_readKey_61 rfl (lv_at hl 0 rfl) ?_
      obtain ⟨_, hc_70⟩ := hO.cell h_a (by decide) (ci := 11) rfl
      refine th_callv (va_runV (As := []) (rest := []) ⟨hx, hb, hml, hown, hts⟩ (n_pass l G y b0 σ_J_42 E hO a h_a Bf hsr T hSt cc_43 jt hR_44 (by omega) (by omega)) (cwV 0 hts gX11_readKey_X11_pass rfl rfl rfl (by decide +kernel) ⟨Nat.le_of_ble_eq_true rfl, Nat.le_of_ble_eq_true rfl⟩) (th_PV hK hH rfl hc_70) rfl rfl hl.1 rfl (lv_room (Nat.le_of_ble_eq_true rfl)) dX11_readKey_62 ⟨Nat.le_of_ble_eq_true rfl, Nat.le_of_ble_eq_true rfl⟩) hS (fun σ_s_72 H locs hw_71 hH hS => ?_)
      obtain ⟨hO9, hF9, hM9, hw_71⟩ := hw_71
      replace hM := hM.tu hM9 (by decide)
      replace hF := hF.tu hF9 (by decide)
      have e_73 : gI σ_s_72 a 11 = a110 := (hM9.i (by decide)).trans J_42_6
      have e_74 : gI σ_s_72 a 22 = a220 := (hM9.i (by decide)).trans J_42_10
      have e_75 : aF σ_s_72 (ad E a 2) = f2 := (hM9.a (by decide) (by decide)).trans J_42_11
      have e_76 : gI σ_s_72 a 19 = z_67 := (hM9.i (by decide)).trans e_68
      replace hsr := hsr.mv hM9 (by decide) (by decide) (by decide) (by decide) (by decide)
      replace hO := hO9
      replace hw_71 : ((gI σ_J_42 a 13 ≤ gI σ_s_72 a 13 ∧ gI σ_s_72 a 13 ≤ gI σ_J_42 a 11 ∧ 0 ≤ gI σ_s_72 a 17 ∧ gI σ_s_72 a 17 ≤ gI σ_s_72 a 13) ∧ pgo (gI σ_s_72 a 19) (gI σ_s_72 a 14) (gI σ_J_42 a 13) (gI σ_s_72 a 13) ∧ gI σ_s_72 a 19 = gI σ_J_42 a 19) ∧ ∃ c1 j1, RSt σ_s_72 a T c1 j1 ∧ (c1 = cc_43 ∧ (cc_43 ≠ 0 → j1 = jt) ∧ (cc_43 = 0 → j1 = jt + 1)) := hw_71
      simp only [pgo, bdo] at hw_71
      have hn_77 := hw_71.2
      replace hw_71 := hw_71.1
      obtain ⟨cc_78, jj_79, hR_80, hn_77⟩ := hn_77
      have hVhR_80 := hR_80.1
      refine lv_aload_n hx hb dX11_readKey_65 rfl (lv_at hl 0 rfl) ?_
      refine lv_bipush (v := I 58) hx hb dX11_readKey_66 (by decide) ?_
      obtain ⟨_, hc_81⟩ := hO.cell h_a (by decide) (ci := 11) rfl
      refine th_callv (va_runV (As := [.int (I 58)]) (rest := []) ⟨hx, hb, hml, hown, hts⟩ (n_need l G y b0 σ_s_72 E hO a h_a 58 (show rng 58 from (show rng 58 from ⟨by decide, by decide⟩)) (by omega) (by omega) Bf hsr T hSt cc_78 jj_79 hR_80 (by omega)) (cwV 1 hts gX11_readKey_X11_need rfl rfl rfl (by decide +kernel) ⟨Nat.le_of_ble_eq_true rfl, Nat.le_of_ble_eq_true rfl⟩) (th_PV hK hH rfl hc_81) rfl rfl hl.1 rfl (lv_room (Nat.le_of_ble_eq_true rfl)) dX11_readKey_68 ⟨Nat.le_of_ble_eq_true rfl, Nat.le_of_ble_eq_true rfl⟩) hS (fun σ_s_83 H locs hw_82 hH hS => ?_)
      obtain ⟨hO9, hF9, hM9, hw_82⟩ := hw_82
      replace hM := hM.tu hM9 (by decide)
      replace hF := hF.tu hF9 (by decide)
      have e_84 : gI σ_s_83 a 11 = a110 := (hM9.i (by decide)).trans e_73
      have e_85 : gI σ_s_83 a 22 = a220 := (hM9.i (by decide)).trans e_74
      have e_86 : aF σ_s_83 (ad E a 2) = f2 := (hM9.a (by decide) (by decide)).trans e_75
      replace hsr := hsr.mv hM9 (by decide) (by decide) (by decide) (by decide) (by decide)
      replace hO := hO9
      replace hw_82 : ((gI σ_s_72 a 13 ≤ gI σ_s_83 a 13 ∧ gI σ_s_83 a 13 ≤ gI σ_s_72 a 11 ∧ 0 ≤ gI σ_s_83 a 17 ∧ gI σ_s_83 a 17 ≤ gI σ_s_83 a 13) ∧ pgo (gI σ_s_83 a 19) (gI σ_s_83 a 14) (gI σ_s_72 a 13) (gI σ_s_83 a 13) ∧ bdo (gI σ_s_72 a 19) (gI σ_s_83 a 19)) ∧ ∃ c1 j1, RSt σ_s_83 a T c1 j1 ∧ ((cc_78 ≠ 0 → c1 = cc_78 ∧ j1 = jj_79) ∧ (cc_78 = 0 → (tK T jj_79 = 58 ∧ c1 = 0 ∧ j1 = jj_79 + 1) ∨ (tK T jj_79 ≠ 58 ∧ c1 = 1 ∧ j1 = jj_79))) := hw_82
      simp only [pgo, bdo] at hw_82
      have hn_87 := hw_82.2
      replace hw_82 := hw_82.1
      obtain ⟨cc_88, jj_89, hR_90, hn_87⟩ := hn_87
      have hVhR_90 := hR_90.1
      refine lv_iload_n hx hb dX11_readKey_71 rfl (lv_at hl 1 rfl) ?_
      exact th_iret hx hb hr hlocks hH hS (z := z_4) rz_4 ⟨hO, hF, hM, ⟨⟨⟨by omega, pgo.of (by omega)⟩, bdo.of (by omega), hE9.elim (fun h9 => Or.inl (by omega)) Or.inr⟩, cc_88, jj_89, hR_90, kyR.mk2 (c3 := cc_78) (j3 := jj_79) (kR_of (c2 := cc_43) (hn_11.2.2 (by omega)) hc_45 (fun h9 => krl.no hy5 (hE9.resolve_left (by omega))) (by omega) (by omega)) hn_87.1 hn_87.2⟩⟩ dX11_readKey_72
    · replace c_69 := (I_eq (a := z_67) (b := 0) rz_67 (show rng 0 from ⟨by decide, by decide⟩)).mp c_69
      have hk9 := hy3 v3q41 (by omega) (by omega)
      have hn9 := (J_42_2).resolve_right (by omega)
      refine lv_aload_n hx hb dX11_readKey_26 rfl (lv_at hl 0 rfl) ?_
      refine ok.getR hO h_a (by decide) k13_2 (by decide) (fun _ _ he hv kk => th_get (ci := 11) (C := RX11) (T := TX11) (N := 66) hx hb hts inX11 hown hK hH he rfl 2 (by decide) fl2 hv dX11_readKey_27 kk) ?_
      refine lv_iconst (v := I 4) hx hb dX11_readKey_30 (by decide) ?_
      refine lv_iload_n hx hb dX11_readKey_31 rfl (lv_at hl 2 rfl) ?_
      refine lv_imul hx hb dX11_readKey_32 ?_
      refine nq_top (I_mul _ _) ?_
      refine lv_iconst (v := I 2) hx hb dX11_readKey_33 (by decide) ?_
      refine lv_iadd hx hb dX11_readKey_34 ?_
      refine nq_top (I_add _ _) ?_
      refine m_iald hx hb hK hH hO h_a k13_2 isA1 J_42_11 ⟨by omega, by omega⟩ (by omega) (by omega) dX11_readKey_35 (fun z_91 ez_91 rz_91 elx9 => ?_)
      refine lv_iload_n hx hb dX11_readKey_36 rfl (lv_at hl 1 rfl) ?_
      refine lv_icmp_ne (tgt := 45) hx hb dX11_readKey_37 (by decide) (fun c_92 => ?_) (fun c_92 => ?_)
      · replace c_92 := mt (I_eq (a := z_91) (b := z_4) rz_91 rz_4).mpr c_92
        refine lv_iload_n hx hb dX11_readKey_45 rfl (lv_at hl 2 rfl) ?_
        refine lv_aload_n hx hb dX11_readKey_46 rfl (lv_at hl 0 rfl) ?_
        refine ok.getR hO h_a (by decide) k13_2 (by decide) (fun _ _ he hv kk => th_get (ci := 11) (C := RX11) (T := TX11) (N := 66) hx hb hts inX11 hown hK hH he rfl 2 (by decide) fl2 hv dX11_readKey_47 kk) ?_
        refine lv_iconst (v := I 4) hx hb dX11_readKey_50 (by decide) ?_
        refine lv_iload_n hx hb dX11_readKey_51 rfl (lv_at hl 2 rfl) ?_
        refine lv_imul hx hb dX11_readKey_52 ?_
        refine nq_top (I_mul _ _) ?_
        refine lv_iconst (v := I 3) hx hb dX11_readKey_53 (by decide) ?_
        refine lv_iadd hx hb dX11_readKey_54 ?_
        refine nq_top (I_add _ _) ?_
        refine m_iald hx hb hK hH hO h_a k13_2 isA1 J_42_11 ⟨by omega, by omega⟩ (by omega) (by omega) dX11_readKey_55 (fun z_93 ez_93 rz_93 elx9 => ?_)
        have hS9 : mS f2 v3q41 = z_93 := ez_93
        refine lv_iadd hx hb dX11_readKey_56 ?_
        refine th_addo (fun z_94 rz_94 hz_94 => ?_)
        refine lv_istore_n (lv' := [(3, .int (I z_94)), (0, .ref a), (2, .int (I z_4))]) hx hb dX11_readKey_57 rfl hl (by decide) rfl (fun ls hl => ?_)
        refine lv_goto (tgt := 11) hx hb dX11_readKey_58 (by decide) ?_
        exact ihJ_42 (z_94) σ_J_42 _ _ _ (by first | (dsimp only; omega) | omega) ⟨hO, hF, hM, hsr, hH, hS, lv_sub hl [1, 2, 0] rfl, rz_94, by first | (dsimp only; omega) | omega, by first | (dsimp only; omega) | omega, (by first | exact Or.inr (by omega) | exact Or.inl (by rw [show z_94 = v3q41 + mS f2 v3q41 by omega]; exact (nok.step hn9 hk9.1 (by unfold mY; omega)))), by first | (dsimp only; omega) | omega, by first | (dsimp only; omega) | omega, ⟨cc_43, hR_44, hc_45⟩, J_42_6, J_42_7, J_42_8, J_42_9, J_42_10, J_42_11⟩
      · replace c_92 := (I_eq (a := z_91) (b := z_4) rz_91 rz_4).mp c_92
        refine lv_aload_n hx hb dX11_readKey_40 rfl (lv_at hl 0 rfl) ?_
        refine lv_iconst (v := I 3) hx hb dX11_readKey_41 (by decide) ?_
        obtain ⟨_, hc_95⟩ := hO.cell h_a (by decide) (ci := 11) rfl
        refine th_callv (va_runV (As := [.int (I 3)]) (rest := []) ⟨hx, hb, hml, hown, hts⟩ (n_wrong l G y b0 σ_J_42 E hO a h_a 3 (show rng 3 from (show rng 3 from ⟨by decide, by decide⟩)) (by omega) (by omega) Bf hsr T hSt cc_43 jt hR_44) (cwV 1 hts gX11_readKey_X11_wrong rfl rfl rfl (by decide +kernel) ⟨Nat.le_of_ble_eq_true rfl, Nat.le_of_ble_eq_true rfl⟩) (th_PV hK hH rfl hc_95) rfl rfl hl.1 rfl (lv_room (Nat.le_of_ble_eq_true rfl)) dX11_readKey_42 ⟨Nat.le_of_ble_eq_true rfl, Nat.le_of_ble_eq_true rfl⟩) hS (fun σ_s_97 H locs hw_96 hH hS => ?_)
        obtain ⟨hO9, hF9, hM9, hw_96⟩ := hw_96
        replace hM := hM.tu hM9 (by decide)
        replace hF := hF.tu hF9 (by decide)
        have e_98 : gI σ_s_97 a 11 = a110 := (hM9.i (by decide)).trans J_42_6
        have e_99 : gI σ_s_97 a 13 = a130 := (hM9.i (by decide)).trans J_42_7
        have e_100 : gI σ_s_97 a 14 = a140 := (hM9.i (by decide)).trans J_42_8
        have e_101 : gI σ_s_97 a 17 = a170 := (hM9.i (by decide)).trans J_42_9
        have e_102 : gI σ_s_97 a 22 = a220 := (hM9.i (by decide)).trans J_42_10
        have e_103 : aF σ_s_97 (ad E a 2) = f2 := (hM9.a (by decide) (by decide)).trans J_42_11
        replace hsr := hsr.mv hM9 (by decide) (by decide) (by decide) (by decide) (by decide)
        replace hO := hO9
        replace hw_96 : (¬ gI σ_s_97 a 19 = 0 ∧ (gI σ_J_42 a 19 = 0 ∨ gI σ_s_97 a 19 = gI σ_J_42 a 19)) ∧ ∃ c1 j1, RSt σ_s_97 a T c1 j1 ∧ (j1 = jt ∧ (cc_43 = 0 → c1 = 3) ∧ (cc_43 ≠ 0 → c1 = cc_43)) := hw_96
        have hn_104 := hw_96.2
        replace hw_96 := hw_96.1
        obtain ⟨cc_105, jj_106, hR_107, hn_104⟩ := hn_104
        have hVhR_107 := hR_107.1
        have hj9 := hn_104.1.symm
        subst hj9
        refine lv_iload_n hx hb dX11_readKey_45 rfl (lv_at hl 2 rfl) ?_
        refine lv_aload_n hx hb dX11_readKey_46 rfl (lv_at hl 0 rfl) ?_
        refine ok.getR hO h_a (by decide) k13_2 (by decide) (fun _ _ he hv kk => th_get (ci := 11) (C := RX11) (T := TX11) (N := 66) hx hb hts inX11 hown hK hH he rfl 2 (by decide) fl2 hv dX11_readKey_47 kk) ?_
        refine lv_iconst (v := I 4) hx hb dX11_readKey_50 (by decide) ?_
        refine lv_iload_n hx hb dX11_readKey_51 rfl (lv_at hl 2 rfl) ?_
        refine lv_imul hx hb dX11_readKey_52 ?_
        refine nq_top (I_mul _ _) ?_
        refine lv_iconst (v := I 3) hx hb dX11_readKey_53 (by decide) ?_
        refine lv_iadd hx hb dX11_readKey_54 ?_
        refine nq_top (I_add _ _) ?_
        refine m_iald hx hb hK hH hO h_a k13_2 isA1 e_103 ⟨by omega, by omega⟩ (by omega) (by omega) dX11_readKey_55 (fun z_108 ez_108 rz_108 elx9 => ?_)
        have hS9 : mS f2 v3q41 = z_108 := ez_108
        refine lv_iadd hx hb dX11_readKey_56 ?_
        refine th_addo (fun z_109 rz_109 hz_109 => ?_)
        refine lv_istore_n (lv' := [(3, .int (I z_109)), (0, .ref a), (2, .int (I z_4))]) hx hb dX11_readKey_57 rfl hl (by decide) rfl (fun ls hl => ?_)
        refine lv_goto (tgt := 11) hx hb dX11_readKey_58 (by decide) ?_
        exact ihJ_42 (z_109) σ_s_97 _ _ _ (by first | (dsimp only; omega) | omega) ⟨hO, hF, hM, hsr, hH, hS, lv_sub hl [1, 2, 0] rfl, rz_109, by first | (dsimp only; omega) | omega, by first | (dsimp only; omega) | omega, (by first | exact Or.inr (by omega) | exact Or.inl (by rw [show z_109 = v3q41 + mS f2 v3q41 by omega]; exact (nok.step hn9 hk9.1 (by unfold mY; omega)))), by first | (dsimp only; omega) | omega, by first | (dsimp only; omega) | omega, ⟨cc_105, (by rw [show jt = jt by omega]; exact hR_107), Or.inr ⟨by omega, by omega, krl.yes hy5 hn9 (by omega) (by unfold mY; omega)⟩⟩, e_98, e_99, e_100, e_101, e_102, e_103⟩
