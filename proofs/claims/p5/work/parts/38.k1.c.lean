set_option maxHeartbeats 4000000 in
set_option maxRecDepth 100000 in
theorem m_isRead (l : Launch) (G : va_G) (y : Nat → ClassId) (b0 : Nat) (σ : th_M) (E : th_E) (hO : ok y E σ) (a : Nat) (h_a : kd E a = 13) : Met l yX11_isRead wsX11_isRead ({ frames := 0, cells := 0, slots := 0, locals := 0 }) (th_P G y b0 σ [.ref a]) (th_Qi G b0 (fun r σ1 => ok y E σ1 ∧ fr [13] E σ σ1 ∧ fm [4, 21] E σ σ1 a ∧ (0 ≤ r ∧ r ≤ 1) ∧ ((r = 1 ∧ gI σ a 19 = 0) ∨ (r = 0 ∧ ¬ gI σ a 19 = 0)))) 0 0 (th_A b0) := by
  refine Met.ofW (cc := cX11_isRead) (maxL := 1) (ret := (some .boolean)) (by decide) rfl ?_
  intro p e s m args below meth c s₁ B hml hv
  obtain ⟨rfl, hH, hK⟩ := hv
  have hx := B.exec
  have hb := B.bytes
  have hr := B.returns
  have hts := atoms_spec (ws := wsX11_isRead) B.pre
  have hown : s.vm.findClass RX11 = some m.cls := findClass_of_methodNamed B.named
  have hlocks := B.notSynchronized
  have h00 : b0 ≤ s.heap.size := hH.1
  have hS : va_S (th_A b0) s.heap s.heap [] := va_S.rf
  have hF : fr [13] E σ σ := fr.rf
  have hM : fm [4, 21] E σ σ a := fm.rf
  have inX11 : ∀ w ∈ wsX110, w ∈ wsX11_isRead := by decide +kernel
  have fl0 := hts (.fieldLink RX11 162 "NestQueryModel" "bad" "I") (by decide +kernel)
  have fl1 := hts (.fieldLink RX11 31 "NestQueryModel" "faultPlace" "I") (by decide +kernel)
  have fl2 := hts (.fieldLink RX11 19 "NestQueryModel" "status" "[I") (by decide +kernel)
  have fl3 := hts (.fieldLink RX11 165 "NestQueryModel" "badPlace" "I") (by decide +kernel)
  have hl := lv_entry ([.ref a]) (n := 1) (Nat.le_of_ble_eq_true rfl)
  rw [lg_entry_eq]
  generalize (lg_sl ([.ref a]) ++ List.replicate (1 - (lg_sl ([.ref a])).length) Slot.unset).toArray = ls at hl ⊢
  have hl : lv_has ls 1 [(0, .ref a)] := hl
  obtain ⟨a190, ea190, ra190, la190, ua190⟩ := hO.gi h_a (by decide) k13_19
  refine lv_aload_n hx hb dX11_isRead_0 rfl (lv_at hl 0 rfl) ?_
  refine lv_aload_n hx hb dX11_isRead_1 rfl (lv_at hl 0 rfl) ?_
  refine ok.getIc hO h_a (by decide) k13_19 ea190 (fun _ _ he hv kk => th_get (ci := 11) (C := RX11) (T := TX11) (N := 66) hx hb hts inX11 hown hK hH he rfl 19 (by decide) fl0 hv dX11_isRead_2 kk) ?_
  refine th_join (α := Int) (J := 16) (stk := fun x9 => [.int (I x9), .ref a]) (fun x9 σ9 H9 l9 ls9 => σ9 = σ ∧ th_H G b0 σ9 H9 ∧ va_S (th_A b0) s.heap H9 l9 ∧ lv_has ls9 1 [(0, .ref a)] ∧ rng x9) ?_ (fun jK_5 => ?_)
  · intro x9 σ_K_5 H locs ls hI9
    obtain ⟨w0q4, ex9⟩ : ∃ z, z = x9 := ⟨_, rfl⟩
    subst ex9
    obtain ⟨eK_5, hH, hS, hl, rw0q4⟩ := hI9
    replace eK_5 := eK_5.symm
    subst eK_5
    have hl : lv_has ls 1 [(0, .ref a)] := hl
    have rw0q4 : rng w0q4 := rw0q4
    refine ok.putJ hO h_a k13_21 rw0q4 (by omega) (by omega) (fun _ he hl9 kk => th_put (ci := 11) (v := .int (I w0q4)) (ty := .int) (C := RX11) (T := TX11) (N := 66) hx hb hts inX11 tyX11 tyX11_ok nmX11 hown hK hH hS h00 he rfl 21 (by decide) fl1 rfl (by decide +kernel) rfl rfl hl9 dX11_isRead_16 kk) (fun σ_s_6 H locs hO hF9 hM9 hg9 ha9 hH hS => ?_)
    replace hM := hM.tu hM9 (by decide)
    replace hF := hF.tu hF9 (by decide)
    have e_7 : gI σ_s_6 a 19 = a190 := (hM9.i (by decide)).trans ea190
    have e_8 := hg9
    refine lv_aload_n hx hb dX11_isRead_19 rfl (lv_at hl 0 rfl) ?_
    refine ok.getR hO h_a (by decide) k13_4 (by decide) (fun _ _ he hv kk => th_get (ci := 11) (C := RX11) (T := TX11) (N := 66) hx hb hts inX11 hown hK hH he rfl 4 (by decide) fl2 hv dX11_isRead_20 kk) ?_
    refine lv_iconst (v := I 0) hx hb dX11_isRead_23 (by decide) ?_
    refine lv_dup2_11 hx hb dX11_isRead_24 rfl rfl ?_
    obtain ⟨f_10, ef_11⟩ : ∃ f9, aF σ_s_6 (ad E a 4) = f9 := ⟨_, rfl⟩
    refine m_iald hx hb hK hH hO h_a k13_4 isA1 ef_11 (show rng 0 from ⟨by decide, by decide⟩) (by omega) (by omega) dX11_isRead_25 (fun z_9 ez_9 rz_9 elx9 => ?_)
    refine lv_aload_n hx hb dX11_isRead_26 rfl (lv_at hl 0 rfl) ?_
    refine ok.getIc hO h_a (by decide) k13_19 e_7 (fun _ _ he hv kk => th_get (ci := 11) (C := RX11) (T := TX11) (N := 66) hx hb hts inX11 hown hK hH he rfl 19 (by decide) fl0 hv dX11_isRead_27 kk) ?_
    refine lv_if_ne (tgt := 37) hx hb dX11_isRead_30 (by decide) (fun c_12 => ?_) (fun c_12 => ?_)
    · replace c_12 := mt (I_eq (a := a190) (b := 0) ra190 (show rng 0 from ⟨by decide, by decide⟩)).mpr c_12
      refine lv_iconst (v := I 1) hx hb dX11_isRead_37 (by decide) ?_
      refine lv_iadd hx hb dX11_isRead_38 ?_
      refine th_addo (fun z_13 rz_13 hz_13 => ?_)
      refine m_iast hx hb hK hH hS h00 hO h_a k13_4 isA1 (by decide) ef_11 (show rng 0 from ⟨by decide, by decide⟩) (by omega) (by omega) rz_13 el1 dX11_isRead_39 (fun σ_s_14 H locs hO hF9 hM9 ha9 hH hS => ?_)
      replace hM := hM.tu hM9 (by decide)
      replace hF := hF.tu hF9 (by decide)
      have e_15 : gI σ_s_14 a 19 = a190 := (hM9.i (by decide)).trans e_7
      have e_16 : gI σ_s_14 a 21 = w0q4 := (hM9.i (by decide)).trans e_8
      obtain ⟨g_17, dg_17⟩ : ∃ g9, g9 = upd f_10 (0 : Int).toNat (I z_13) := ⟨_, rfl⟩
      rw [← dg_17] at ha9
      have ef_18 := ha9
      refine lv_aload_n hx hb dX11_isRead_40 rfl (lv_at hl 0 rfl) ?_
      refine ok.getIc hO h_a (by decide) k13_19 e_15 (fun _ _ he hv kk => th_get (ci := 11) (C := RX11) (T := TX11) (N := 66) hx hb hts inX11 hown hK hH he rfl 19 (by decide) fl0 hv dX11_isRead_41 kk) ?_
      refine lv_if_ne (tgt := 51) hx hb dX11_isRead_44 (by decide) (fun c_19 => ?_) (fun c_19 => ?_)
      · replace c_19 := mt (I_eq (a := a190) (b := 0) ra190 (show rng 0 from ⟨by decide, by decide⟩)).mpr c_19
        refine lv_iconst (v := I 0) hx hb dX11_isRead_51 (by decide) ?_
        exact th_zret hx hb hr hlocks hH hS (z := 0) (by omega) ⟨hO, hF, hM, ⟨by omega, by omega⟩, by omega⟩ dX11_isRead_52
      · replace c_19 := (I_eq (a := a190) (b := 0) ra190 (show rng 0 from ⟨by decide, by decide⟩)).mp c_19
        refine lv_iconst (v := I 1) hx hb dX11_isRead_47 (by decide) ?_
        refine lv_goto (tgt := 52) hx hb dX11_isRead_48 (by decide) ?_
        exact th_zret hx hb hr hlocks hH hS (z := 1) (by omega) ⟨hO, hF, hM, ⟨by omega, by omega⟩, by omega⟩ dX11_isRead_52
    · replace c_12 := (I_eq (a := a190) (b := 0) ra190 (show rng 0 from ⟨by decide, by decide⟩)).mp c_12
      refine lv_iconst (v := I 0) hx hb dX11_isRead_33 (by decide) ?_
      refine lv_goto (tgt := 38) hx hb dX11_isRead_34 (by decide) ?_
      refine lv_iadd hx hb dX11_isRead_38 ?_
      refine th_addo (fun z_20 rz_20 hz_20 => ?_)
      refine m_iast hx hb hK hH hS h00 hO h_a k13_4 isA1 (by decide) ef_11 (show rng 0 from ⟨by decide, by decide⟩) (by omega) (by omega) rz_20 el1 dX11_isRead_39 (fun σ_s_21 H locs hO hF9 hM9 ha9 hH hS => ?_)
      replace hM := hM.tu hM9 (by decide)
      replace hF := hF.tu hF9 (by decide)
      have e_22 : gI σ_s_21 a 19 = a190 := (hM9.i (by decide)).trans e_7
      have e_23 : gI σ_s_21 a 21 = w0q4 := (hM9.i (by decide)).trans e_8
      obtain ⟨g_24, dg_24⟩ : ∃ g9, g9 = upd f_10 (0 : Int).toNat (I z_20) := ⟨_, rfl⟩
      rw [← dg_24] at ha9
      have ef_25 := ha9
      refine lv_aload_n hx hb dX11_isRead_40 rfl (lv_at hl 0 rfl) ?_
      refine ok.getIc hO h_a (by decide) k13_19 e_22 (fun _ _ he hv kk => th_get (ci := 11) (C := RX11) (T := TX11) (N := 66) hx hb hts inX11 hown hK hH he rfl 19 (by decide) fl0 hv dX11_isRead_41 kk) ?_
      refine lv_if_ne (tgt := 51) hx hb dX11_isRead_44 (by decide) (fun c_26 => ?_) (fun c_26 => ?_)
      · replace c_26 := mt (I_eq (a := a190) (b := 0) ra190 (show rng 0 from ⟨by decide, by decide⟩)).mpr c_26
        refine lv_iconst (v := I 0) hx hb dX11_isRead_51 (by decide) ?_
        exact th_zret hx hb hr hlocks hH hS (z := 0) (by omega) ⟨hO, hF, hM, ⟨by omega, by omega⟩, by omega⟩ dX11_isRead_52
      · replace c_26 := (I_eq (a := a190) (b := 0) ra190 (show rng 0 from ⟨by decide, by decide⟩)).mp c_26
        refine lv_iconst (v := I 1) hx hb dX11_isRead_47 (by decide) ?_
        refine lv_goto (tgt := 52) hx hb dX11_isRead_48 (by decide) ?_
        exact th_zret hx hb hr hlocks hH hS (z := 1) (by omega) ⟨hO, hF, hM, ⟨by omega, by omega⟩, by omega⟩ dX11_isRead_52
  · refine lv_if_ne (tgt := 12) hx hb dX11_isRead_5 (by decide) (fun c_27 => ?_) (fun c_27 => ?_)
    · replace c_27 := mt (I_eq (a := a190) (b := 0) ra190 (show rng 0 from ⟨by decide, by decide⟩)).mpr c_27
      refine lv_aload_n hx hb dX11_isRead_12 rfl (lv_at hl 0 rfl) ?_
      refine ok.getI hO h_a (by decide) k13_20 (fun _ _ he hv kk => th_get (ci := 11) (C := RX11) (T := TX11) (N := 66) hx hb hts inX11 hown hK hH he rfl 20 (by decide) fl3 hv dX11_isRead_13 kk) (fun z_28 e_29 rz_28 lz_28 uz_28 => ?_)
      exact jK_5 (z_28) σ _ _ _ ⟨rfl, hH, hS, lv_sub hl [0] rfl, rz_28⟩
    · replace c_27 := (I_eq (a := a190) (b := 0) ra190 (show rng 0 from ⟨by decide, by decide⟩)).mp c_27
      refine lv_iconst (v := I (-1)) hx hb dX11_isRead_8 (by decide) ?_
      refine lv_goto (tgt := 16) hx hb dX11_isRead_9 (by decide) ?_
      exact jK_5 ((-1)) σ _ _ _ ⟨rfl, hH, hS, lv_sub hl [0] rfl, (show rng (-1) from ⟨by decide, by decide⟩)⟩

set_option maxHeartbeats 4000000 in
set_option maxRecDepth 100000 in
theorem m_readsData (l : Launch) (G : va_G) (y : Nat → ClassId) (b0 : Nat) (σ : th_M) (E : th_E) (hO : ok y E σ) (a : Nat) (h_a : kd E a = 13) (nn : Int) (rnn : rng nn) (l_nn : 0 ≤ nn) (u_nn : nn ≤ 400) (f2 : Nat → Int32) (ef2 : aF σ (ad E a 2) = f2) : Met l yX11_readsData wsX11_readsData ({ frames := 49, cells := 0, slots := 0, locals := 2008 }) (th_P G y b0 σ [.ref a, .int (I nn)]) (th_Qi G b0 (fun r σ1 => ok y E σ1 ∧ fr [13] E σ σ1 ∧ fm [2, 4, 9, 10, 11, 13, 14, 15, 16, 17, 18, 19, 20, 21, 22] E σ σ1 a ∧ (0 ≤ r ∧ r ≤ 1) ∧ ((r = 1 ∧ tr (aF σ1 (ad E a 2)) ∧ mS (aF σ1 (ad E a 2)) 0 = gI σ1 a 22) ∨ r = 0))) 0 0 (th_A b0) := by
  refine Met.ofW (cc := cX11_readsData) (maxL := 2) (ret := (some .boolean)) (by decide) rfl ?_
  intro p e s m args below meth c s₁ B hml hv
  obtain ⟨rfl, hH, hK⟩ := hv
  have hx := B.exec
  have hb := B.bytes
  have hr := B.returns
  have hts := atoms_spec (ws := wsX11_readsData) B.pre
  have hown : s.vm.findClass RX11 = some m.cls := findClass_of_methodNamed B.named
  have hlocks := B.notSynchronized
  have h00 : b0 ≤ s.heap.size := hH.1
  have hS : va_S (th_A b0) s.heap s.heap [] := va_S.rf
  have hF : fr [13] E σ σ := fr.rf
  have hM : fm [2, 4, 9, 10, 11, 13, 14, 15, 16, 17, 18, 19, 20, 21, 22] E σ σ a := fm.rf
  have inX11 : ∀ w ∈ wsX110, w ∈ wsX11_readsData := by decide +kernel
  have fl0 := hts (.fieldLink RX11 188 "NestQueryModel" "dataMany" "I") (by decide +kernel)
  have fl1 := hts (.fieldLink RX11 22 "NestQueryModel" "tape" "[I") (by decide +kernel)
  have fl2 := hts (.fieldLink RX11 162 "NestQueryModel" "bad" "I") (by decide +kernel)
  have fl3 := hts (.fieldLink RX11 136 "NestQueryModel" "token" "I") (by decide +kernel)
  have hl := lv_entry ([.ref a, .int (I nn)]) (n := 2) (Nat.le_of_ble_eq_true rfl)
  rw [lg_entry_eq]
  generalize (lg_sl ([.ref a, .int (I nn)]) ++ List.replicate (2 - (lg_sl ([.ref a, .int (I nn)])).length) Slot.unset).toArray = ls at hl ⊢
  have hl : lv_has ls 2 [(0, .ref a), (1, .int (I nn))] := hl
  refine lv_aload_n hx hb dX11_readsData_0 rfl (lv_at hl 0 rfl) ?_
  refine lv_iconst (v := I 0) hx hb dX11_readsData_1 (by decide) ?_
  obtain ⟨z_1, e_2, rz_1, lz_1, uz_1⟩ := hO.gi h_a (by decide) k13_19
  refine ok.putJ hO h_a k13_22 (show rng 0 from ⟨by decide, by decide⟩) (by omega) (by omega) (fun _ he hl9 kk => th_put (ci := 11) (v := .int (I 0)) (ty := .int) (C := RX11) (T := TX11) (N := 66) hx hb hts inX11 tyX11 tyX11_ok nmX11 hown hK hH hS h00 he rfl 22 (by decide) fl0 rfl (by decide +kernel) rfl rfl hl9 dX11_readsData_2 kk) (fun σ_s_3 H locs hO hF9 hM9 hg9 ha9 hH hS => ?_)
  replace hM := hM.tu hM9 (by decide)
  replace hF := hF.tu hF9 (by decide)
  have e_4 : aF σ_s_3 (ad E a 2) = f2 := (hM9.a (by decide) (by decide)).trans ef2
  have e_5 : gI σ_s_3 a 19 = z_1 := (hM9.i (by decide)).trans e_2
  have e_6 := hg9
  refine lv_aload_n hx hb dX11_readsData_5 rfl (lv_at hl 0 rfl) ?_
  refine lv_aload_n hx hb dX11_readsData_6 rfl (lv_at hl 0 rfl) ?_
  refine ok.getR hO h_a (by decide) k13_6 (by decide) (fun _ _ he hv kk => th_get (ci := 11) (C := RX11) (T := TX11) (N := 66) hx hb hts inX11 hown hK hH he rfl 6 (by decide) fl1 hv dX11_readsData_7 kk) ?_
  refine lv_iconst (v := I 0) hx hb dX11_readsData_10 (by decide) ?_
  refine lv_iload_n hx hb dX11_readsData_11 rfl (lv_at hl 1 rfl) ?_
  obtain ⟨_, hc_7⟩ := hO.cell h_a (by decide) (ci := 11) rfl
  refine th_callv (va_runV (As := [.ref (ad E a 6), .int (I 0), .int (I nn)]) (rest := []) ⟨hx, hb, hml, hown, hts⟩ (m_begin6 l G y b0 σ_s_3 E hO a h_a 0 (show rng 0 from (show rng 0 from ⟨by decide, by decide⟩)) (by omega) (by omega) nn (show rng nn from rnn) (by omega) (by omega) (by omega)) (cwV 3 hts gX11_readsData_X11_beginText rfl rfl rfl (by decide +kernel) ⟨Nat.le_of_ble_eq_true rfl, Nat.le_of_ble_eq_true rfl⟩) (th_PV hK hH rfl hc_7) rfl rfl hl.1 rfl (lv_room (Nat.le_of_ble_eq_true rfl)) dX11_readsData_12 ⟨Nat.le_of_ble_eq_true rfl, Nat.le_of_ble_eq_true rfl⟩) hS (fun σ_s_9 H locs hw_8 hH hS => ?_)
  obtain ⟨hO9, hF9, hM9, hw_8⟩ := hw_8
  replace hM := hM.tu hM9 (by decide)
  replace hF := hF.tu hF9 (by decide)
  have e_10 : aF σ_s_9 (ad E a 2) = f2 := (hM9.a (by decide) (by decide)).trans e_4
  have e_11 : gI σ_s_9 a 22 = 0 := (hM9.i (by decide)).trans e_6
  replace hO := hO9
  obtain ⟨Bf, hsr, hw_8⟩ := hw_8
  have hw_8 : gI σ_s_9 a 11 = nn ∧ 0 ≤ gI σ_s_9 a 17 ∧ gI σ_s_9 a 17 ≤ gI σ_s_9 a 13 ∧ gI σ_s_9 a 13 ≤ gI σ_s_9 a 11 ∧ gI σ_s_9 a 19 = 0 := hw_8
  refine lv_aload_n hx hb dX11_readsData_15 rfl (lv_at hl 0 rfl) ?_
  refine lv_iconst (v := I 0) hx hb dX11_readsData_16 (by decide) ?_
  refine lv_iconst (v := I 0) hx hb dX11_readsData_17 (by decide) ?_
  obtain ⟨_, hc_12⟩ := hO.cell h_a (by decide) (ci := 11) rfl
  refine th_callv (va_runV (As := [.int (I 0), .int (I 0)]) (rest := []) ⟨hx, hb, hml, hown, hts⟩ (m_readThing 9 l G y b0 σ_s_9 E hO a h_a 0 (show rng 0 from (show rng 0 from ⟨by decide, by decide⟩)) 0 (show rng 0 from (show rng 0 from ⟨by decide, by decide⟩)) (by omega) (by omega) f2 e_10 Bf hsr (by omega) (by omega) (by omega)) (cwV 2 hts gX11_readsData_X11_readThing rfl rfl rfl (by decide +kernel) ⟨Nat.le_of_ble_eq_true rfl, Nat.le_of_ble_eq_true rfl⟩) (th_PV hK hH rfl hc_12) rfl rfl hl.1 rfl (lv_room (Nat.le_of_ble_eq_true rfl)) dX11_readsData_18 ⟨Nat.le_of_ble_eq_true rfl, Nat.le_of_ble_eq_true rfl⟩) hS (fun σ_s_14 H locs hw_13 hH hS => ?_)
  obtain ⟨hO9, hF9, hM9, hw_13⟩ := hw_13
  replace hM := hM.tu hM9 (by decide)
  replace hF := hF.tu hF9 (by decide)
  replace hsr := hsr.mv hM9 (by decide) (by decide) (by decide) (by decide) (by decide)
  replace hO := hO9
  generalize ef_16 : aF σ_s_14 (ad E a 2) = g_15 at hw_13
  have hw_13 : ((gI σ_s_9 a 13 ≤ gI σ_s_14 a 13 ∧ gI σ_s_14 a 13 ≤ gI σ_s_9 a 11 ∧ 0 ≤ gI σ_s_14 a 17 ∧ gI σ_s_14 a 17 ≤ gI σ_s_14 a 13) ∧ pgo (gI σ_s_14 a 19) (gI σ_s_14 a 14) (gI σ_s_9 a 13) (gI σ_s_14 a 13)) ∧ gI σ_s_9 a 22 ≤ gI σ_s_14 a 22 ∧ (¬ gI σ_s_14 a 19 = 0 ∨ rdT f2 g_15 (gI σ_s_9 a 22) (gI σ_s_14 a 22) 0 0) := hw_13
  refine lv_aload_n hx hb dX11_readsData_21 rfl (lv_at hl 0 rfl) ?_
  refine ok.getI hO h_a (by decide) k13_19 (fun _ _ he hv kk => th_get (ci := 11) (C := RX11) (T := TX11) (N := 66) hx hb hts inX11 hown hK hH he rfl 19 (by decide) fl2 hv dX11_readsData_22 kk) (fun z_17 e_18 rz_17 lz_17 uz_17 => ?_)
  refine lv_if_ne (tgt := 40) hx hb dX11_readsData_25 (by decide) (fun c_19 => ?_) (fun c_19 => ?_)
  · replace c_19 := mt (I_eq (a := z_17) (b := 0) rz_17 (show rng 0 from ⟨by decide, by decide⟩)).mpr c_19
    refine lv_aload_n hx hb dX11_readsData_40 rfl (lv_at hl 0 rfl) ?_
    obtain ⟨z_20, e_21, rz_20, lz_20, uz_20⟩ := hO.gi h_a (by decide) k13_22
    obtain ⟨_, hc_22⟩ := hO.cell h_a (by decide) (ci := 11) rfl
    refine th_calli (va_runV (As := []) (rest := []) ⟨hx, hb, hml, hown, hts⟩ (m_isRead l G y b0 σ_s_14 E hO a h_a) (cwV 0 hts gX11_readsData_X11_isRead rfl rfl rfl (by decide +kernel) ⟨Nat.le_of_ble_eq_true rfl, Nat.le_of_ble_eq_true rfl⟩) (th_PV hK hH rfl hc_22) rfl rfl hl.1 rfl (lv_room (Nat.le_of_ble_eq_true rfl)) dX11_readsData_41 ⟨Nat.le_of_ble_eq_true rfl, Nat.le_of_ble_eq_true rfl⟩) hS (fun z_25 σ_s_24 H locs rz_25 hw_23 hH hS => ?_)
    obtain ⟨hO9, hF9, hM9, bhw_23, hw_23⟩ := hw_23
    replace hM := hM.tu hM9 (by decide)
    replace hF := hF.tu hF9 (by decide)
    have e_26 : aF σ_s_24 (ad E a 2) = g_15 := (hM9.a (by decide) (by decide)).trans ef_16
    have e_27 : gI σ_s_24 a 19 = z_17 := (hM9.i (by decide)).trans e_18
    have e_28 : gI σ_s_24 a 22 = z_20 := (hM9.i (by decide)).trans e_21
    replace hsr := hsr.mv hM9 (by decide) (by decide) (by decide) (by decide) (by decide)
    replace hO := hO9
    have hw_23 : (z_25 = 1 ∧ gI σ_s_14 a 19 = 0) ∨ (z_25 = 0 ∧ ¬ gI σ_s_14 a 19 = 0) := hw_23
    exact th_zret hx hb hr hlocks hH hS (z := z_25) (by omega) ⟨hO, hF, hM, ⟨by omega, by omega⟩, by rw [show aF σ_s_24 (ad E a 2) = g_15 from e_26]; by_cases h7 : z_25 = 0; exact Or.inr h7; have h6 := (hw_13.2.2.resolve_left (by omega)); rw [show gI σ_s_9 a 22 = 0 by omega, show gI σ_s_14 a 22 = gI σ_s_24 a 22 by omega] at h6; exact Or.inl ⟨by omega, h6.toTr (by omega), by have h5 := h6.2.1; omega⟩⟩ dX11_readsData_44
  · replace c_19 := (I_eq (a := z_17) (b := 0) rz_17 (show rng 0 from ⟨by decide, by decide⟩)).mp c_19
    refine lv_aload_n hx hb dX11_readsData_28 rfl (lv_at hl 0 rfl) ?_
    refine ok.getI hO h_a (by decide) k13_14 (fun _ _ he hv kk => th_get (ci := 11) (C := RX11) (T := TX11) (N := 66) hx hb hts inX11 hown hK hH he rfl 14 (by decide) fl3 hv dX11_readsData_29 kk) (fun z_29 e_30 rz_29 lz_29 uz_29 => ?_)
    refine lv_if_eq (tgt := 40) hx hb dX11_readsData_32 (by decide) (fun c_31 => ?_) (fun c_31 => ?_)
    · replace c_31 := (I_eq (a := z_29) (b := 0) rz_29 (show rng 0 from ⟨by decide, by decide⟩)).mp c_31
      refine lv_aload_n hx hb dX11_readsData_40 rfl (lv_at hl 0 rfl) ?_
      obtain ⟨z_32, e_33, rz_32, lz_32, uz_32⟩ := hO.gi h_a (by decide) k13_22
      obtain ⟨_, hc_34⟩ := hO.cell h_a (by decide) (ci := 11) rfl
      refine th_calli (va_runV (As := []) (rest := []) ⟨hx, hb, hml, hown, hts⟩ (m_isRead l G y b0 σ_s_14 E hO a h_a) (cwV 0 hts gX11_readsData_X11_isRead rfl rfl rfl (by decide +kernel) ⟨Nat.le_of_ble_eq_true rfl, Nat.le_of_ble_eq_true rfl⟩) (th_PV hK hH rfl hc_34) rfl rfl hl.1 rfl (lv_room (Nat.le_of_ble_eq_true rfl)) dX11_readsData_41 ⟨Nat.le_of_ble_eq_true rfl, Nat.le_of_ble_eq_true rfl⟩) hS (fun z_37 σ_s_36 H locs rz_37 hw_35 hH hS => ?_)
      obtain ⟨hO9, hF9, hM9, bhw_35, hw_35⟩ := hw_35
      replace hM := hM.tu hM9 (by decide)
      replace hF := hF.tu hF9 (by decide)
      have e_38 : aF σ_s_36 (ad E a 2) = g_15 := (hM9.a (by decide) (by decide)).trans ef_16
      have e_39 : gI σ_s_36 a 19 = z_17 := (hM9.i (by decide)).trans e_18
      have e_40 : gI σ_s_36 a 14 = z_29 := (hM9.i (by decide)).trans e_30
      have e_41 : gI σ_s_36 a 22 = z_32 := (hM9.i (by decide)).trans e_33
      replace hsr := hsr.mv hM9 (by decide) (by decide) (by decide) (by decide) (by decide)
      replace hO := hO9
      have hw_35 : (z_37 = 1 ∧ gI σ_s_14 a 19 = 0) ∨ (z_37 = 0 ∧ ¬ gI σ_s_14 a 19 = 0) := hw_35
      exact th_zret hx hb hr hlocks hH hS (z := z_37) (by omega) ⟨hO, hF, hM, ⟨by omega, by omega⟩, by rw [show aF σ_s_36 (ad E a 2) = g_15 from e_38]; by_cases h7 : z_37 = 0; exact Or.inr h7; have h6 := (hw_13.2.2.resolve_left (by omega)); rw [show gI σ_s_9 a 22 = 0 by omega, show gI σ_s_14 a 22 = gI σ_s_36 a 22 by omega] at h6; exact Or.inl ⟨by omega, h6.toTr (by omega), by have h5 := h6.2.1; omega⟩⟩ dX11_readsData_44
    · replace c_31 := mt (I_eq (a := z_29) (b := 0) rz_29 (show rng 0 from ⟨by decide, by decide⟩)).mpr c_31
      refine lv_aload_n hx hb dX11_readsData_35 rfl (lv_at hl 0 rfl) ?_
      refine lv_iconst (v := I 1) hx hb dX11_readsData_36 (by decide) ?_
      obtain ⟨z_42, e_43, rz_42, lz_42, uz_42⟩ := hO.gi h_a (by decide) k13_22
      obtain ⟨_, hc_44⟩ := hO.cell h_a (by decide) (ci := 11) rfl
      refine th_callv (va_runV (As := [.int (I 1)]) (rest := []) ⟨hx, hb, hml, hown, hts⟩ (m_wrong l G y b0 σ_s_14 E hO a h_a 1 (show rng 1 from (show rng 1 from ⟨by decide, by decide⟩)) (by omega) (by omega)) (cwV 1 hts gX11_readsData_X11_wrong rfl rfl rfl (by decide +kernel) ⟨Nat.le_of_ble_eq_true rfl, Nat.le_of_ble_eq_true rfl⟩) (th_PV hK hH rfl hc_44) rfl rfl hl.1 rfl (lv_room (Nat.le_of_ble_eq_true rfl)) dX11_readsData_37 ⟨Nat.le_of_ble_eq_true rfl, Nat.le_of_ble_eq_true rfl⟩) hS (fun σ_s_46 H locs hw_45 hH hS => ?_)
      obtain ⟨hO9, hF9, hM9, hw_45⟩ := hw_45
      replace hM := hM.tu hM9 (by decide)
      replace hF := hF.tu hF9 (by decide)
      have e_47 : aF σ_s_46 (ad E a 2) = g_15 := (hM9.a (by decide) (by decide)).trans ef_16
      have e_48 : gI σ_s_46 a 14 = z_29 := (hM9.i (by decide)).trans e_30
      have e_49 : gI σ_s_46 a 22 = z_42 := (hM9.i (by decide)).trans e_43
      replace hsr := hsr.mv hM9 (by decide) (by decide) (by decide) (by decide) (by decide)
      replace hO := hO9
      have hw_45 : ¬ gI σ_s_46 a 19 = 0 ∧ (gI σ_s_14 a 19 = 0 ∨ gI σ_s_46 a 19 = gI σ_s_14 a 19) := hw_45
      refine lv_aload_n hx hb dX11_readsData_40 rfl (lv_at hl 0 rfl) ?_
      obtain ⟨z_50, e_51, rz_50, lz_50, uz_50⟩ := hO.gi h_a (by decide) k13_19
      obtain ⟨_, hc_52⟩ := hO.cell h_a (by decide) (ci := 11) rfl
      refine th_calli (va_runV (As := []) (rest := []) ⟨hx, hb, hml, hown, hts⟩ (m_isRead l G y b0 σ_s_46 E hO a h_a) (cwV 0 hts gX11_readsData_X11_isRead rfl rfl rfl (by decide +kernel) ⟨Nat.le_of_ble_eq_true rfl, Nat.le_of_ble_eq_true rfl⟩) (th_PV hK hH rfl hc_52) rfl rfl hl.1 rfl (lv_room (Nat.le_of_ble_eq_true rfl)) dX11_readsData_41 ⟨Nat.le_of_ble_eq_true rfl, Nat.le_of_ble_eq_true rfl⟩) hS (fun z_55 σ_s_54 H locs rz_55 hw_53 hH hS => ?_)
      obtain ⟨hO9, hF9, hM9, bhw_53, hw_53⟩ := hw_53
      replace hM := hM.tu hM9 (by decide)
      replace hF := hF.tu hF9 (by decide)
      have e_56 : aF σ_s_54 (ad E a 2) = g_15 := (hM9.a (by decide) (by decide)).trans e_47
      have e_57 : gI σ_s_54 a 14 = z_29 := (hM9.i (by decide)).trans e_48
      have e_58 : gI σ_s_54 a 22 = z_42 := (hM9.i (by decide)).trans e_49
      have e_59 : gI σ_s_54 a 19 = z_50 := (hM9.i (by decide)).trans e_51
      replace hsr := hsr.mv hM9 (by decide) (by decide) (by decide) (by decide) (by decide)
      replace hO := hO9
      have hw_53 : (z_55 = 1 ∧ gI σ_s_46 a 19 = 0) ∨ (z_55 = 0 ∧ ¬ gI σ_s_46 a 19 = 0) := hw_53
      exact th_zret hx hb hr hlocks hH hS (z := z_55) (by omega) ⟨hO, hF, hM, ⟨by omega, by omega⟩, by rw [show aF σ_s_54 (ad E a 2) = g_15 from e_56]; by_cases h7 : z_55 = 0; exact Or.inr h7; have h6 := (hw_13.2.2.resolve_left (by omega)); rw [show gI σ_s_9 a 22 = 0 by omega, show gI σ_s_14 a 22 = gI σ_s_54 a 22 by omega] at h6; exact Or.inl ⟨by omega, h6.toTr (by omega), by have h5 := h6.2.1; omega⟩⟩ dX11_readsData_44

set_option maxHeartbeats 4000000 in
set_option maxRecDepth 100000 in
theorem w_copy61_1 (l : Launch) (G : va_G) (y : Nat → ClassId) (b0 : Nat) (σ : th_M) (E : th_E) (hO : ok y E σ) (a : Nat) (h_a : kd E a = 13) (f61 : Nat → Int32) (ef61 : aF σ (ad E a 61) = f61) (f1 : Nat → Int32) (ef1 : aF σ (ad E a 1) = f1) : Met l yX11_copyTo wsX11_copyTo ({ frames := 0, cells := 0, slots := 0, locals := 0 }) (th_P G y b0 σ [.ref (ad E a 61), .ref (ad E a 1)]) (th_Qv G b0 (fun σ1 => ok y E σ1 ∧ fr [13] E σ σ1 ∧ fm [61] E σ σ1 a ∧ (cel 240 f1 (aF σ1 (ad E a 61))))) 0 0 (th_A b0) := by
  refine Met.ofW (cc := cX11_copyTo) (maxL := 3) (ret := none) (by decide) rfl ?_
  intro p e s m args below meth c s₁ B hml hv
  obtain ⟨rfl, hH, hK⟩ := hv
  have hx := B.exec
  have hb := B.bytes
  have hr := B.returns
  have hts := atoms_spec (ws := wsX11_copyTo) B.pre
  have hown : s.vm.findClass RX11 = some m.cls := findClass_of_methodNamed B.named
  have hlocks := B.notSynchronized
  have h00 : b0 ≤ s.heap.size := hH.1
  have hS : va_S (th_A b0) s.heap s.heap [] := va_S.rf
  have hF : fr [13] E σ σ := fr.rf
  have hM : fm [61] E σ σ a := fm.rf
  have hl := lv_entry ([.ref (ad E a 61), .ref (ad E a 1)]) (n := 3) (Nat.le_of_ble_eq_true rfl)
  rw [lg_entry_eq]
  generalize (lg_sl ([.ref (ad E a 61), .ref (ad E a 1)]) ++ List.replicate (3 - (lg_sl ([.ref (ad E a 61), .ref (ad E a 1)])).length) Slot.unset).toArray = ls at hl ⊢
  have hl : lv_has ls 3 [(0, .ref (ad E a 61)), (1, .ref (ad E a 1))] := hl
  refine lv_iconst (v := I 0) hx hb dX11_copyTo_0 (by decide) ?_
  refine lv_istore_n (lv' := [(2, .int (I 0)), (0, .ref (ad E a 61)), (1, .ref (ad E a 1))]) hx hb dX11_copyTo_1 rfl hl (by decide) rfl (fun ls hl => ?_)
  refine th_loop (α := Int × (Nat → Int32)) (pc := 2) (fun x9 => (240 - x9.1).toNat) (fun x9 σ9 H9 l9 ls9 => ok y E σ9 ∧ fr [13] E σ σ9 ∧ fm [61] E σ σ9 a ∧ th_H G b0 σ9 H9 ∧ va_S (th_A b0) s.heap H9 l9 ∧ lv_has ls9 3 [(0, .ref (ad E a 61)), (1, .ref (ad E a 1)), (2, .int (I x9.1))] ∧ rng x9.1 ∧ (0 ≤ x9.1) ∧ (x9.1 ≤ 240) ∧ (cpd f61 x9.2 f1 0 0 x9.1) ∧ (aF σ9 (ad E a 1) = f1) ∧ (aF σ9 (ad E a 61) = x9.2)) ?_ (0, f61) σ _ _ _ ⟨hO, hF, hM, hH, hS, lv_sub hl [1, 2, 0] rfl, (show rng 0 from ⟨by decide, by decide⟩), by first | (dsimp only; omega) | omega, by first | (dsimp only; omega) | omega, cpd.zero, ef1, ef61⟩
  intro x9 σ_J_21 H locs ls hI9 ihJ_21
  obtain ⟨v2q20, F61q19⟩ := x9
  obtain ⟨hO, hF, hM, hH, hS, hl, rv2q20, J_21_0, J_21_1, J_21_2, J_21_3, J_21_4⟩ := hI9
  have hl : lv_has ls 3 [(0, .ref (ad E a 61)), (1, .ref (ad E a 1)), (2, .int (I v2q20))] := hl
  have rv2q20 : rng v2q20 := rv2q20
  have J_21_0 : 0 ≤ v2q20 := J_21_0
  have J_21_1 : v2q20 ≤ 240 := J_21_1
  have J_21_2 : cpd f61 F61q19 f1 0 0 v2q20 := J_21_2
  have J_21_3 : aF σ_J_21 (ad E a 1) = f1 := J_21_3
  have J_21_4 : aF σ_J_21 (ad E a 61) = F61q19 := J_21_4
  refine lv_iload_n hx hb dX11_copyTo_2 rfl (lv_at hl 2 rfl) ?_
  refine lv_aload_n hx hb dX11_copyTo_3 rfl (lv_at hl 0 rfl) ?_
  refine ok_alen hx hb hK hH hO h_a (by decide) k13_61 isA1 (by decide) dX11_copyTo_4 ?_
  refine lv_icmp_ge (tgt := 20) hx hb dX11_copyTo_5 (by decide) (fun c_22 => ?_) (fun c_22 => ?_)
  · replace c_22 := (I_le (a := 240) (b := v2q20) (show rng 240 from ⟨by decide, by decide⟩) rv2q20).mp c_22
    exact th_vret hx hb hr hlocks hH hS ⟨hO, hF, hM, by rw [show aF σ_J_21 (ad E a 61) = F61q19 from J_21_4]; exact cel.of (J_21_2) (by omega)⟩ dX11_copyTo_20
  · replace c_22 := mt (I_le (a := 240) (b := v2q20) (show rng 240 from ⟨by decide, by decide⟩) rv2q20).mpr c_22
    refine lv_aload_n hx hb dX11_copyTo_8 rfl (lv_at hl 0 rfl) ?_
    refine lv_iload_n hx hb dX11_copyTo_9 rfl (lv_at hl 2 rfl) ?_
    refine lv_aload_n hx hb dX11_copyTo_10 rfl (lv_at hl 1 rfl) ?_
    refine lv_iload_n hx hb dX11_copyTo_11 rfl (lv_at hl 2 rfl) ?_
    refine m_iald hx hb hK hH hO h_a k13_1 isA1 J_21_3 rv2q20 (by omega) (by omega) dX11_copyTo_12 (fun z_23 ez_23 rz_23 elx9 => ?_)
    refine m_iast hx hb hK hH hS h00 hO h_a k13_61 isA1 (by decide) J_21_4 rv2q20 (by omega) (by omega) rz_23 el1 dX11_copyTo_13 (fun σ_s_24 H locs hO hF9 hM9 ha9 hH hS => ?_)
    replace hM := hM.tu hM9 (by decide)
    replace hF := hF.tu hF9 (by decide)
    have e_25 : aF σ_s_24 (ad E a 1) = f1 := (hM9.a (by decide) (by decide)).trans J_21_3
    obtain ⟨g_26, dg_26⟩ : ∃ g9, g9 = upd F61q19 (v2q20).toNat (I z_23) := ⟨_, rfl⟩
    rw [← dg_26] at ha9
    have ef_27 := ha9
    refine lv_iinc (v := I (v2q20 + 1)) (lv' := [(2, .int (I (v2q20 + 1))), (0, .ref (ad E a 61)), (1, .ref (ad E a 1))]) hx hb dX11_copyTo_14 hl (k := 2) rfl (I_add _ _) (by decide) rfl (fun ls hl => ?_)
    refine lv_goto (tgt := 2) hx hb dX11_copyTo_17 (by decide) ?_
    exact ihJ_21 (v2q20 + 1, g_26) σ_s_24 _ _ _ (by first | (dsimp only; omega) | omega) ⟨hO, hF, hM, hH, hS, lv_sub hl [1, 2, 0] rfl, ⟨by first | (dsimp only; omega) | omega, by first | (dsimp only; omega) | omega⟩, by first | (dsimp only; omega) | omega, by first | (dsimp only; omega) | omega, (J_21_2.step dg_26 (by first | (dsimp only; omega) | omega) ez_23 (by first | (dsimp only; omega) | omega) (by first | (dsimp only; omega) | omega) (by first | (dsimp only; omega) | omega)), e_25, ef_27⟩

set_option maxHeartbeats 4000000 in
set_option maxRecDepth 100000 in
theorem w_copy62_37 (l : Launch) (G : va_G) (y : Nat → ClassId) (b0 : Nat) (σ : th_M) (E : th_E) (hO : ok y E σ) (a : Nat) (h_a : kd E a = 13) (f62 : Nat → Int32) (ef62 : aF σ (ad E a 62) = f62) (f37 : Nat → Int32) (ef37 : aF σ (ad E a 37) = f37) : Met l yX11_copyTo wsX11_copyTo ({ frames := 0, cells := 0, slots := 0, locals := 0 }) (th_P G y b0 σ [.ref (ad E a 62), .ref (ad E a 37)]) (th_Qv G b0 (fun σ1 => ok y E σ1 ∧ fr [13] E σ σ1 ∧ fm [62] E σ σ1 a ∧ (cel 9600 f37 (aF σ1 (ad E a 62))))) 0 0 (th_A b0) := by
  refine Met.ofW (cc := cX11_copyTo) (maxL := 3) (ret := none) (by decide) rfl ?_
  intro p e s m args below meth c s₁ B hml hv
  obtain ⟨rfl, hH, hK⟩ := hv
  have hx := B.exec
  have hb := B.bytes
  have hr := B.returns
  have hts := atoms_spec (ws := wsX11_copyTo) B.pre
  have hown : s.vm.findClass RX11 = some m.cls := findClass_of_methodNamed B.named
  have hlocks := B.notSynchronized
  have h00 : b0 ≤ s.heap.size := hH.1
  have hS : va_S (th_A b0) s.heap s.heap [] := va_S.rf
  have hF : fr [13] E σ σ := fr.rf
  have hM : fm [62] E σ σ a := fm.rf
  have hl := lv_entry ([.ref (ad E a 62), .ref (ad E a 37)]) (n := 3) (Nat.le_of_ble_eq_true rfl)
  rw [lg_entry_eq]
  generalize (lg_sl ([.ref (ad E a 62), .ref (ad E a 37)]) ++ List.replicate (3 - (lg_sl ([.ref (ad E a 62), .ref (ad E a 37)])).length) Slot.unset).toArray = ls at hl ⊢
  have hl : lv_has ls 3 [(0, .ref (ad E a 62)), (1, .ref (ad E a 37))] := hl
  refine lv_iconst (v := I 0) hx hb dX11_copyTo_0 (by decide) ?_
  refine lv_istore_n (lv' := [(2, .int (I 0)), (0, .ref (ad E a 62)), (1, .ref (ad E a 37))]) hx hb dX11_copyTo_1 rfl hl (by decide) rfl (fun ls hl => ?_)
  refine th_loop (α := Int × (Nat → Int32)) (pc := 2) (fun x9 => (9600 - x9.1).toNat) (fun x9 σ9 H9 l9 ls9 => ok y E σ9 ∧ fr [13] E σ σ9 ∧ fm [62] E σ σ9 a ∧ th_H G b0 σ9 H9 ∧ va_S (th_A b0) s.heap H9 l9 ∧ lv_has ls9 3 [(0, .ref (ad E a 62)), (1, .ref (ad E a 37)), (2, .int (I x9.1))] ∧ rng x9.1 ∧ (0 ≤ x9.1) ∧ (x9.1 ≤ 9600) ∧ (cpd f62 x9.2 f37 0 0 x9.1) ∧ (aF σ9 (ad E a 37) = f37) ∧ (aF σ9 (ad E a 62) = x9.2)) ?_ (0, f62) σ _ _ _ ⟨hO, hF, hM, hH, hS, lv_sub hl [1, 2, 0] rfl, (show rng 0 from ⟨by decide, by decide⟩), by first | (dsimp only; omega) | omega, by first | (dsimp only; omega) | omega, cpd.zero, ef37, ef62⟩
  intro x9 σ_J_21 H locs ls hI9 ihJ_21
  obtain ⟨v2q20, F62q19⟩ := x9
  obtain ⟨hO, hF, hM, hH, hS, hl, rv2q20, J_21_0, J_21_1, J_21_2, J_21_3, J_21_4⟩ := hI9
  have hl : lv_has ls 3 [(0, .ref (ad E a 62)), (1, .ref (ad E a 37)), (2, .int (I v2q20))] := hl
  have rv2q20 : rng v2q20 := rv2q20
  have J_21_0 : 0 ≤ v2q20 := J_21_0
  have J_21_1 : v2q20 ≤ 9600 := J_21_1
  have J_21_2 : cpd f62 F62q19 f37 0 0 v2q20 := J_21_2
  have J_21_3 : aF σ_J_21 (ad E a 37) = f37 := J_21_3
  have J_21_4 : aF σ_J_21 (ad E a 62) = F62q19 := J_21_4
  refine lv_iload_n hx hb dX11_copyTo_2 rfl (lv_at hl 2 rfl) ?_
  refine lv_aload_n hx hb dX11_copyTo_3 rfl (lv_at hl 0 rfl) ?_
  refine ok_alen hx hb hK hH hO h_a (by decide) k13_62 isA1 (by decide) dX11_copyTo_4 ?_
  refine lv_icmp_ge (tgt := 20) hx hb dX11_copyTo_5 (by decide) (fun c_22 => ?_) (fun c_22 => ?_)
  · replace c_22 := (I_le (a := 9600) (b := v2q20) (show rng 9600 from ⟨by decide, by decide⟩) rv2q20).mp c_22
    exact th_vret hx hb hr hlocks hH hS ⟨hO, hF, hM, by rw [show aF σ_J_21 (ad E a 62) = F62q19 from J_21_4]; exact cel.of (J_21_2) (by omega)⟩ dX11_copyTo_20
  · replace c_22 := mt (I_le (a := 9600) (b := v2q20) (show rng 9600 from ⟨by decide, by decide⟩) rv2q20).mpr c_22
    refine lv_aload_n hx hb dX11_copyTo_8 rfl (lv_at hl 0 rfl) ?_
    refine lv_iload_n hx hb dX11_copyTo_9 rfl (lv_at hl 2 rfl) ?_
    refine lv_aload_n hx hb dX11_copyTo_10 rfl (lv_at hl 1 rfl) ?_
    refine lv_iload_n hx hb dX11_copyTo_11 rfl (lv_at hl 2 rfl) ?_
    refine m_iald hx hb hK hH hO h_a k13_37 isA1 J_21_3 rv2q20 (by omega) (by omega) dX11_copyTo_12 (fun z_23 ez_23 rz_23 elx9 => ?_)
    refine m_iast hx hb hK hH hS h00 hO h_a k13_62 isA1 (by decide) J_21_4 rv2q20 (by omega) (by omega) rz_23 el1 dX11_copyTo_13 (fun σ_s_24 H locs hO hF9 hM9 ha9 hH hS => ?_)
    replace hM := hM.tu hM9 (by decide)
    replace hF := hF.tu hF9 (by decide)
    have e_25 : aF σ_s_24 (ad E a 37) = f37 := (hM9.a (by decide) (by decide)).trans J_21_3
    obtain ⟨g_26, dg_26⟩ : ∃ g9, g9 = upd F62q19 (v2q20).toNat (I z_23) := ⟨_, rfl⟩
    rw [← dg_26] at ha9
    have ef_27 := ha9
    refine lv_iinc (v := I (v2q20 + 1)) (lv' := [(2, .int (I (v2q20 + 1))), (0, .ref (ad E a 62)), (1, .ref (ad E a 37))]) hx hb dX11_copyTo_14 hl (k := 2) rfl (I_add _ _) (by decide) rfl (fun ls hl => ?_)
    refine lv_goto (tgt := 2) hx hb dX11_copyTo_17 (by decide) ?_
    exact ihJ_21 (v2q20 + 1, g_26) σ_s_24 _ _ _ (by first | (dsimp only; omega) | omega) ⟨hO, hF, hM, hH, hS, lv_sub hl [1, 2, 0] rfl, ⟨by first | (dsimp only; omega) | omega, by first | (dsimp only; omega) | omega⟩, by first | (dsimp only; omega) | omega, by first | (dsimp only; omega) | omega, (J_21_2.step dg_26 (by first | (dsimp only; omega) | omega) ez_23 (by first | (dsimp only; omega) | omega) (by first | (dsimp only; omega) | omega) (by first | (dsimp only; omega) | omega)), e_25, ef_27⟩

set_option maxHeartbeats 4000000 in
set_option maxRecDepth 100000 in
theorem w_copy63_52 (l : Launch) (G : va_G) (y : Nat → ClassId) (b0 : Nat) (σ : th_M) (E : th_E) (hO : ok y E σ) (a : Nat) (h_a : kd E a = 13) (f63 : Nat → Int32) (ef63 : aF σ (ad E a 63) = f63) (f52 : Nat → Int32) (ef52 : aF σ (ad E a 52) = f52) : Met l yX11_copyTo wsX11_copyTo ({ frames := 0, cells := 0, slots := 0, locals := 0 }) (th_P G y b0 σ [.ref (ad E a 63), .ref (ad E a 52)]) (th_Qv G b0 (fun σ1 => ok y E σ1 ∧ fr [13] E σ σ1 ∧ fm [63] E σ σ1 a ∧ (cel 8 f52 (aF σ1 (ad E a 63))))) 0 0 (th_A b0) := by
  refine Met.ofW (cc := cX11_copyTo) (maxL := 3) (ret := none) (by decide) rfl ?_
  intro p e s m args below meth c s₁ B hml hv
  obtain ⟨rfl, hH, hK⟩ := hv
  have hx := B.exec
  have hb := B.bytes
  have hr := B.returns
  have hts := atoms_spec (ws := wsX11_copyTo) B.pre
  have hown : s.vm.findClass RX11 = some m.cls := findClass_of_methodNamed B.named
  have hlocks := B.notSynchronized
  have h00 : b0 ≤ s.heap.size := hH.1
  have hS : va_S (th_A b0) s.heap s.heap [] := va_S.rf
  have hF : fr [13] E σ σ := fr.rf
  have hM : fm [63] E σ σ a := fm.rf
  have hl := lv_entry ([.ref (ad E a 63), .ref (ad E a 52)]) (n := 3) (Nat.le_of_ble_eq_true rfl)
  rw [lg_entry_eq]
  generalize (lg_sl ([.ref (ad E a 63), .ref (ad E a 52)]) ++ List.replicate (3 - (lg_sl ([.ref (ad E a 63), .ref (ad E a 52)])).length) Slot.unset).toArray = ls at hl ⊢
  have hl : lv_has ls 3 [(0, .ref (ad E a 63)), (1, .ref (ad E a 52))] := hl
  refine lv_iconst (v := I 0) hx hb dX11_copyTo_0 (by decide) ?_
  refine lv_istore_n (lv' := [(2, .int (I 0)), (0, .ref (ad E a 63)), (1, .ref (ad E a 52))]) hx hb dX11_copyTo_1 rfl hl (by decide) rfl (fun ls hl => ?_)
  refine th_loop (α := Int × (Nat → Int32)) (pc := 2) (fun x9 => (8 - x9.1).toNat) (fun x9 σ9 H9 l9 ls9 => ok y E σ9 ∧ fr [13] E σ σ9 ∧ fm [63] E σ σ9 a ∧ th_H G b0 σ9 H9 ∧ va_S (th_A b0) s.heap H9 l9 ∧ lv_has ls9 3 [(0, .ref (ad E a 63)), (1, .ref (ad E a 52)), (2, .int (I x9.1))] ∧ rng x9.1 ∧ (0 ≤ x9.1) ∧ (x9.1 ≤ 8) ∧ (cpd f63 x9.2 f52 0 0 x9.1) ∧ (aF σ9 (ad E a 52) = f52) ∧ (aF σ9 (ad E a 63) = x9.2)) ?_ (0, f63) σ _ _ _ ⟨hO, hF, hM, hH, hS, lv_sub hl [1, 2, 0] rfl, (show rng 0 from ⟨by decide, by decide⟩), by first | (dsimp only; omega) | omega, by first | (dsimp only; omega) | omega, cpd.zero, ef52, ef63⟩
  intro x9 σ_J_21 H locs ls hI9 ihJ_21
  obtain ⟨v2q20, F63q19⟩ := x9
  obtain ⟨hO, hF, hM, hH, hS, hl, rv2q20, J_21_0, J_21_1, J_21_2, J_21_3, J_21_4⟩ := hI9
  have hl : lv_has ls 3 [(0, .ref (ad E a 63)), (1, .ref (ad E a 52)), (2, .int (I v2q20))] := hl
  have rv2q20 : rng v2q20 := rv2q20
  have J_21_0 : 0 ≤ v2q20 := J_21_0
  have J_21_1 : v2q20 ≤ 8 := J_21_1
  have J_21_2 : cpd f63 F63q19 f52 0 0 v2q20 := J_21_2
  have J_21_3 : aF σ_J_21 (ad E a 52) = f52 := J_21_3
  have J_21_4 : aF σ_J_21 (ad E a 63) = F63q19 := J_21_4
  refine lv_iload_n hx hb dX11_copyTo_2 rfl (lv_at hl 2 rfl) ?_
  refine lv_aload_n hx hb dX11_copyTo_3 rfl (lv_at hl 0 rfl) ?_
  refine ok_alen hx hb hK hH hO h_a (by decide) k13_63 isA9 (by decide) dX11_copyTo_4 ?_
  refine lv_icmp_ge (tgt := 20) hx hb dX11_copyTo_5 (by decide) (fun c_22 => ?_) (fun c_22 => ?_)
  · replace c_22 := (I_le (a := 8) (b := v2q20) (show rng 8 from ⟨by decide, by decide⟩) rv2q20).mp c_22
    exact th_vret hx hb hr hlocks hH hS ⟨hO, hF, hM, by rw [show aF σ_J_21 (ad E a 63) = F63q19 from J_21_4]; exact cel.of (J_21_2) (by omega)⟩ dX11_copyTo_20
  · replace c_22 := mt (I_le (a := 8) (b := v2q20) (show rng 8 from ⟨by decide, by decide⟩) rv2q20).mpr c_22
    refine lv_aload_n hx hb dX11_copyTo_8 rfl (lv_at hl 0 rfl) ?_
    refine lv_iload_n hx hb dX11_copyTo_9 rfl (lv_at hl 2 rfl) ?_
    refine lv_aload_n hx hb dX11_copyTo_10 rfl (lv_at hl 1 rfl) ?_
    refine lv_iload_n hx hb dX11_copyTo_11 rfl (lv_at hl 2 rfl) ?_
    refine m_iald hx hb hK hH hO h_a k13_52 isA9 J_21_3 rv2q20 (by omega) (by omega) dX11_copyTo_12 (fun z_23 ez_23 rz_23 elx9 => ?_)
    have uz_23 := elx9.2.1 rfl
    refine m_iast hx hb hK hH hS h00 hO h_a k13_63 isA9 (by decide) J_21_4 rv2q20 (by omega) (by omega) rz_23 (el9 (by omega) (by omega)) dX11_copyTo_13 (fun σ_s_24 H locs hO hF9 hM9 ha9 hH hS => ?_)
    replace hM := hM.tu hM9 (by decide)
    replace hF := hF.tu hF9 (by decide)
    have e_25 : aF σ_s_24 (ad E a 52) = f52 := (hM9.a (by decide) (by decide)).trans J_21_3
    obtain ⟨g_26, dg_26⟩ : ∃ g9, g9 = upd F63q19 (v2q20).toNat (I z_23) := ⟨_, rfl⟩
    rw [← dg_26] at ha9
    have ef_27 := ha9
    refine lv_iinc (v := I (v2q20 + 1)) (lv' := [(2, .int (I (v2q20 + 1))), (0, .ref (ad E a 63)), (1, .ref (ad E a 52))]) hx hb dX11_copyTo_14 hl (k := 2) rfl (I_add _ _) (by decide) rfl (fun ls hl => ?_)
    refine lv_goto (tgt := 2) hx hb dX11_copyTo_17 (by decide) ?_
    exact ihJ_21 (v2q20 + 1, g_26) σ_s_24 _ _ _ (by first | (dsimp only; omega) | omega) ⟨hO, hF, hM, hH, hS, lv_sub hl [1, 2, 0] rfl, ⟨by first | (dsimp only; omega) | omega, by first | (dsimp only; omega) | omega⟩, by first | (dsimp only; omega) | omega, by first | (dsimp only; omega) | omega, (J_21_2.step dg_26 (by first | (dsimp only; omega) | omega) ez_23 (by first | (dsimp only; omega) | omega) (by first | (dsimp only; omega) | omega) (by first | (dsimp only; omega) | omega)), e_25, ef_27⟩

set_option maxHeartbeats 4000000 in
set_option maxRecDepth 100000 in
theorem w_copy64_53 (l : Launch) (G : va_G) (y : Nat → ClassId) (b0 : Nat) (σ : th_M) (E : th_E) (hO : ok y E σ) (a : Nat) (h_a : kd E a = 13) (f64 : Nat → Int32) (ef64 : aF σ (ad E a 64) = f64) (f53 : Nat → Int32) (ef53 : aF σ (ad E a 53) = f53) : Met l yX11_copyTo wsX11_copyTo ({ frames := 0, cells := 0, slots := 0, locals := 0 }) (th_P G y b0 σ [.ref (ad E a 64), .ref (ad E a 53)]) (th_Qv G b0 (fun σ1 => ok y E σ1 ∧ fr [13] E σ σ1 ∧ fm [64] E σ σ1 a ∧ (cel 8 f53 (aF σ1 (ad E a 64))))) 0 0 (th_A b0) := by
  refine Met.ofW (cc := cX11_copyTo) (maxL := 3) (ret := none) (by decide) rfl ?_
  intro p e s m args below meth c s₁ B hml hv
  obtain ⟨rfl, hH, hK⟩ := hv
  have hx := B.exec
  have hb := B.bytes
  have hr := B.returns
  have hts := atoms_spec (ws := wsX11_copyTo) B.pre
  have hown : s.vm.findClass RX11 = some m.cls := findClass_of_methodNamed B.named
  have hlocks := B.notSynchronized
  have h00 : b0 ≤ s.heap.size := hH.1
  have hS : va_S (th_A b0) s.heap s.heap [] := va_S.rf
  have hF : fr [13] E σ σ := fr.rf
  have hM : fm [64] E σ σ a := fm.rf
  have hl := lv_entry ([.ref (ad E a 64), .ref (ad E a 53)]) (n := 3) (Nat.le_of_ble_eq_true rfl)
  rw [lg_entry_eq]
  generalize (lg_sl ([.ref (ad E a 64), .ref (ad E a 53)]) ++ List.replicate (3 - (lg_sl ([.ref (ad E a 64), .ref (ad E a 53)])).length) Slot.unset).toArray = ls at hl ⊢
  have hl : lv_has ls 3 [(0, .ref (ad E a 64)), (1, .ref (ad E a 53))] := hl
  refine lv_iconst (v := I 0) hx hb dX11_copyTo_0 (by decide) ?_
  refine lv_istore_n (lv' := [(2, .int (I 0)), (0, .ref (ad E a 64)), (1, .ref (ad E a 53))]) hx hb dX11_copyTo_1 rfl hl (by decide) rfl (fun ls hl => ?_)
  refine th_loop (α := Int × (Nat → Int32)) (pc := 2) (fun x9 => (8 - x9.1).toNat) (fun x9 σ9 H9 l9 ls9 => ok y E σ9 ∧ fr [13] E σ σ9 ∧ fm [64] E σ σ9 a ∧ th_H G b0 σ9 H9 ∧ va_S (th_A b0) s.heap H9 l9 ∧ lv_has ls9 3 [(0, .ref (ad E a 64)), (1, .ref (ad E a 53)), (2, .int (I x9.1))] ∧ rng x9.1 ∧ (0 ≤ x9.1) ∧ (x9.1 ≤ 8) ∧ (cpd f64 x9.2 f53 0 0 x9.1) ∧ (aF σ9 (ad E a 53) = f53) ∧ (aF σ9 (ad E a 64) = x9.2)) ?_ (0, f64) σ _ _ _ ⟨hO, hF, hM, hH, hS, lv_sub hl [1, 2, 0] rfl, (show rng 0 from ⟨by decide, by decide⟩), by first | (dsimp only; omega) | omega, by first | (dsimp only; omega) | omega, cpd.zero, ef53, ef64⟩
  intro x9 σ_J_21 H locs ls hI9 ihJ_21
  obtain ⟨v2q20, F64q19⟩ := x9
  obtain ⟨hO, hF, hM, hH, hS, hl, rv2q20, J_21_0, J_21_1, J_21_2, J_21_3, J_21_4⟩ := hI9
  have hl : lv_has ls 3 [(0, .ref (ad E a 64)), (1, .ref (ad E a 53)), (2, .int (I v2q20))] := hl
  have rv2q20 : rng v2q20 := rv2q20
  have J_21_0 : 0 ≤ v2q20 := J_21_0
  have J_21_1 : v2q20 ≤ 8 := J_21_1
  have J_21_2 : cpd f64 F64q19 f53 0 0 v2q20 := J_21_2
  have J_21_3 : aF σ_J_21 (ad E a 53) = f53 := J_21_3
  have J_21_4 : aF σ_J_21 (ad E a 64) = F64q19 := J_21_4
  refine lv_iload_n hx hb dX11_copyTo_2 rfl (lv_at hl 2 rfl) ?_
  refine lv_aload_n hx hb dX11_copyTo_3 rfl (lv_at hl 0 rfl) ?_
  refine ok_alen hx hb hK hH hO h_a (by decide) k13_64 isA1 (by decide) dX11_copyTo_4 ?_
  refine lv_icmp_ge (tgt := 20) hx hb dX11_copyTo_5 (by decide) (fun c_22 => ?_) (fun c_22 => ?_)
  · replace c_22 := (I_le (a := 8) (b := v2q20) (show rng 8 from ⟨by decide, by decide⟩) rv2q20).mp c_22
    exact th_vret hx hb hr hlocks hH hS ⟨hO, hF, hM, by rw [show aF σ_J_21 (ad E a 64) = F64q19 from J_21_4]; exact cel.of (J_21_2) (by omega)⟩ dX11_copyTo_20
  · replace c_22 := mt (I_le (a := 8) (b := v2q20) (show rng 8 from ⟨by decide, by decide⟩) rv2q20).mpr c_22
    refine lv_aload_n hx hb dX11_copyTo_8 rfl (lv_at hl 0 rfl) ?_
    refine lv_iload_n hx hb dX11_copyTo_9 rfl (lv_at hl 2 rfl) ?_
    refine lv_aload_n hx hb dX11_copyTo_10 rfl (lv_at hl 1 rfl) ?_
    refine lv_iload_n hx hb dX11_copyTo_11 rfl (lv_at hl 2 rfl) ?_
    refine m_iald hx hb hK hH hO h_a k13_53 isA1 J_21_3 rv2q20 (by omega) (by omega) dX11_copyTo_12 (fun z_23 ez_23 rz_23 elx9 => ?_)
    refine m_iast hx hb hK hH hS h00 hO h_a k13_64 isA1 (by decide) J_21_4 rv2q20 (by omega) (by omega) rz_23 el1 dX11_copyTo_13 (fun σ_s_24 H locs hO hF9 hM9 ha9 hH hS => ?_)
    replace hM := hM.tu hM9 (by decide)
    replace hF := hF.tu hF9 (by decide)
    have e_25 : aF σ_s_24 (ad E a 53) = f53 := (hM9.a (by decide) (by decide)).trans J_21_3
    obtain ⟨g_26, dg_26⟩ : ∃ g9, g9 = upd F64q19 (v2q20).toNat (I z_23) := ⟨_, rfl⟩
    rw [← dg_26] at ha9
    have ef_27 := ha9
    refine lv_iinc (v := I (v2q20 + 1)) (lv' := [(2, .int (I (v2q20 + 1))), (0, .ref (ad E a 64)), (1, .ref (ad E a 53))]) hx hb dX11_copyTo_14 hl (k := 2) rfl (I_add _ _) (by decide) rfl (fun ls hl => ?_)
    refine lv_goto (tgt := 2) hx hb dX11_copyTo_17 (by decide) ?_
    exact ihJ_21 (v2q20 + 1, g_26) σ_s_24 _ _ _ (by first | (dsimp only; omega) | omega) ⟨hO, hF, hM, hH, hS, lv_sub hl [1, 2, 0] rfl, ⟨by first | (dsimp only; omega) | omega, by first | (dsimp only; omega) | omega⟩, by first | (dsimp only; omega) | omega, by first | (dsimp only; omega) | omega, (J_21_2.step dg_26 (by first | (dsimp only; omega) | omega) ez_23 (by first | (dsimp only; omega) | omega) (by first | (dsimp only; omega) | omega) (by first | (dsimp only; omega) | omega)), e_25, ef_27⟩

set_option maxHeartbeats 4000000 in
set_option maxRecDepth 100000 in
theorem w_copy65_4 (l : Launch) (G : va_G) (y : Nat → ClassId) (b0 : Nat) (σ : th_M) (E : th_E) (hO : ok y E σ) (a : Nat) (h_a : kd E a = 13) (f65 : Nat → Int32) (ef65 : aF σ (ad E a 65) = f65) (f4 : Nat → Int32) (ef4 : aF σ (ad E a 4) = f4) : Met l yX11_copyTo wsX11_copyTo ({ frames := 0, cells := 0, slots := 0, locals := 0 }) (th_P G y b0 σ [.ref (ad E a 65), .ref (ad E a 4)]) (th_Qv G b0 (fun σ1 => ok y E σ1 ∧ fr [13] E σ σ1 ∧ fm [65] E σ σ1 a ∧ (cel 3 f4 (aF σ1 (ad E a 65))))) 0 0 (th_A b0) := by
  refine Met.ofW (cc := cX11_copyTo) (maxL := 3) (ret := none) (by decide) rfl ?_
  intro p e s m args below meth c s₁ B hml hv
  obtain ⟨rfl, hH, hK⟩ := hv
  have hx := B.exec
  have hb := B.bytes
  have hr := B.returns
  have hts := atoms_spec (ws := wsX11_copyTo) B.pre
  have hown : s.vm.findClass RX11 = some m.cls := findClass_of_methodNamed B.named
  have hlocks := B.notSynchronized
  have h00 : b0 ≤ s.heap.size := hH.1
  have hS : va_S (th_A b0) s.heap s.heap [] := va_S.rf
  have hF : fr [13] E σ σ := fr.rf
  have hM : fm [65] E σ σ a := fm.rf
  have hl := lv_entry ([.ref (ad E a 65), .ref (ad E a 4)]) (n := 3) (Nat.le_of_ble_eq_true rfl)
  rw [lg_entry_eq]
  generalize (lg_sl ([.ref (ad E a 65), .ref (ad E a 4)]) ++ List.replicate (3 - (lg_sl ([.ref (ad E a 65), .ref (ad E a 4)])).length) Slot.unset).toArray = ls at hl ⊢
  have hl : lv_has ls 3 [(0, .ref (ad E a 65)), (1, .ref (ad E a 4))] := hl
  refine lv_iconst (v := I 0) hx hb dX11_copyTo_0 (by decide) ?_
  refine lv_istore_n (lv' := [(2, .int (I 0)), (0, .ref (ad E a 65)), (1, .ref (ad E a 4))]) hx hb dX11_copyTo_1 rfl hl (by decide) rfl (fun ls hl => ?_)
  refine th_loop (α := Int × (Nat → Int32)) (pc := 2) (fun x9 => (3 - x9.1).toNat) (fun x9 σ9 H9 l9 ls9 => ok y E σ9 ∧ fr [13] E σ σ9 ∧ fm [65] E σ σ9 a ∧ th_H G b0 σ9 H9 ∧ va_S (th_A b0) s.heap H9 l9 ∧ lv_has ls9 3 [(0, .ref (ad E a 65)), (1, .ref (ad E a 4)), (2, .int (I x9.1))] ∧ rng x9.1 ∧ (0 ≤ x9.1) ∧ (x9.1 ≤ 3) ∧ (cpd f65 x9.2 f4 0 0 x9.1) ∧ (aF σ9 (ad E a 4) = f4) ∧ (aF σ9 (ad E a 65) = x9.2)) ?_ (0, f65) σ _ _ _ ⟨hO, hF, hM, hH, hS, lv_sub hl [1, 2, 0] rfl, (show rng 0 from ⟨by decide, by decide⟩), by first | (dsimp only; omega) | omega, by first | (dsimp only; omega) | omega, cpd.zero, ef4, ef65⟩
  intro x9 σ_J_21 H locs ls hI9 ihJ_21
  obtain ⟨v2q20, F65q19⟩ := x9
  obtain ⟨hO, hF, hM, hH, hS, hl, rv2q20, J_21_0, J_21_1, J_21_2, J_21_3, J_21_4⟩ := hI9
  have hl : lv_has ls 3 [(0, .ref (ad E a 65)), (1, .ref (ad E a 4)), (2, .int (I v2q20))] := hl
  have rv2q20 : rng v2q20 := rv2q20
  have J_21_0 : 0 ≤ v2q20 := J_21_0
  have J_21_1 : v2q20 ≤ 3 := J_21_1
  have J_21_2 : cpd f65 F65q19 f4 0 0 v2q20 := J_21_2
  have J_21_3 : aF σ_J_21 (ad E a 4) = f4 := J_21_3
  have J_21_4 : aF σ_J_21 (ad E a 65) = F65q19 := J_21_4
  refine lv_iload_n hx hb dX11_copyTo_2 rfl (lv_at hl 2 rfl) ?_
  refine lv_aload_n hx hb dX11_copyTo_3 rfl (lv_at hl 0 rfl) ?_
  refine ok_alen hx hb hK hH hO h_a (by decide) k13_65 isA1 (by decide) dX11_copyTo_4 ?_
  refine lv_icmp_ge (tgt := 20) hx hb dX11_copyTo_5 (by decide) (fun c_22 => ?_) (fun c_22 => ?_)
  · replace c_22 := (I_le (a := 3) (b := v2q20) (show rng 3 from ⟨by decide, by decide⟩) rv2q20).mp c_22
    exact th_vret hx hb hr hlocks hH hS ⟨hO, hF, hM, by rw [show aF σ_J_21 (ad E a 65) = F65q19 from J_21_4]; exact cel.of (J_21_2) (by omega)⟩ dX11_copyTo_20
  · replace c_22 := mt (I_le (a := 3) (b := v2q20) (show rng 3 from ⟨by decide, by decide⟩) rv2q20).mpr c_22
    refine lv_aload_n hx hb dX11_copyTo_8 rfl (lv_at hl 0 rfl) ?_
    refine lv_iload_n hx hb dX11_copyTo_9 rfl (lv_at hl 2 rfl) ?_
    refine lv_aload_n hx hb dX11_copyTo_10 rfl (lv_at hl 1 rfl) ?_
    refine lv_iload_n hx hb dX11_copyTo_11 rfl (lv_at hl 2 rfl) ?_
    refine m_iald hx hb hK hH hO h_a k13_4 isA1 J_21_3 rv2q20 (by omega) (by omega) dX11_copyTo_12 (fun z_23 ez_23 rz_23 elx9 => ?_)
    refine m_iast hx hb hK hH hS h00 hO h_a k13_65 isA1 (by decide) J_21_4 rv2q20 (by omega) (by omega) rz_23 el1 dX11_copyTo_13 (fun σ_s_24 H locs hO hF9 hM9 ha9 hH hS => ?_)
    replace hM := hM.tu hM9 (by decide)
    replace hF := hF.tu hF9 (by decide)
    have e_25 : aF σ_s_24 (ad E a 4) = f4 := (hM9.a (by decide) (by decide)).trans J_21_3
    obtain ⟨g_26, dg_26⟩ : ∃ g9, g9 = upd F65q19 (v2q20).toNat (I z_23) := ⟨_, rfl⟩
    rw [← dg_26] at ha9
    have ef_27 := ha9
    refine lv_iinc (v := I (v2q20 + 1)) (lv' := [(2, .int (I (v2q20 + 1))), (0, .ref (ad E a 65)), (1, .ref (ad E a 4))]) hx hb dX11_copyTo_14 hl (k := 2) rfl (I_add _ _) (by decide) rfl (fun ls hl => ?_)
    refine lv_goto (tgt := 2) hx hb dX11_copyTo_17 (by decide) ?_
    exact ihJ_21 (v2q20 + 1, g_26) σ_s_24 _ _ _ (by first | (dsimp only; omega) | omega) ⟨hO, hF, hM, hH, hS, lv_sub hl [1, 2, 0] rfl, ⟨by first | (dsimp only; omega) | omega, by first | (dsimp only; omega) | omega⟩, by first | (dsimp only; omega) | omega, by first | (dsimp only; omega) | omega, (J_21_2.step dg_26 (by first | (dsimp only; omega) | omega) ez_23 (by first | (dsimp only; omega) | omega) (by first | (dsimp only; omega) | omega) (by first | (dsimp only; omega) | omega)), e_25, ef_27⟩

set_option maxHeartbeats 4000000 in
set_option maxRecDepth 100000 in
theorem w_copy1_61 (l : Launch) (G : va_G) (y : Nat → ClassId) (b0 : Nat) (σ : th_M) (E : th_E) (hO : ok y E σ) (a : Nat) (h_a : kd E a = 13) (f1 : Nat → Int32) (ef1 : aF σ (ad E a 1) = f1) (f61 : Nat → Int32) (ef61 : aF σ (ad E a 61) = f61) : Met l yX11_copyTo wsX11_copyTo ({ frames := 0, cells := 0, slots := 0, locals := 0 }) (th_P G y b0 σ [.ref (ad E a 1), .ref (ad E a 61)]) (th_Qv G b0 (fun σ1 => ok y E σ1 ∧ fr [13] E σ σ1 ∧ fm [1] E σ σ1 a ∧ (cel 240 f61 (aF σ1 (ad E a 1))))) 0 0 (th_A b0) := by
  refine Met.ofW (cc := cX11_copyTo) (maxL := 3) (ret := none) (by decide) rfl ?_
  intro p e s m args below meth c s₁ B hml hv
  obtain ⟨rfl, hH, hK⟩ := hv
  have hx := B.exec
  have hb := B.bytes
  have hr := B.returns
  have hts := atoms_spec (ws := wsX11_copyTo) B.pre
  have hown : s.vm.findClass RX11 = some m.cls := findClass_of_methodNamed B.named
  have hlocks := B.notSynchronized
  have h00 : b0 ≤ s.heap.size := hH.1
  have hS : va_S (th_A b0) s.heap s.heap [] := va_S.rf
  have hF : fr [13] E σ σ := fr.rf
  have hM : fm [1] E σ σ a := fm.rf
  have hl := lv_entry ([.ref (ad E a 1), .ref (ad E a 61)]) (n := 3) (Nat.le_of_ble_eq_true rfl)
  rw [lg_entry_eq]
  generalize (lg_sl ([.ref (ad E a 1), .ref (ad E a 61)]) ++ List.replicate (3 - (lg_sl ([.ref (ad E a 1), .ref (ad E a 61)])).length) Slot.unset).toArray = ls at hl ⊢
  have hl : lv_has ls 3 [(0, .ref (ad E a 1)), (1, .ref (ad E a 61))] := hl
  refine lv_iconst (v := I 0) hx hb dX11_copyTo_0 (by decide) ?_
  refine lv_istore_n (lv' := [(2, .int (I 0)), (0, .ref (ad E a 1)), (1, .ref (ad E a 61))]) hx hb dX11_copyTo_1 rfl hl (by decide) rfl (fun ls hl => ?_)
  refine th_loop (α := Int × (Nat → Int32)) (pc := 2) (fun x9 => (240 - x9.1).toNat) (fun x9 σ9 H9 l9 ls9 => ok y E σ9 ∧ fr [13] E σ σ9 ∧ fm [1] E σ σ9 a ∧ th_H G b0 σ9 H9 ∧ va_S (th_A b0) s.heap H9 l9 ∧ lv_has ls9 3 [(0, .ref (ad E a 1)), (1, .ref (ad E a 61)), (2, .int (I x9.1))] ∧ rng x9.1 ∧ (0 ≤ x9.1) ∧ (x9.1 ≤ 240) ∧ (cpd f1 x9.2 f61 0 0 x9.1) ∧ (aF σ9 (ad E a 61) = f61) ∧ (aF σ9 (ad E a 1) = x9.2)) ?_ (0, f1) σ _ _ _ ⟨hO, hF, hM, hH, hS, lv_sub hl [1, 2, 0] rfl, (show rng 0 from ⟨by decide, by decide⟩), by first | (dsimp only; omega) | omega, by first | (dsimp only; omega) | omega, cpd.zero, ef61, ef1⟩
  intro x9 σ_J_21 H locs ls hI9 ihJ_21
  obtain ⟨v2q20, F1q19⟩ := x9
  obtain ⟨hO, hF, hM, hH, hS, hl, rv2q20, J_21_0, J_21_1, J_21_2, J_21_3, J_21_4⟩ := hI9
  have hl : lv_has ls 3 [(0, .ref (ad E a 1)), (1, .ref (ad E a 61)), (2, .int (I v2q20))] := hl
  have rv2q20 : rng v2q20 := rv2q20
  have J_21_0 : 0 ≤ v2q20 := J_21_0
  have J_21_1 : v2q20 ≤ 240 := J_21_1
  have J_21_2 : cpd f1 F1q19 f61 0 0 v2q20 := J_21_2
  have J_21_3 : aF σ_J_21 (ad E a 61) = f61 := J_21_3
  have J_21_4 : aF σ_J_21 (ad E a 1) = F1q19 := J_21_4
  refine lv_iload_n hx hb dX11_copyTo_2 rfl (lv_at hl 2 rfl) ?_
  refine lv_aload_n hx hb dX11_copyTo_3 rfl (lv_at hl 0 rfl) ?_
  refine ok_alen hx hb hK hH hO h_a (by decide) k13_1 isA1 (by decide) dX11_copyTo_4 ?_
  refine lv_icmp_ge (tgt := 20) hx hb dX11_copyTo_5 (by decide) (fun c_22 => ?_) (fun c_22 => ?_)
  · replace c_22 := (I_le (a := 240) (b := v2q20) (show rng 240 from ⟨by decide, by decide⟩) rv2q20).mp c_22
    exact th_vret hx hb hr hlocks hH hS ⟨hO, hF, hM, by rw [show aF σ_J_21 (ad E a 1) = F1q19 from J_21_4]; exact cel.of (J_21_2) (by omega)⟩ dX11_copyTo_20
  · replace c_22 := mt (I_le (a := 240) (b := v2q20) (show rng 240 from ⟨by decide, by decide⟩) rv2q20).mpr c_22
    refine lv_aload_n hx hb dX11_copyTo_8 rfl (lv_at hl 0 rfl) ?_
    refine lv_iload_n hx hb dX11_copyTo_9 rfl (lv_at hl 2 rfl) ?_
    refine lv_aload_n hx hb dX11_copyTo_10 rfl (lv_at hl 1 rfl) ?_
    refine lv_iload_n hx hb dX11_copyTo_11 rfl (lv_at hl 2 rfl) ?_
    refine m_iald hx hb hK hH hO h_a k13_61 isA1 J_21_3 rv2q20 (by omega) (by omega) dX11_copyTo_12 (fun z_23 ez_23 rz_23 elx9 => ?_)
    refine m_iast hx hb hK hH hS h00 hO h_a k13_1 isA1 (by decide) J_21_4 rv2q20 (by omega) (by omega) rz_23 el1 dX11_copyTo_13 (fun σ_s_24 H locs hO hF9 hM9 ha9 hH hS => ?_)
    replace hM := hM.tu hM9 (by decide)
    replace hF := hF.tu hF9 (by decide)
    have e_25 : aF σ_s_24 (ad E a 61) = f61 := (hM9.a (by decide) (by decide)).trans J_21_3
    obtain ⟨g_26, dg_26⟩ : ∃ g9, g9 = upd F1q19 (v2q20).toNat (I z_23) := ⟨_, rfl⟩
    rw [← dg_26] at ha9
    have ef_27 := ha9
    refine lv_iinc (v := I (v2q20 + 1)) (lv' := [(2, .int (I (v2q20 + 1))), (0, .ref (ad E a 1)), (1, .ref (ad E a 61))]) hx hb dX11_copyTo_14 hl (k := 2) rfl (I_add _ _) (by decide) rfl (fun ls hl => ?_)
    refine lv_goto (tgt := 2) hx hb dX11_copyTo_17 (by decide) ?_
    exact ihJ_21 (v2q20 + 1, g_26) σ_s_24 _ _ _ (by first | (dsimp only; omega) | omega) ⟨hO, hF, hM, hH, hS, lv_sub hl [1, 2, 0] rfl, ⟨by first | (dsimp only; omega) | omega, by first | (dsimp only; omega) | omega⟩, by first | (dsimp only; omega) | omega, by first | (dsimp only; omega) | omega, (J_21_2.step dg_26 (by first | (dsimp only; omega) | omega) ez_23 (by first | (dsimp only; omega) | omega) (by first | (dsimp only; omega) | omega) (by first | (dsimp only; omega) | omega)), e_25, ef_27⟩

set_option maxHeartbeats 4000000 in
set_option maxRecDepth 100000 in
theorem w_copy37_62 (l : Launch) (G : va_G) (y : Nat → ClassId) (b0 : Nat) (σ : th_M) (E : th_E) (hO : ok y E σ) (a : Nat) (h_a : kd E a = 13) (f37 : Nat → Int32) (ef37 : aF σ (ad E a 37) = f37) (f62 : Nat → Int32) (ef62 : aF σ (ad E a 62) = f62) : Met l yX11_copyTo wsX11_copyTo ({ frames := 0, cells := 0, slots := 0, locals := 0 }) (th_P G y b0 σ [.ref (ad E a 37), .ref (ad E a 62)]) (th_Qv G b0 (fun σ1 => ok y E σ1 ∧ fr [13] E σ σ1 ∧ fm [37] E σ σ1 a ∧ (cel 9600 f62 (aF σ1 (ad E a 37))))) 0 0 (th_A b0) := by
  refine Met.ofW (cc := cX11_copyTo) (maxL := 3) (ret := none) (by decide) rfl ?_
  intro p e s m args below meth c s₁ B hml hv
  obtain ⟨rfl, hH, hK⟩ := hv
  have hx := B.exec
  have hb := B.bytes
  have hr := B.returns
  have hts := atoms_spec (ws := wsX11_copyTo) B.pre
  have hown : s.vm.findClass RX11 = some m.cls := findClass_of_methodNamed B.named
  have hlocks := B.notSynchronized
  have h00 : b0 ≤ s.heap.size := hH.1
  have hS : va_S (th_A b0) s.heap s.heap [] := va_S.rf
  have hF : fr [13] E σ σ := fr.rf
  have hM : fm [37] E σ σ a := fm.rf
  have hl := lv_entry ([.ref (ad E a 37), .ref (ad E a 62)]) (n := 3) (Nat.le_of_ble_eq_true rfl)
  rw [lg_entry_eq]
  generalize (lg_sl ([.ref (ad E a 37), .ref (ad E a 62)]) ++ List.replicate (3 - (lg_sl ([.ref (ad E a 37), .ref (ad E a 62)])).length) Slot.unset).toArray = ls at hl ⊢
  have hl : lv_has ls 3 [(0, .ref (ad E a 37)), (1, .ref (ad E a 62))] := hl
  refine lv_iconst (v := I 0) hx hb dX11_copyTo_0 (by decide) ?_
  refine lv_istore_n (lv' := [(2, .int (I 0)), (0, .ref (ad E a 37)), (1, .ref (ad E a 62))]) hx hb dX11_copyTo_1 rfl hl (by decide) rfl (fun ls hl => ?_)
  refine th_loop (α := Int × (Nat → Int32)) (pc := 2) (fun x9 => (9600 - x9.1).toNat) (fun x9 σ9 H9 l9 ls9 => ok y E σ9 ∧ fr [13] E σ σ9 ∧ fm [37] E σ σ9 a ∧ th_H G b0 σ9 H9 ∧ va_S (th_A b0) s.heap H9 l9 ∧ lv_has ls9 3 [(0, .ref (ad E a 37)), (1, .ref (ad E a 62)), (2, .int (I x9.1))] ∧ rng x9.1 ∧ (0 ≤ x9.1) ∧ (x9.1 ≤ 9600) ∧ (cpd f37 x9.2 f62 0 0 x9.1) ∧ (aF σ9 (ad E a 62) = f62) ∧ (aF σ9 (ad E a 37) = x9.2)) ?_ (0, f37) σ _ _ _ ⟨hO, hF, hM, hH, hS, lv_sub hl [1, 2, 0] rfl, (show rng 0 from ⟨by decide, by decide⟩), by first | (dsimp only; omega) | omega, by first | (dsimp only; omega) | omega, cpd.zero, ef62, ef37⟩
  intro x9 σ_J_21 H locs ls hI9 ihJ_21
  obtain ⟨v2q20, F37q19⟩ := x9
  obtain ⟨hO, hF, hM, hH, hS, hl, rv2q20, J_21_0, J_21_1, J_21_2, J_21_3, J_21_4⟩ := hI9
  have hl : lv_has ls 3 [(0, .ref (ad E a 37)), (1, .ref (ad E a 62)), (2, .int (I v2q20))] := hl
  have rv2q20 : rng v2q20 := rv2q20
  have J_21_0 : 0 ≤ v2q20 := J_21_0
  have J_21_1 : v2q20 ≤ 9600 := J_21_1
  have J_21_2 : cpd f37 F37q19 f62 0 0 v2q20 := J_21_2
  have J_21_3 : aF σ_J_21 (ad E a 62) = f62 := J_21_3
  have J_21_4 : aF σ_J_21 (ad E a 37) = F37q19 := J_21_4
  refine lv_iload_n hx hb dX11_copyTo_2 rfl (lv_at hl 2 rfl) ?_
  refine lv_aload_n hx hb dX11_copyTo_3 rfl (lv_at hl 0 rfl) ?_
  refine ok_alen hx hb hK hH hO h_a (by decide) k13_37 isA1 (by decide) dX11_copyTo_4 ?_
  refine lv_icmp_ge (tgt := 20) hx hb dX11_copyTo_5 (by decide) (fun c_22 => ?_) (fun c_22 => ?_)
  · replace c_22 := (I_le (a := 9600) (b := v2q20) (show rng 9600 from ⟨by decide, by decide⟩) rv2q20).mp c_22
    exact th_vret hx hb hr hlocks hH hS ⟨hO, hF, hM, by rw [show aF σ_J_21 (ad E a 37) = F37q19 from J_21_4]; exact cel.of (J_21_2) (by omega)⟩ dX11_copyTo_20
  · replace c_22 := mt (I_le (a := 9600) (b := v2q20) (show rng 9600 from ⟨by decide, by decide⟩) rv2q20).mpr c_22
    refine lv_aload_n hx hb dX11_copyTo_8 rfl (lv_at hl 0 rfl) ?_
    refine lv_iload_n hx hb dX11_copyTo_9 rfl (lv_at hl 2 rfl) ?_
    refine lv_aload_n hx hb dX11_copyTo_10 rfl (lv_at hl 1 rfl) ?_
    refine lv_iload_n hx hb dX11_copyTo_11 rfl (lv_at hl 2 rfl) ?_
    refine m_iald hx hb hK hH hO h_a k13_62 isA1 J_21_3 rv2q20 (by omega) (by omega) dX11_copyTo_12 (fun z_23 ez_23 rz_23 elx9 => ?_)
    refine m_iast hx hb hK hH hS h00 hO h_a k13_37 isA1 (by decide) J_21_4 rv2q20 (by omega) (by omega) rz_23 el1 dX11_copyTo_13 (fun σ_s_24 H locs hO hF9 hM9 ha9 hH hS => ?_)
    replace hM := hM.tu hM9 (by decide)
    replace hF := hF.tu hF9 (by decide)
    have e_25 : aF σ_s_24 (ad E a 62) = f62 := (hM9.a (by decide) (by decide)).trans J_21_3
    obtain ⟨g_26, dg_26⟩ : ∃ g9, g9 = upd F37q19 (v2q20).toNat (I z_23) := ⟨_, rfl⟩
    rw [← dg_26] at ha9
    have ef_27 := ha9
    refine lv_iinc (v := I (v2q20 + 1)) (lv' := [(2, .int (I (v2q20 + 1))), (0, .ref (ad E a 37)), (1, .ref (ad E a 62))]) hx hb dX11_copyTo_14 hl (k := 2) rfl (I_add _ _) (by decide) rfl (fun ls hl => ?_)
    refine lv_goto (tgt := 2) hx hb dX11_copyTo_17 (by decide) ?_
    exact ihJ_21 (v2q20 + 1, g_26) σ_s_24 _ _ _ (by first | (dsimp only; omega) | omega) ⟨hO, hF, hM, hH, hS, lv_sub hl [1, 2, 0] rfl, ⟨by first | (dsimp only; omega) | omega, by first | (dsimp only; omega) | omega⟩, by first | (dsimp only; omega) | omega, by first | (dsimp only; omega) | omega, (J_21_2.step dg_26 (by first | (dsimp only; omega) | omega) ez_23 (by first | (dsimp only; omega) | omega) (by first | (dsimp only; omega) | omega) (by first | (dsimp only; omega) | omega)), e_25, ef_27⟩

set_option maxHeartbeats 4000000 in
set_option maxRecDepth 100000 in
theorem w_copy52_63 (l : Launch) (G : va_G) (y : Nat → ClassId) (b0 : Nat) (σ : th_M) (E : th_E) (hO : ok y E σ) (a : Nat) (h_a : kd E a = 13) (f52 : Nat → Int32) (ef52 : aF σ (ad E a 52) = f52) (f63 : Nat → Int32) (ef63 : aF σ (ad E a 63) = f63) : Met l yX11_copyTo wsX11_copyTo ({ frames := 0, cells := 0, slots := 0, locals := 0 }) (th_P G y b0 σ [.ref (ad E a 52), .ref (ad E a 63)]) (th_Qv G b0 (fun σ1 => ok y E σ1 ∧ fr [13] E σ σ1 ∧ fm [52] E σ σ1 a ∧ (cel 8 f63 (aF σ1 (ad E a 52))))) 0 0 (th_A b0) := by
  refine Met.ofW (cc := cX11_copyTo) (maxL := 3) (ret := none) (by decide) rfl ?_
  intro p e s m args below meth c s₁ B hml hv
  obtain ⟨rfl, hH, hK⟩ := hv
  have hx := B.exec
  have hb := B.bytes
  have hr := B.returns
  have hts := atoms_spec (ws := wsX11_copyTo) B.pre
  have hown : s.vm.findClass RX11 = some m.cls := findClass_of_methodNamed B.named
  have hlocks := B.notSynchronized
  have h00 : b0 ≤ s.heap.size := hH.1
  have hS : va_S (th_A b0) s.heap s.heap [] := va_S.rf
  have hF : fr [13] E σ σ := fr.rf
  have hM : fm [52] E σ σ a := fm.rf
  have hl := lv_entry ([.ref (ad E a 52), .ref (ad E a 63)]) (n := 3) (Nat.le_of_ble_eq_true rfl)
  rw [lg_entry_eq]
  generalize (lg_sl ([.ref (ad E a 52), .ref (ad E a 63)]) ++ List.replicate (3 - (lg_sl ([.ref (ad E a 52), .ref (ad E a 63)])).length) Slot.unset).toArray = ls at hl ⊢
  have hl : lv_has ls 3 [(0, .ref (ad E a 52)), (1, .ref (ad E a 63))] := hl
  refine lv_iconst (v := I 0) hx hb dX11_copyTo_0 (by decide) ?_
  refine lv_istore_n (lv' := [(2, .int (I 0)), (0, .ref (ad E a 52)), (1, .ref (ad E a 63))]) hx hb dX11_copyTo_1 rfl hl (by decide) rfl (fun ls hl => ?_)
  refine th_loop (α := Int × (Nat → Int32)) (pc := 2) (fun x9 => (8 - x9.1).toNat) (fun x9 σ9 H9 l9 ls9 => ok y E σ9 ∧ fr [13] E σ σ9 ∧ fm [52] E σ σ9 a ∧ th_H G b0 σ9 H9 ∧ va_S (th_A b0) s.heap H9 l9 ∧ lv_has ls9 3 [(0, .ref (ad E a 52)), (1, .ref (ad E a 63)), (2, .int (I x9.1))] ∧ rng x9.1 ∧ (0 ≤ x9.1) ∧ (x9.1 ≤ 8) ∧ (cpd f52 x9.2 f63 0 0 x9.1) ∧ (aF σ9 (ad E a 63) = f63) ∧ (aF σ9 (ad E a 52) = x9.2)) ?_ (0, f52) σ _ _ _ ⟨hO, hF, hM, hH, hS, lv_sub hl [1, 2, 0] rfl, (show rng 0 from ⟨by decide, by decide⟩), by first | (dsimp only; omega) | omega, by first | (dsimp only; omega) | omega, cpd.zero, ef63, ef52⟩
  intro x9 σ_J_21 H locs ls hI9 ihJ_21
  obtain ⟨v2q20, F52q19⟩ := x9
  obtain ⟨hO, hF, hM, hH, hS, hl, rv2q20, J_21_0, J_21_1, J_21_2, J_21_3, J_21_4⟩ := hI9
  have hl : lv_has ls 3 [(0, .ref (ad E a 52)), (1, .ref (ad E a 63)), (2, .int (I v2q20))] := hl
  have rv2q20 : rng v2q20 := rv2q20
  have J_21_0 : 0 ≤ v2q20 := J_21_0
  have J_21_1 : v2q20 ≤ 8 := J_21_1
  have J_21_2 : cpd f52 F52q19 f63 0 0 v2q20 := J_21_2
  have J_21_3 : aF σ_J_21 (ad E a 63) = f63 := J_21_3
  have J_21_4 : aF σ_J_21 (ad E a 52) = F52q19 := J_21_4
  refine lv_iload_n hx hb dX11_copyTo_2 rfl (lv_at hl 2 rfl) ?_
  refine lv_aload_n hx hb dX11_copyTo_3 rfl (lv_at hl 0 rfl) ?_
  refine ok_alen hx hb hK hH hO h_a (by decide) k13_52 isA9 (by decide) dX11_copyTo_4 ?_
  refine lv_icmp_ge (tgt := 20) hx hb dX11_copyTo_5 (by decide) (fun c_22 => ?_) (fun c_22 => ?_)
  · replace c_22 := (I_le (a := 8) (b := v2q20) (show rng 8 from ⟨by decide, by decide⟩) rv2q20).mp c_22
    exact th_vret hx hb hr hlocks hH hS ⟨hO, hF, hM, by rw [show aF σ_J_21 (ad E a 52) = F52q19 from J_21_4]; exact cel.of (J_21_2) (by omega)⟩ dX11_copyTo_20
  · replace c_22 := mt (I_le (a := 8) (b := v2q20) (show rng 8 from ⟨by decide, by decide⟩) rv2q20).mpr c_22
    refine lv_aload_n hx hb dX11_copyTo_8 rfl (lv_at hl 0 rfl) ?_
    refine lv_iload_n hx hb dX11_copyTo_9 rfl (lv_at hl 2 rfl) ?_
    refine lv_aload_n hx hb dX11_copyTo_10 rfl (lv_at hl 1 rfl) ?_
    refine lv_iload_n hx hb dX11_copyTo_11 rfl (lv_at hl 2 rfl) ?_
    refine m_iald hx hb hK hH hO h_a k13_63 isA9 J_21_3 rv2q20 (by omega) (by omega) dX11_copyTo_12 (fun z_23 ez_23 rz_23 elx9 => ?_)
    have uz_23 := elx9.2.1 rfl
    refine m_iast hx hb hK hH hS h00 hO h_a k13_52 isA9 (by decide) J_21_4 rv2q20 (by omega) (by omega) rz_23 (el9 (by omega) (by omega)) dX11_copyTo_13 (fun σ_s_24 H locs hO hF9 hM9 ha9 hH hS => ?_)
    replace hM := hM.tu hM9 (by decide)
    replace hF := hF.tu hF9 (by decide)
    have e_25 : aF σ_s_24 (ad E a 63) = f63 := (hM9.a (by decide) (by decide)).trans J_21_3
    obtain ⟨g_26, dg_26⟩ : ∃ g9, g9 = upd F52q19 (v2q20).toNat (I z_23) := ⟨_, rfl⟩
    rw [← dg_26] at ha9
    have ef_27 := ha9
    refine lv_iinc (v := I (v2q20 + 1)) (lv' := [(2, .int (I (v2q20 + 1))), (0, .ref (ad E a 52)), (1, .ref (ad E a 63))]) hx hb dX11_copyTo_14 hl (k := 2) rfl (I_add _ _) (by decide) rfl (fun ls hl => ?_)
    refine lv_goto (tgt := 2) hx hb dX11_copyTo_17 (by decide) ?_
    exact ihJ_21 (v2q20 + 1, g_26) σ_s_24 _ _ _ (by first | (dsimp only; omega) | omega) ⟨hO, hF, hM, hH, hS, lv_sub hl [1, 2, 0] rfl, ⟨by first | (dsimp only; omega) | omega, by first | (dsimp only; omega) | omega⟩, by first | (dsimp only; omega) | omega, by first | (dsimp only; omega) | omega, (J_21_2.step dg_26 (by first | (dsimp only; omega) | omega) ez_23 (by first | (dsimp only; omega) | omega) (by first | (dsimp only; omega) | omega) (by first | (dsimp only; omega) | omega)), e_25, ef_27⟩

set_option maxHeartbeats 4000000 in
set_option maxRecDepth 100000 in
theorem w_copy53_64 (l : Launch) (G : va_G) (y : Nat → ClassId) (b0 : Nat) (σ : th_M) (E : th_E) (hO : ok y E σ) (a : Nat) (h_a : kd E a = 13) (f53 : Nat → Int32) (ef53 : aF σ (ad E a 53) = f53) (f64 : Nat → Int32) (ef64 : aF σ (ad E a 64) = f64) : Met l yX11_copyTo wsX11_copyTo ({ frames := 0, cells := 0, slots := 0, locals := 0 }) (th_P G y b0 σ [.ref (ad E a 53), .ref (ad E a 64)]) (th_Qv G b0 (fun σ1 => ok y E σ1 ∧ fr [13] E σ σ1 ∧ fm [53] E σ σ1 a ∧ (cel 8 f64 (aF σ1 (ad E a 53))))) 0 0 (th_A b0) := by
  refine Met.ofW (cc := cX11_copyTo) (maxL := 3) (ret := none) (by decide) rfl ?_
  intro p e s m args below meth c s₁ B hml hv
  obtain ⟨rfl, hH, hK⟩ := hv
  have hx := B.exec
  have hb := B.bytes
  have hr := B.returns
  have hts := atoms_spec (ws := wsX11_copyTo) B.pre
  have hown : s.vm.findClass RX11 = some m.cls := findClass_of_methodNamed B.named
  have hlocks := B.notSynchronized
  have h00 : b0 ≤ s.heap.size := hH.1
  have hS : va_S (th_A b0) s.heap s.heap [] := va_S.rf
  have hF : fr [13] E σ σ := fr.rf
  have hM : fm [53] E σ σ a := fm.rf
  have hl := lv_entry ([.ref (ad E a 53), .ref (ad E a 64)]) (n := 3) (Nat.le_of_ble_eq_true rfl)
  rw [lg_entry_eq]
  generalize (lg_sl ([.ref (ad E a 53), .ref (ad E a 64)]) ++ List.replicate (3 - (lg_sl ([.ref (ad E a 53), .ref (ad E a 64)])).length) Slot.unset).toArray = ls at hl ⊢
  have hl : lv_has ls 3 [(0, .ref (ad E a 53)), (1, .ref (ad E a 64))] := hl
  refine lv_iconst (v := I 0) hx hb dX11_copyTo_0 (by decide) ?_
  refine lv_istore_n (lv' := [(2, .int (I 0)), (0, .ref (ad E a 53)), (1, .ref (ad E a 64))]) hx hb dX11_copyTo_1 rfl hl (by decide) rfl (fun ls hl => ?_)
  refine th_loop (α := Int × (Nat → Int32)) (pc := 2) (fun x9 => (8 - x9.1).toNat) (fun x9 σ9 H9 l9 ls9 => ok y E σ9 ∧ fr [13] E σ σ9 ∧ fm [53] E σ σ9 a ∧ th_H G b0 σ9 H9 ∧ va_S (th_A b0) s.heap H9 l9 ∧ lv_has ls9 3 [(0, .ref (ad E a 53)), (1, .ref (ad E a 64)), (2, .int (I x9.1))] ∧ rng x9.1 ∧ (0 ≤ x9.1) ∧ (x9.1 ≤ 8) ∧ (cpd f53 x9.2 f64 0 0 x9.1) ∧ (aF σ9 (ad E a 64) = f64) ∧ (aF σ9 (ad E a 53) = x9.2)) ?_ (0, f53) σ _ _ _ ⟨hO, hF, hM, hH, hS, lv_sub hl [1, 2, 0] rfl, (show rng 0 from ⟨by decide, by decide⟩), by first | (dsimp only; omega) | omega, by first | (dsimp only; omega) | omega, cpd.zero, ef64, ef53⟩
  intro x9 σ_J_21 H locs ls hI9 ihJ_21
  obtain ⟨v2q20, F53q19⟩ := x9
  obtain ⟨hO, hF, hM, hH, hS, hl, rv2q20, J_21_0, J_21_1, J_21_2, J_21_3, J_21_4⟩ := hI9
  have hl : lv_has ls 3 [(0, .ref (ad E a 53)), (1, .ref (ad E a 64)), (2, .int (I v2q20))] := hl
  have rv2q20 : rng v2q20 := rv2q20
  have J_21_0 : 0 ≤ v2q20 := J_21_0
  have J_21_1 : v2q20 ≤ 8 := J_21_1
  have J_21_2 : cpd f53 F53q19 f64 0 0 v2q20 := J_21_2
  have J_21_3 : aF σ_J_21 (ad E a 64) = f64 := J_21_3
  have J_21_4 : aF σ_J_21 (ad E a 53) = F53q19 := J_21_4
  refine lv_iload_n hx hb dX11_copyTo_2 rfl (lv_at hl 2 rfl) ?_
  refine lv_aload_n hx hb dX11_copyTo_3 rfl (lv_at hl 0 rfl) ?_
  refine ok_alen hx hb hK hH hO h_a (by decide) k13_53 isA1 (by decide) dX11_copyTo_4 ?_
  refine lv_icmp_ge (tgt := 20) hx hb dX11_copyTo_5 (by decide) (fun c_22 => ?_) (fun c_22 => ?_)
  · replace c_22 := (I_le (a := 8) (b := v2q20) (show rng 8 from ⟨by decide, by decide⟩) rv2q20).mp c_22
    exact th_vret hx hb hr hlocks hH hS ⟨hO, hF, hM, by rw [show aF σ_J_21 (ad E a 53) = F53q19 from J_21_4]; exact cel.of (J_21_2) (by omega)⟩ dX11_copyTo_20
  · replace c_22 := mt (I_le (a := 8) (b := v2q20) (show rng 8 from ⟨by decide, by decide⟩) rv2q20).mpr c_22
    refine lv_aload_n hx hb dX11_copyTo_8 rfl (lv_at hl 0 rfl) ?_
    refine lv_iload_n hx hb dX11_copyTo_9 rfl (lv_at hl 2 rfl) ?_
    refine lv_aload_n hx hb dX11_copyTo_10 rfl (lv_at hl 1 rfl) ?_
    refine lv_iload_n hx hb dX11_copyTo_11 rfl (lv_at hl 2 rfl) ?_
    refine m_iald hx hb hK hH hO h_a k13_64 isA1 J_21_3 rv2q20 (by omega) (by omega) dX11_copyTo_12 (fun z_23 ez_23 rz_23 elx9 => ?_)
    refine m_iast hx hb hK hH hS h00 hO h_a k13_53 isA1 (by decide) J_21_4 rv2q20 (by omega) (by omega) rz_23 el1 dX11_copyTo_13 (fun σ_s_24 H locs hO hF9 hM9 ha9 hH hS => ?_)
    replace hM := hM.tu hM9 (by decide)
    replace hF := hF.tu hF9 (by decide)
    have e_25 : aF σ_s_24 (ad E a 64) = f64 := (hM9.a (by decide) (by decide)).trans J_21_3
    obtain ⟨g_26, dg_26⟩ : ∃ g9, g9 = upd F53q19 (v2q20).toNat (I z_23) := ⟨_, rfl⟩
    rw [← dg_26] at ha9
    have ef_27 := ha9
    refine lv_iinc (v := I (v2q20 + 1)) (lv' := [(2, .int (I (v2q20 + 1))), (0, .ref (ad E a 53)), (1, .ref (ad E a 64))]) hx hb dX11_copyTo_14 hl (k := 2) rfl (I_add _ _) (by decide) rfl (fun ls hl => ?_)
    refine lv_goto (tgt := 2) hx hb dX11_copyTo_17 (by decide) ?_
    exact ihJ_21 (v2q20 + 1, g_26) σ_s_24 _ _ _ (by first | (dsimp only; omega) | omega) ⟨hO, hF, hM, hH, hS, lv_sub hl [1, 2, 0] rfl, ⟨by first | (dsimp only; omega) | omega, by first | (dsimp only; omega) | omega⟩, by first | (dsimp only; omega) | omega, by first | (dsimp only; omega) | omega, (J_21_2.step dg_26 (by first | (dsimp only; omega) | omega) ez_23 (by first | (dsimp only; omega) | omega) (by first | (dsimp only; omega) | omega) (by first | (dsimp only; omega) | omega)), e_25, ef_27⟩

set_option maxHeartbeats 4000000 in
set_option maxRecDepth 100000 in
theorem w_copy4_65 (l : Launch) (G : va_G) (y : Nat → ClassId) (b0 : Nat) (σ : th_M) (E : th_E) (hO : ok y E σ) (a : Nat) (h_a : kd E a = 13) (f4 : Nat → Int32) (ef4 : aF σ (ad E a 4) = f4) (f65 : Nat → Int32) (ef65 : aF σ (ad E a 65) = f65) : Met l yX11_copyTo wsX11_copyTo ({ frames := 0, cells := 0, slots := 0, locals := 0 }) (th_P G y b0 σ [.ref (ad E a 4), .ref (ad E a 65)]) (th_Qv G b0 (fun σ1 => ok y E σ1 ∧ fr [13] E σ σ1 ∧ fm [4] E σ σ1 a ∧ (cel 3 f65 (aF σ1 (ad E a 4))))) 0 0 (th_A b0) := by
  refine Met.ofW (cc := cX11_copyTo) (maxL := 3) (ret := none) (by decide) rfl ?_
  intro p e s m args below meth c s₁ B hml hv
  obtain ⟨rfl, hH, hK⟩ := hv
  have hx := B.exec
  have hb := B.bytes
  have hr := B.returns
  have hts := atoms_spec (ws := wsX11_copyTo) B.pre
  have hown : s.vm.findClass RX11 = some m.cls := findClass_of_methodNamed B.named
  have hlocks := B.notSynchronized
  have h00 : b0 ≤ s.heap.size := hH.1
  have hS : va_S (th_A b0) s.heap s.heap [] := va_S.rf
  have hF : fr [13] E σ σ := fr.rf
  have hM : fm [4] E σ σ a := fm.rf
  have hl := lv_entry ([.ref (ad E a 4), .ref (ad E a 65)]) (n := 3) (Nat.le_of_ble_eq_true rfl)
  rw [lg_entry_eq]
  generalize (lg_sl ([.ref (ad E a 4), .ref (ad E a 65)]) ++ List.replicate (3 - (lg_sl ([.ref (ad E a 4), .ref (ad E a 65)])).length) Slot.unset).toArray = ls at hl ⊢
  have hl : lv_has ls 3 [(0, .ref (ad E a 4)), (1, .ref (ad E a 65))] := hl
  refine lv_iconst (v := I 0) hx hb dX11_copyTo_0 (by decide) ?_
  refine lv_istore_n (lv' := [(2, .int (I 0)), (0, .ref (ad E a 4)), (1, .ref (ad E a 65))]) hx hb dX11_copyTo_1 rfl hl (by decide) rfl (fun ls hl => ?_)
  refine th_loop (α := Int × (Nat → Int32)) (pc := 2) (fun x9 => (3 - x9.1).toNat) (fun x9 σ9 H9 l9 ls9 => ok y E σ9 ∧ fr [13] E σ σ9 ∧ fm [4] E σ σ9 a ∧ th_H G b0 σ9 H9 ∧ va_S (th_A b0) s.heap H9 l9 ∧ lv_has ls9 3 [(0, .ref (ad E a 4)), (1, .ref (ad E a 65)), (2, .int (I x9.1))] ∧ rng x9.1 ∧ (0 ≤ x9.1) ∧ (x9.1 ≤ 3) ∧ (cpd f4 x9.2 f65 0 0 x9.1) ∧ (aF σ9 (ad E a 65) = f65) ∧ (aF σ9 (ad E a 4) = x9.2)) ?_ (0, f4) σ _ _ _ ⟨hO, hF, hM, hH, hS, lv_sub hl [1, 2, 0] rfl, (show rng 0 from ⟨by decide, by decide⟩), by first | (dsimp only; omega) | omega, by first | (dsimp only; omega) | omega, cpd.zero, ef65, ef4⟩
  intro x9 σ_J_21 H locs ls hI9 ihJ_21
  obtain ⟨v2q20, F4q19⟩ := x9
  obtain ⟨hO, hF, hM, hH, hS, hl, rv2q20, J_21_0, J_21_1, J_21_2, J_21_3, J_21_4⟩ := hI9
  have hl : lv_has ls 3 [(0, .ref (ad E a 4)), (1, .ref (ad E a 65)), (2, .int (I v2q20))] := hl
  have rv2q20 : rng v2q20 := rv2q20
  have J_21_0 : 0 ≤ v2q20 := J_21_0
  have J_21_1 : v2q20 ≤ 3 := J_21_1
  have J_21_2 : cpd f4 F4q19 f65 0 0 v2q20 := J_21_2
  have J_21_3 : aF σ_J_21 (ad E a 65) = f65 := J_21_3
  have J_21_4 : aF σ_J_21 (ad E a 4) = F4q19 := J_21_4
  refine lv_iload_n hx hb dX11_copyTo_2 rfl (lv_at hl 2 rfl) ?_
  refine lv_aload_n hx hb dX11_copyTo_3 rfl (lv_at hl 0 rfl) ?_
  refine ok_alen hx hb hK hH hO h_a (by decide) k13_4 isA1 (by decide) dX11_copyTo_4 ?_
  refine lv_icmp_ge (tgt := 20) hx hb dX11_copyTo_5 (by decide) (fun c_22 => ?_) (fun c_22 => ?_)
  · replace c_22 := (I_le (a := 3) (b := v2q20) (show rng 3 from ⟨by decide, by decide⟩) rv2q20).mp c_22
    exact th_vret hx hb hr hlocks hH hS ⟨hO, hF, hM, by rw [show aF σ_J_21 (ad E a 4) = F4q19 from J_21_4]; exact cel.of (J_21_2) (by omega)⟩ dX11_copyTo_20
  · replace c_22 := mt (I_le (a := 3) (b := v2q20) (show rng 3 from ⟨by decide, by decide⟩) rv2q20).mpr c_22
    refine lv_aload_n hx hb dX11_copyTo_8 rfl (lv_at hl 0 rfl) ?_
    refine lv_iload_n hx hb dX11_copyTo_9 rfl (lv_at hl 2 rfl) ?_
    refine lv_aload_n hx hb dX11_copyTo_10 rfl (lv_at hl 1 rfl) ?_
    refine lv_iload_n hx hb dX11_copyTo_11 rfl (lv_at hl 2 rfl) ?_
    refine m_iald hx hb hK hH hO h_a k13_65 isA1 J_21_3 rv2q20 (by omega) (by omega) dX11_copyTo_12 (fun z_23 ez_23 rz_23 elx9 => ?_)
    refine m_iast hx hb hK hH hS h00 hO h_a k13_4 isA1 (by decide) J_21_4 rv2q20 (by omega) (by omega) rz_23 el1 dX11_copyTo_13 (fun σ_s_24 H locs hO hF9 hM9 ha9 hH hS => ?_)
    replace hM := hM.tu hM9 (by decide)
    replace hF := hF.tu hF9 (by decide)
    have e_25 : aF σ_s_24 (ad E a 65) = f65 := (hM9.a (by decide) (by decide)).trans J_21_3
    obtain ⟨g_26, dg_26⟩ : ∃ g9, g9 = upd F4q19 (v2q20).toNat (I z_23) := ⟨_, rfl⟩
    rw [← dg_26] at ha9
    have ef_27 := ha9
    refine lv_iinc (v := I (v2q20 + 1)) (lv' := [(2, .int (I (v2q20 + 1))), (0, .ref (ad E a 4)), (1, .ref (ad E a 65))]) hx hb dX11_copyTo_14 hl (k := 2) rfl (I_add _ _) (by decide) rfl (fun ls hl => ?_)
    refine lv_goto (tgt := 2) hx hb dX11_copyTo_17 (by decide) ?_
    exact ihJ_21 (v2q20 + 1, g_26) σ_s_24 _ _ _ (by first | (dsimp only; omega) | omega) ⟨hO, hF, hM, hH, hS, lv_sub hl [1, 2, 0] rfl, ⟨by first | (dsimp only; omega) | omega, by first | (dsimp only; omega) | omega⟩, by first | (dsimp only; omega) | omega, by first | (dsimp only; omega) | omega, (J_21_2.step dg_26 (by first | (dsimp only; omega) | omega) ez_23 (by first | (dsimp only; omega) | omega) (by first | (dsimp only; omega) | omega) (by first | (dsimp only; omega) | omega)), e_25, ef_27⟩

set_option maxHeartbeats 4000000 in
set_option maxRecDepth 100000 in
theorem w_copy57_1 (l : Launch) (G : va_G) (y : Nat → ClassId) (b0 : Nat) (σ : th_M) (E : th_E) (hO : ok y E σ) (a : Nat) (h_a : kd E a = 13) (f57 : Nat → Int32) (ef57 : aF σ (ad E a 57) = f57) (f1 : Nat → Int32) (ef1 : aF σ (ad E a 1) = f1) : Met l yX11_copyTo wsX11_copyTo ({ frames := 0, cells := 0, slots := 0, locals := 0 }) (th_P G y b0 σ [.ref (ad E a 57), .ref (ad E a 1)]) (th_Qv G b0 (fun σ1 => ok y E σ1 ∧ fr [13] E σ σ1 ∧ fm [57] E σ σ1 a ∧ (cel 240 f1 (aF σ1 (ad E a 57))))) 0 0 (th_A b0) := by
  refine Met.ofW (cc := cX11_copyTo) (maxL := 3) (ret := none) (by decide) rfl ?_
  intro p e s m args below meth c s₁ B hml hv
  obtain ⟨rfl, hH, hK⟩ := hv
  have hx := B.exec
  have hb := B.bytes
  have hr := B.returns
  have hts := atoms_spec (ws := wsX11_copyTo) B.pre
  have hown : s.vm.findClass RX11 = some m.cls := findClass_of_methodNamed B.named
  have hlocks := B.notSynchronized
  have h00 : b0 ≤ s.heap.size := hH.1
  have hS : va_S (th_A b0) s.heap s.heap [] := va_S.rf
  have hF : fr [13] E σ σ := fr.rf
  have hM : fm [57] E σ σ a := fm.rf
  have hl := lv_entry ([.ref (ad E a 57), .ref (ad E a 1)]) (n := 3) (Nat.le_of_ble_eq_true rfl)
  rw [lg_entry_eq]
  generalize (lg_sl ([.ref (ad E a 57), .ref (ad E a 1)]) ++ List.replicate (3 - (lg_sl ([.ref (ad E a 57), .ref (ad E a 1)])).length) Slot.unset).toArray = ls at hl ⊢
  have hl : lv_has ls 3 [(0, .ref (ad E a 57)), (1, .ref (ad E a 1))] := hl
  refine lv_iconst (v := I 0) hx hb dX11_copyTo_0 (by decide) ?_
  refine lv_istore_n (lv' := [(2, .int (I 0)), (0, .ref (ad E a 57)), (1, .ref (ad E a 1))]) hx hb dX11_copyTo_1 rfl hl (by decide) rfl (fun ls hl => ?_)
  refine th_loop (α := Int × (Nat → Int32)) (pc := 2) (fun x9 => (240 - x9.1).toNat) (fun x9 σ9 H9 l9 ls9 => ok y E σ9 ∧ fr [13] E σ σ9 ∧ fm [57] E σ σ9 a ∧ th_H G b0 σ9 H9 ∧ va_S (th_A b0) s.heap H9 l9 ∧ lv_has ls9 3 [(0, .ref (ad E a 57)), (1, .ref (ad E a 1)), (2, .int (I x9.1))] ∧ rng x9.1 ∧ (0 ≤ x9.1) ∧ (x9.1 ≤ 240) ∧ (cpd f57 x9.2 f1 0 0 x9.1) ∧ (aF σ9 (ad E a 1) = f1) ∧ (aF σ9 (ad E a 57) = x9.2)) ?_ (0, f57) σ _ _ _ ⟨hO, hF, hM, hH, hS, lv_sub hl [1, 2, 0] rfl, (show rng 0 from ⟨by decide, by decide⟩), by first | (dsimp only; omega) | omega, by first | (dsimp only; omega) | omega, cpd.zero, ef1, ef57⟩
  intro x9 σ_J_21 H locs ls hI9 ihJ_21
  obtain ⟨v2q20, F57q19⟩ := x9
  obtain ⟨hO, hF, hM, hH, hS, hl, rv2q20, J_21_0, J_21_1, J_21_2, J_21_3, J_21_4⟩ := hI9
  have hl : lv_has ls 3 [(0, .ref (ad E a 57)), (1, .ref (ad E a 1)), (2, .int (I v2q20))] := hl
  have rv2q20 : rng v2q20 := rv2q20
  have J_21_0 : 0 ≤ v2q20 := J_21_0
  have J_21_1 : v2q20 ≤ 240 := J_21_1
  have J_21_2 : cpd f57 F57q19 f1 0 0 v2q20 := J_21_2
  have J_21_3 : aF σ_J_21 (ad E a 1) = f1 := J_21_3
  have J_21_4 : aF σ_J_21 (ad E a 57) = F57q19 := J_21_4
  refine lv_iload_n hx hb dX11_copyTo_2 rfl (lv_at hl 2 rfl) ?_
  refine lv_aload_n hx hb dX11_copyTo_3 rfl (lv_at hl 0 rfl) ?_
  refine ok_alen hx hb hK hH hO h_a (by decide) k13_57 isA1 (by decide) dX11_copyTo_4 ?_
  refine lv_icmp_ge (tgt := 20) hx hb dX11_copyTo_5 (by decide) (fun c_22 => ?_) (fun c_22 => ?_)
  · replace c_22 := (I_le (a := 240) (b := v2q20) (show rng 240 from ⟨by decide, by decide⟩) rv2q20).mp c_22
    exact th_vret hx hb hr hlocks hH hS ⟨hO, hF, hM, by rw [show aF σ_J_21 (ad E a 57) = F57q19 from J_21_4]; exact cel.of (J_21_2) (by omega)⟩ dX11_copyTo_20
  · replace c_22 := mt (I_le (a := 240) (b := v2q20) (show rng 240 from ⟨by decide, by decide⟩) rv2q20).mpr c_22
    refine lv_aload_n hx hb dX11_copyTo_8 rfl (lv_at hl 0 rfl) ?_
    refine lv_iload_n hx hb dX11_copyTo_9 rfl (lv_at hl 2 rfl) ?_
    refine lv_aload_n hx hb dX11_copyTo_10 rfl (lv_at hl 1 rfl) ?_
    refine lv_iload_n hx hb dX11_copyTo_11 rfl (lv_at hl 2 rfl) ?_
    refine m_iald hx hb hK hH hO h_a k13_1 isA1 J_21_3 rv2q20 (by omega) (by omega) dX11_copyTo_12 (fun z_23 ez_23 rz_23 elx9 => ?_)
    refine m_iast hx hb hK hH hS h00 hO h_a k13_57 isA1 (by decide) J_21_4 rv2q20 (by omega) (by omega) rz_23 el1 dX11_copyTo_13 (fun σ_s_24 H locs hO hF9 hM9 ha9 hH hS => ?_)
    replace hM := hM.tu hM9 (by decide)
    replace hF := hF.tu hF9 (by decide)
    have e_25 : aF σ_s_24 (ad E a 1) = f1 := (hM9.a (by decide) (by decide)).trans J_21_3
    obtain ⟨g_26, dg_26⟩ : ∃ g9, g9 = upd F57q19 (v2q20).toNat (I z_23) := ⟨_, rfl⟩
    rw [← dg_26] at ha9
    have ef_27 := ha9
    refine lv_iinc (v := I (v2q20 + 1)) (lv' := [(2, .int (I (v2q20 + 1))), (0, .ref (ad E a 57)), (1, .ref (ad E a 1))]) hx hb dX11_copyTo_14 hl (k := 2) rfl (I_add _ _) (by decide) rfl (fun ls hl => ?_)
    refine lv_goto (tgt := 2) hx hb dX11_copyTo_17 (by decide) ?_
    exact ihJ_21 (v2q20 + 1, g_26) σ_s_24 _ _ _ (by first | (dsimp only; omega) | omega) ⟨hO, hF, hM, hH, hS, lv_sub hl [1, 2, 0] rfl, ⟨by first | (dsimp only; omega) | omega, by first | (dsimp only; omega) | omega⟩, by first | (dsimp only; omega) | omega, by first | (dsimp only; omega) | omega, (J_21_2.step dg_26 (by first | (dsimp only; omega) | omega) ez_23 (by first | (dsimp only; omega) | omega) (by first | (dsimp only; omega) | omega) (by first | (dsimp only; omega) | omega)), e_25, ef_27⟩

set_option maxHeartbeats 4000000 in
set_option maxRecDepth 100000 in
theorem w_copy1_57 (l : Launch) (G : va_G) (y : Nat → ClassId) (b0 : Nat) (σ : th_M) (E : th_E) (hO : ok y E σ) (a : Nat) (h_a : kd E a = 13) (f1 : Nat → Int32) (ef1 : aF σ (ad E a 1) = f1) (f57 : Nat → Int32) (ef57 : aF σ (ad E a 57) = f57) : Met l yX11_copyTo wsX11_copyTo ({ frames := 0, cells := 0, slots := 0, locals := 0 }) (th_P G y b0 σ [.ref (ad E a 1), .ref (ad E a 57)]) (th_Qv G b0 (fun σ1 => ok y E σ1 ∧ fr [13] E σ σ1 ∧ fm [1] E σ σ1 a ∧ (cel 240 f57 (aF σ1 (ad E a 1))))) 0 0 (th_A b0) := by
  refine Met.ofW (cc := cX11_copyTo) (maxL := 3) (ret := none) (by decide) rfl ?_
  intro p e s m args below meth c s₁ B hml hv
  obtain ⟨rfl, hH, hK⟩ := hv
  have hx := B.exec
  have hb := B.bytes
  have hr := B.returns
  have hts := atoms_spec (ws := wsX11_copyTo) B.pre
  have hown : s.vm.findClass RX11 = some m.cls := findClass_of_methodNamed B.named
  have hlocks := B.notSynchronized
  have h00 : b0 ≤ s.heap.size := hH.1
  have hS : va_S (th_A b0) s.heap s.heap [] := va_S.rf
  have hF : fr [13] E σ σ := fr.rf
  have hM : fm [1] E σ σ a := fm.rf
  have hl := lv_entry ([.ref (ad E a 1), .ref (ad E a 57)]) (n := 3) (Nat.le_of_ble_eq_true rfl)
  rw [lg_entry_eq]
  generalize (lg_sl ([.ref (ad E a 1), .ref (ad E a 57)]) ++ List.replicate (3 - (lg_sl ([.ref (ad E a 1), .ref (ad E a 57)])).length) Slot.unset).toArray = ls at hl ⊢
  have hl : lv_has ls 3 [(0, .ref (ad E a 1)), (1, .ref (ad E a 57))] := hl
  refine lv_iconst (v := I 0) hx hb dX11_copyTo_0 (by decide) ?_
  refine lv_istore_n (lv' := [(2, .int (I 0)), (0, .ref (ad E a 1)), (1, .ref (ad E a 57))]) hx hb dX11_copyTo_1 rfl hl (by decide) rfl (fun ls hl => ?_)
  refine th_loop (α := Int × (Nat → Int32)) (pc := 2) (fun x9 => (240 - x9.1).toNat) (fun x9 σ9 H9 l9 ls9 => ok y E σ9 ∧ fr [13] E σ σ9 ∧ fm [1] E σ σ9 a ∧ th_H G b0 σ9 H9 ∧ va_S (th_A b0) s.heap H9 l9 ∧ lv_has ls9 3 [(0, .ref (ad E a 1)), (1, .ref (ad E a 57)), (2, .int (I x9.1))] ∧ rng x9.1 ∧ (0 ≤ x9.1) ∧ (x9.1 ≤ 240) ∧ (cpd f1 x9.2 f57 0 0 x9.1) ∧ (aF σ9 (ad E a 57) = f57) ∧ (aF σ9 (ad E a 1) = x9.2)) ?_ (0, f1) σ _ _ _ ⟨hO, hF, hM, hH, hS, lv_sub hl [1, 2, 0] rfl, (show rng 0 from ⟨by decide, by decide⟩), by first | (dsimp only; omega) | omega, by first | (dsimp only; omega) | omega, cpd.zero, ef57, ef1⟩
  intro x9 σ_J_21 H locs ls hI9 ihJ_21
  obtain ⟨v2q20, F1q19⟩ := x9
  obtain ⟨hO, hF, hM, hH, hS, hl, rv2q20, J_21_0, J_21_1, J_21_2, J_21_3, J_21_4⟩ := hI9
  have hl : lv_has ls 3 [(0, .ref (ad E a 1)), (1, .ref (ad E a 57)), (2, .int (I v2q20))] := hl
  have rv2q20 : rng v2q20 := rv2q20
  have J_21_0 : 0 ≤ v2q20 := J_21_0
  have J_21_1 : v2q20 ≤ 240 := J_21_1
  have J_21_2 : cpd f1 F1q19 f57 0 0 v2q20 := J_21_2
  have J_21_3 : aF σ_J_21 (ad E a 57) = f57 := J_21_3
  have J_21_4 : aF σ_J_21 (ad E a 1) = F1q19 := J_21_4
  refine lv_iload_n hx hb dX11_copyTo_2 rfl (lv_at hl 2 rfl) ?_
  refine lv_aload_n hx hb dX11_copyTo_3 rfl (lv_at hl 0 rfl) ?_
  refine ok_alen hx hb hK hH hO h_a (by decide) k13_1 isA1 (by decide) dX11_copyTo_4 ?_
  refine lv_icmp_ge (tgt := 20) hx hb dX11_copyTo_5 (by decide) (fun c_22 => ?_) (fun c_22 => ?_)
  · replace c_22 := (I_le (a := 240) (b := v2q20) (show rng 240 from ⟨by decide, by decide⟩) rv2q20).mp c_22
    exact th_vret hx hb hr hlocks hH hS ⟨hO, hF, hM, by rw [show aF σ_J_21 (ad E a 1) = F1q19 from J_21_4]; exact cel.of (J_21_2) (by omega)⟩ dX11_copyTo_20
  · replace c_22 := mt (I_le (a := 240) (b := v2q20) (show rng 240 from ⟨by decide, by decide⟩) rv2q20).mpr c_22
    refine lv_aload_n hx hb dX11_copyTo_8 rfl (lv_at hl 0 rfl) ?_
    refine lv_iload_n hx hb dX11_copyTo_9 rfl (lv_at hl 2 rfl) ?_
    refine lv_aload_n hx hb dX11_copyTo_10 rfl (lv_at hl 1 rfl) ?_
    refine lv_iload_n hx hb dX11_copyTo_11 rfl (lv_at hl 2 rfl) ?_
    refine m_iald hx hb hK hH hO h_a k13_57 isA1 J_21_3 rv2q20 (by omega) (by omega) dX11_copyTo_12 (fun z_23 ez_23 rz_23 elx9 => ?_)
    refine m_iast hx hb hK hH hS h00 hO h_a k13_1 isA1 (by decide) J_21_4 rv2q20 (by omega) (by omega) rz_23 el1 dX11_copyTo_13 (fun σ_s_24 H locs hO hF9 hM9 ha9 hH hS => ?_)
    replace hM := hM.tu hM9 (by decide)
    replace hF := hF.tu hF9 (by decide)
    have e_25 : aF σ_s_24 (ad E a 57) = f57 := (hM9.a (by decide) (by decide)).trans J_21_3
    obtain ⟨g_26, dg_26⟩ : ∃ g9, g9 = upd F1q19 (v2q20).toNat (I z_23) := ⟨_, rfl⟩
    rw [← dg_26] at ha9
    have ef_27 := ha9
    refine lv_iinc (v := I (v2q20 + 1)) (lv' := [(2, .int (I (v2q20 + 1))), (0, .ref (ad E a 1)), (1, .ref (ad E a 57))]) hx hb dX11_copyTo_14 hl (k := 2) rfl (I_add _ _) (by decide) rfl (fun ls hl => ?_)
    refine lv_goto (tgt := 2) hx hb dX11_copyTo_17 (by decide) ?_
    exact ihJ_21 (v2q20 + 1, g_26) σ_s_24 _ _ _ (by first | (dsimp only; omega) | omega) ⟨hO, hF, hM, hH, hS, lv_sub hl [1, 2, 0] rfl, ⟨by first | (dsimp only; omega) | omega, by first | (dsimp only; omega) | omega⟩, by first | (dsimp only; omega) | omega, by first | (dsimp only; omega) | omega, (J_21_2.step dg_26 (by first | (dsimp only; omega) | omega) ez_23 (by first | (dsimp only; omega) | omega) (by first | (dsimp only; omega) | omega) (by first | (dsimp only; omega) | omega)), e_25, ef_27⟩

set_option maxHeartbeats 4000000 in
set_option maxRecDepth 100000 in
theorem m_happens (l : Launch) (G : va_G) (y : Nat → ClassId) (b0 : Nat) (σ : th_M) (E : th_E) (hO : ok y E σ) (a : Nat) (h_a : kd E a = 13) (f1 : Nat → Int32) (ef1 : aF σ (ad E a 1) = f1) (f2 : Nat → Int32) (ef2 : aF σ (ad E a 2) = f2) (f8 : Nat → Int32) (ef8 : aF σ (ad E a 8) = f8) (f37 : Nat → Int32) (ef37 : aF σ (ad E a 37) = f37) (hy0 : wf f1 0 (mS f1 0)) (hy1 : 1 ≤ mS f1 0 ∧ mS f1 0 ≤ 60) (hy2 : tr f1) (hy3 : trs f37 (gI σ a 36)) : Met l yX11_happens wsX11_happens ({ frames := 52, cells := 0, slots := 0, locals := 1742 }) (th_P G y b0 σ [.ref a]) (th_Qi G b0 (fun r σ1 => ok y E σ1 ∧ fr [13] E σ σ1 ∧ fm [1, 3, 5, 9, 10, 11, 13, 14, 15, 16, 17, 18, 19, 20, 23, 24, 25, 26, 27, 28, 29, 30, 31, 32, 34, 35, 36, 37, 56] E σ σ1 a ∧ (0 ≤ r ∧ r ≤ 1) ∧ (tr (aF σ1 (ad E a 1)) ∧ trs (aF σ1 (ad E a 37)) (gI σ1 a 36)))) 0 0 (th_A b0) := by
  refine Met.ofW (cc := cX11_happens) (maxL := 4) (ret := (some .boolean)) (by decide) rfl ?_
  intro p e s m args below meth c s₁ B hml hv
  obtain ⟨rfl, hH, hK⟩ := hv
  have hx := B.exec
  have hb := B.bytes
  have hr := B.returns
  have hts := atoms_spec (ws := wsX11_happens) B.pre
  have hown : s.vm.findClass RX11 = some m.cls := findClass_of_methodNamed B.named
  have hlocks := B.notSynchronized
  have h00 : b0 ≤ s.heap.size := hH.1
  have hS : va_S (th_A b0) s.heap s.heap [] := va_S.rf
  have hF : fr [13] E σ σ := fr.rf
  have hM : fm [1, 3, 5, 9, 10, 11, 13, 14, 15, 16, 17, 18, 19, 20, 23, 24, 25, 26, 27, 28, 29, 30, 31, 32, 34, 35, 36, 37, 56] E σ σ a := fm.rf
  have hl := lv_entry ([.ref a]) (n := 4) (Nat.le_of_ble_eq_true rfl)
  rw [lg_entry_eq]
  generalize (lg_sl ([.ref a]) ++ List.replicate (4 - (lg_sl ([.ref a])).length) Slot.unset).toArray = ls at hl ⊢
  have hl : lv_has ls 4 [(0, .ref a)] := hl
  obtain ⟨a360, ea360, ra360, la360, ua360⟩ := hO.gi h_a (by decide) k13_36
  refine lv_aload_n hx hb dX11_happens_0 rfl (lv_at hl 0 rfl) ?_
  refine lv_iconst (v := I 5) hx hb dX11_happens_1 (by decide) ?_
  obtain ⟨_, hc_1⟩ := hO.cell h_a (by decide) (ci := 11) rfl
  refine th_calli (va_runV (As := [.int (I 5)]) (rest := []) ⟨hx, hb, hml, hown, hts⟩ (m_draw l G y b0 σ E hO a h_a 5 (show rng 5 from (show rng 5 from ⟨by decide, by decide⟩)) (by omega)) (cwV 1 hts gX11_happens_X11_draw rfl rfl rfl (by decide +kernel) ⟨Nat.le_of_ble_eq_true rfl, Nat.le_of_ble_eq_true rfl⟩) (th_PV hK hH rfl hc_1) rfl rfl hl.1 rfl (lv_room (Nat.le_of_ble_eq_true rfl)) dX11_happens_2 ⟨Nat.le_of_ble_eq_true rfl, Nat.le_of_ble_eq_true rfl⟩) hS (fun z_4 σ_s_3 H locs rz_4 hw_2 hH hS => ?_)
  obtain ⟨hO9, hF9, hM9, hw_2⟩ := hw_2
  replace hM := hM.tu hM9 (by decide)
  replace hF := hF.tu hF9 (by decide)
  have e_5 : aF σ_s_3 (ad E a 1) = f1 := (hM9.a (by decide) (by decide)).trans ef1
  have e_6 : aF σ_s_3 (ad E a 2) = f2 := (hM9.a (by decide) (by decide)).trans ef2
  have e_7 : aF σ_s_3 (ad E a 8) = f8 := (hM9.a (by decide) (by decide)).trans ef8
  have e_8 : aF σ_s_3 (ad E a 37) = f37 := (hM9.a (by decide) (by decide)).trans ef37
  have e_9 : gI σ_s_3 a 36 = a360 := (hM9.i (by decide)).trans ea360
  replace hO := hO9
  have hw_2 : 0 ≤ z_4 ∧ z_4 < 5 := hw_2
  refine lv_istore_n (lv' := [(1, .int (I z_4)), (0, .ref a)]) hx hb dX11_happens_5 rfl hl (by decide) rfl (fun ls hl => ?_)
  refine lv_iload_n hx hb dX11_happens_6 rfl (lv_at hl 0 rfl) ?_
  refine lv_iconst (v := I 4) hx hb dX11_happens_7 (by decide) ?_
  refine lv_icmp_ne (tgt := 44) hx hb dX11_happens_8 (by decide) (fun c_10 => ?_) (fun c_10 => ?_)
  · replace c_10 := mt (I_eq (a := z_4) (b := 4) rz_4 (show rng 4 from ⟨by decide, by decide⟩)).mpr c_10
    refine lv_aload_n hx hb dX11_happens_44 rfl (lv_at hl 1 rfl) ?_
    refine lv_iconst (v := I 4) hx hb dX11_happens_45 (by decide) ?_
    obtain ⟨_, hc_11⟩ := hO.cell h_a (by decide) (ci := 11) rfl
    refine th_calli (va_runV (As := [.int (I 4)]) (rest := []) ⟨hx, hb, hml, hown, hts⟩ (m_draw l G y b0 σ_s_3 E hO a h_a 4 (show rng 4 from (show rng 4 from ⟨by decide, by decide⟩)) (by omega)) (cwV 1 hts gX11_happens_X11_draw rfl rfl rfl (by decide +kernel) ⟨Nat.le_of_ble_eq_true rfl, Nat.le_of_ble_eq_true rfl⟩) (th_PV hK hH rfl hc_11) rfl rfl hl.1 rfl (lv_room (Nat.le_of_ble_eq_true rfl)) dX11_happens_46 ⟨Nat.le_of_ble_eq_true rfl, Nat.le_of_ble_eq_true rfl⟩) hS (fun z_14 σ_s_13 H locs rz_14 hw_12 hH hS => ?_)
    obtain ⟨hO9, hF9, hM9, hw_12⟩ := hw_12
    replace hM := hM.tu hM9 (by decide)
    replace hF := hF.tu hF9 (by decide)
    have e_15 : aF σ_s_13 (ad E a 1) = f1 := (hM9.a (by decide) (by decide)).trans e_5
    have e_16 : aF σ_s_13 (ad E a 2) = f2 := (hM9.a (by decide) (by decide)).trans e_6
    have e_17 : aF σ_s_13 (ad E a 8) = f8 := (hM9.a (by decide) (by decide)).trans e_7
    have e_18 : aF σ_s_13 (ad E a 37) = f37 := (hM9.a (by decide) (by decide)).trans e_8
    have e_19 : gI σ_s_13 a 36 = a360 := (hM9.i (by decide)).trans e_9
    replace hO := hO9
    have hw_12 : 0 ≤ z_14 ∧ z_14 < 4 := hw_12
    refine lv_istore_n (lv' := [(2, .int (I z_14)), (1, .int (I z_4)), (0, .ref a)]) hx hb dX11_happens_49 rfl hl (by decide) rfl (fun ls hl => ?_)
    refine lv_iload_n hx hb dX11_happens_50 rfl (lv_at hl 1 rfl) ?_
    refine lv_if_ne (tgt := 66) hx hb dX11_happens_51 (by decide) (fun c_20 => ?_) (fun c_20 => ?_)
    · replace c_20 := mt (I_eq (a := z_4) (b := 0) rz_4 (show rng 0 from ⟨by decide, by decide⟩)).mpr c_20
      refine lv_iconst (v := I 0) hx hb dX11_happens_66 (by decide) ?_
      refine lv_istore_n (lv' := [(3, .int (I 0)), (2, .int (I z_14)), (1, .int (I z_4)), (0, .ref a)]) hx hb dX11_happens_67 rfl hl (by decide) rfl (fun ls hl => ?_)
      refine lv_aload_n hx hb dX11_happens_68 rfl (lv_at hl 3 rfl) ?_
      refine lv_iload_n hx hb dX11_happens_69 rfl (lv_at hl 1 rfl) ?_
      obtain ⟨_, hc_21⟩ := hO.cell h_a (by decide) (ci := 11) rfl
      refine th_calli (va_runV (As := [.int (I z_14)]) (rest := []) ⟨hx, hb, hml, hown, hts⟩ (m_isPath l G y b0 σ_s_13 E hO a h_a z_14 (show rng z_14 from rz_14) f8 e_17) (cwV 1 hts gX11_happens_X11_isPath rfl rfl rfl (by decide +kernel) ⟨Nat.le_of_ble_eq_true rfl, Nat.le_of_ble_eq_true rfl⟩) (th_PV hK hH rfl hc_21) rfl rfl hl.1 rfl (lv_room (Nat.le_of_ble_eq_true rfl)) dX11_happens_70 ⟨Nat.le_of_ble_eq_true rfl, Nat.le_of_ble_eq_true rfl⟩) hS (fun z_24 σ_s_23 H locs rz_24 hw_22 hH hS => ?_)
      obtain ⟨e9, bhw_22, hw_22⟩ := hw_22
      replace e9 := e9.symm
      subst e9
      have hw_22 : (z_24 = 1 ∧ 0 ≤ z_14 ∧ z_14 ≤ 3 ∧ 1 ≤ (f8 z_14.toNat).toInt) ∨ z_24 = 0 := hw_22
      refine lv_if_eq (tgt := 103) hx hb dX11_happens_73 (by decide) (fun c_25 => ?_) (fun c_25 => ?_)
      · replace c_25 := (I_eq (a := z_24) (b := 0) rz_24 (show rng 0 from ⟨by decide, by decide⟩)).mp c_25
        refine lv_iconst (v := I 0) hx hb dX11_happens_103 (by decide) ?_
        exact th_zret hx hb hr hlocks hH hS (z := 0) (by omega) ⟨hO, hF, hM, ⟨by omega, by omega⟩, by rw [show aF σ_s_13 (ad E a 1) = f1 from e_15, show aF σ_s_13 (ad E a 37) = f37 from e_18]; exact ⟨hy2, hy3.le (by omega)⟩⟩ dX11_happens_104
      · replace c_25 := mt (I_eq (a := z_24) (b := 0) rz_24 (show rng 0 from ⟨by decide, by decide⟩)).mpr c_25
        refine lv_aload_n hx hb dX11_happens_76 rfl (lv_at hl 3 rfl) ?_
        refine lv_iload_n hx hb dX11_happens_77 rfl (lv_at hl 1 rfl) ?_
        refine lv_iload_n hx hb dX11_happens_78 rfl (lv_at hl 2 rfl) ?_
        refine lv_if_ne (tgt := 86) hx hb dX11_happens_79 (by decide) (fun c_26 => ?_) (fun c_26 => ?_)
        · replace c_26 := mt (I_eq (a := z_4) (b := 0) rz_4 (show rng 0 from ⟨by decide, by decide⟩)).mpr c_26
          refine lv_iconst (v := I 4) hx hb dX11_happens_86 (by decide) ?_
          refine lv_iload_n hx hb dX11_happens_87 rfl (lv_at hl 2 rfl) ?_
          refine lv_iadd hx hb dX11_happens_88 ?_
          refine nq_top (I_add _ _) ?_
          refine lv_iconst (v := I 1) hx hb dX11_happens_89 (by decide) ?_
          refine lv_isub hx hb dX11_happens_90 ?_
          refine nq_top (I_sub _ _) ?_
          refine lv_iload_n hx hb dX11_happens_91 rfl (lv_at hl 0 rfl) ?_
          obtain ⟨f_27, ef_28⟩ : ∃ f9, aF σ_s_13 (ad E a 3) = f9 := ⟨_, rfl⟩
          obtain ⟨f_29, ef_30⟩ : ∃ f9, aF σ_s_13 (ad E a 35) = f9 := ⟨_, rfl⟩
          obtain ⟨_, hc_31⟩ := hO.cell h_a (by decide) (ci := 11) rfl
          refine th_calli (va_runV (As := [.int (I z_14), .int (I (4 + z_4 - 1)), .int (I 0)]) (rest := []) ⟨hx, hb, hml, hown, hts⟩ (m_changes l G y b0 σ_s_13 E hO a h_a z_14 (show rng z_14 from rz_14) (by omega) (by omega) (4 + z_4 - 1) (show rng (4 + z_4 - 1) from ⟨by omega, by omega⟩) (by omega) (by omega) 0 (show rng 0 from (show rng 0 from ⟨by decide, by decide⟩)) f1 e_15 f2 e_16 f_27 ef_28 f8 e_17 f_29 ef_30 f37 e_18 (hy0) (by omega) (hy2) ((hy3.le (by omega))) ((by omega)) ((fun h9 => by omega))) (cwV 3 hts gX11_happens_X11_changes rfl rfl rfl (by decide +kernel) ⟨Nat.le_of_ble_eq_true rfl, Nat.le_of_ble_eq_true rfl⟩) (th_PV hK hH rfl hc_31) rfl rfl hl.1 rfl (lv_room (Nat.le_of_ble_eq_true rfl)) dX11_happens_92 ⟨Nat.le_of_ble_eq_true rfl, Nat.le_of_ble_eq_true rfl⟩) hS (fun z_34 σ_s_33 H locs rz_34 hw_32 hH hS => ?_)
          obtain ⟨hO9, hF9, hM9, hw_32⟩ := hw_32
          replace hM := hM.tu hM9 (by decide)
          replace hF := hF.tu hF9 (by decide)
          have e_35 : aF σ_s_33 (ad E a 2) = f2 := (hM9.a (by decide) (by decide)).trans e_16
          have e_36 : aF σ_s_33 (ad E a 8) = f8 := (hM9.a (by decide) (by decide)).trans e_17
          replace hO := hO9
          generalize ef_38 : aF σ_s_33 (ad E a 1) = g_37 at hw_32
          generalize ef_40 : aF σ_s_33 (ad E a 37) = g_39 at hw_32
          have hw_32 : tr g_37 ∧ trs g_39 (gI σ_s_33 a 36) := hw_32
          refine lv_iconst (v := I (-1)) hx hb dX11_happens_95 (by decide) ?_
          refine lv_icmp_eq (tgt := 103) hx hb dX11_happens_96 (by decide) (fun c_41 => ?_) (fun c_41 => ?_)
          · replace c_41 := (I_eq (a := z_34) (b := (-1)) rz_34 (show rng (-1) from ⟨by decide, by decide⟩)).mp c_41
            refine lv_iconst (v := I 0) hx hb dX11_happens_103 (by decide) ?_
            exact th_zret hx hb hr hlocks hH hS (z := 0) (by omega) ⟨hO, hF, hM, ⟨by omega, by omega⟩, by have h9 := hw_32; rw [show aF σ_s_33 (ad E a 1) = g_37 from ef_38, show aF σ_s_33 (ad E a 37) = g_39 from ef_40]; exact ⟨h9.1, h9.2⟩⟩ dX11_happens_104
          · replace c_41 := mt (I_eq (a := z_34) (b := (-1)) rz_34 (show rng (-1) from ⟨by decide, by decide⟩)).mpr c_41
            refine lv_iconst (v := I 1) hx hb dX11_happens_99 (by decide) ?_
            refine lv_goto (tgt := 104) hx hb dX11_happens_100 (by decide) ?_
            exact th_zret hx hb hr hlocks hH hS (z := 1) (by omega) ⟨hO, hF, hM, ⟨by omega, by omega⟩, by have h9 := hw_32; rw [show aF σ_s_33 (ad E a 1) = g_37 from ef_38, show aF σ_s_33 (ad E a 37) = g_39 from ef_40]; exact ⟨h9.1, h9.2⟩⟩ dX11_happens_104
        · replace c_26 := (I_eq (a := z_4) (b := 0) rz_4 (show rng 0 from ⟨by decide, by decide⟩)).mp c_26
          refine lv_iconst (v := I 3) hx hb dX11_happens_82 (by decide) ?_
          refine lv_goto (tgt := 91) hx hb dX11_happens_83 (by decide) ?_
          refine lv_iload_n hx hb dX11_happens_91 rfl (lv_at hl 0 rfl) ?_
          obtain ⟨f_42, ef_43⟩ : ∃ f9, aF σ_s_13 (ad E a 3) = f9 := ⟨_, rfl⟩
          obtain ⟨f_44, ef_45⟩ : ∃ f9, aF σ_s_13 (ad E a 35) = f9 := ⟨_, rfl⟩
          obtain ⟨_, hc_46⟩ := hO.cell h_a (by decide) (ci := 11) rfl
          refine th_calli (va_runV (As := [.int (I z_14), .int (I 3), .int (I 0)]) (rest := []) ⟨hx, hb, hml, hown, hts⟩ (m_changes l G y b0 σ_s_13 E hO a h_a z_14 (show rng z_14 from rz_14) (by omega) (by omega) 3 (show rng 3 from (show rng 3 from ⟨by decide, by decide⟩)) (by omega) (by omega) 0 (show rng 0 from (show rng 0 from ⟨by decide, by decide⟩)) f1 e_15 f2 e_16 f_42 ef_43 f8 e_17 f_44 ef_45 f37 e_18 (hy0) (by omega) (hy2) ((hy3.le (by omega))) ((by omega)) ((fun h9 => by omega))) (cwV 3 hts gX11_happens_X11_changes rfl rfl rfl (by decide +kernel) ⟨Nat.le_of_ble_eq_true rfl, Nat.le_of_ble_eq_true rfl⟩) (th_PV hK hH rfl hc_46) rfl rfl hl.1 rfl (lv_room (Nat.le_of_ble_eq_true rfl)) dX11_happens_92 ⟨Nat.le_of_ble_eq_true rfl, Nat.le_of_ble_eq_true rfl⟩) hS (fun z_49 σ_s_48 H locs rz_49 hw_47 hH hS => ?_)
          obtain ⟨hO9, hF9, hM9, hw_47⟩ := hw_47
          replace hM := hM.tu hM9 (by decide)
          replace hF := hF.tu hF9 (by decide)
          have e_50 : aF σ_s_48 (ad E a 2) = f2 := (hM9.a (by decide) (by decide)).trans e_16
          have e_51 : aF σ_s_48 (ad E a 8) = f8 := (hM9.a (by decide) (by decide)).trans e_17
          replace hO := hO9
          generalize ef_53 : aF σ_s_48 (ad E a 1) = g_52 at hw_47
          generalize ef_55 : aF σ_s_48 (ad E a 37) = g_54 at hw_47
          have hw_47 : tr g_52 ∧ trs g_54 (gI σ_s_48 a 36) := hw_47
          refine lv_iconst (v := I (-1)) hx hb dX11_happens_95 (by decide) ?_
          refine lv_icmp_eq (tgt := 103) hx hb dX11_happens_96 (by decide) (fun c_56 => ?_) (fun c_56 => ?_)
          · replace c_56 := (I_eq (a := z_49) (b := (-1)) rz_49 (show rng (-1) from ⟨by decide, by decide⟩)).mp c_56
            refine lv_iconst (v := I 0) hx hb dX11_happens_103 (by decide) ?_
            exact th_zret hx hb hr hlocks hH hS (z := 0) (by omega) ⟨hO, hF, hM, ⟨by omega, by omega⟩, by have h9 := hw_47; rw [show aF σ_s_48 (ad E a 1) = g_52 from ef_53, show aF σ_s_48 (ad E a 37) = g_54 from ef_55]; exact ⟨h9.1, h9.2⟩⟩ dX11_happens_104
          · replace c_56 := mt (I_eq (a := z_49) (b := (-1)) rz_49 (show rng (-1) from ⟨by decide, by decide⟩)).mpr c_56
            refine lv_iconst (v := I 1) hx hb dX11_happens_99 (by decide) ?_
            refine lv_goto (tgt := 104) hx hb dX11_happens_100 (by decide) ?_
            exact th_zret hx hb hr hlocks hH hS (z := 1) (by omega) ⟨hO, hF, hM, ⟨by omega, by omega⟩, by have h9 := hw_47; rw [show aF σ_s_48 (ad E a 1) = g_52 from ef_53, show aF σ_s_48 (ad E a 37) = g_54 from ef_55]; exact ⟨h9.1, h9.2⟩⟩ dX11_happens_104
    · replace c_20 := (I_eq (a := z_4) (b := 0) rz_4 (show rng 0 from ⟨by decide, by decide⟩)).mp c_20
      refine lv_aload_n hx hb dX11_happens_54 rfl (lv_at hl 2 rfl) ?_
      refine lv_bipush (v := I 21) hx hb dX11_happens_55 (by decide) ?_
      obtain ⟨_, hc_57⟩ := hO.cell h_a (by decide) (ci := 11) rfl
      refine th_calli (va_runV (As := [.int (I 21)]) (rest := []) ⟨hx, hb, hml, hown, hts⟩ (m_draw l G y b0 σ_s_13 E hO a h_a 21 (show rng 21 from (show rng 21 from ⟨by decide, by decide⟩)) (by omega)) (cwV 1 hts gX11_happens_X11_draw rfl rfl rfl (by decide +kernel) ⟨Nat.le_of_ble_eq_true rfl, Nat.le_of_ble_eq_true rfl⟩) (th_PV hK hH rfl hc_57) rfl rfl hl.1 rfl (lv_room (Nat.le_of_ble_eq_true rfl)) dX11_happens_57 ⟨Nat.le_of_ble_eq_true rfl, Nat.le_of_ble_eq_true rfl⟩) hS (fun z_60 σ_s_59 H locs rz_60 hw_58 hH hS => ?_)
      obtain ⟨hO9, hF9, hM9, hw_58⟩ := hw_58
      replace hM := hM.tu hM9 (by decide)
      replace hF := hF.tu hF9 (by decide)
      have e_61 : aF σ_s_59 (ad E a 1) = f1 := (hM9.a (by decide) (by decide)).trans e_15
      have e_62 : aF σ_s_59 (ad E a 2) = f2 := (hM9.a (by decide) (by decide)).trans e_16
      have e_63 : aF σ_s_59 (ad E a 8) = f8 := (hM9.a (by decide) (by decide)).trans e_17
      have e_64 : aF σ_s_59 (ad E a 37) = f37 := (hM9.a (by decide) (by decide)).trans e_18
      have e_65 : gI σ_s_59 a 36 = a360 := (hM9.i (by decide)).trans e_19
      replace hO := hO9
      have hw_58 : 0 ≤ z_60 ∧ z_60 < 21 := hw_58
      refine lv_bipush (v := I 10) hx hb dX11_happens_60 (by decide) ?_
      refine lv_isub hx hb dX11_happens_62 ?_
      refine nq_top (I_sub _ _) ?_
      refine lv_goto (tgt := 67) hx hb dX11_happens_63 (by decide) ?_
      refine lv_istore_n (lv' := [(3, .int (I (z_60 - 10))), (2, .int (I z_14)), (1, .int (I z_4)), (0, .ref a)]) hx hb dX11_happens_67 rfl hl (by decide) rfl (fun ls hl => ?_)
      refine lv_aload_n hx hb dX11_happens_68 rfl (lv_at hl 3 rfl) ?_
      refine lv_iload_n hx hb dX11_happens_69 rfl (lv_at hl 1 rfl) ?_
      obtain ⟨_, hc_66⟩ := hO.cell h_a (by decide) (ci := 11) rfl
      refine th_calli (va_runV (As := [.int (I z_14)]) (rest := []) ⟨hx, hb, hml, hown, hts⟩ (m_isPath l G y b0 σ_s_59 E hO a h_a z_14 (show rng z_14 from rz_14) f8 e_63) (cwV 1 hts gX11_happens_X11_isPath rfl rfl rfl (by decide +kernel) ⟨Nat.le_of_ble_eq_true rfl, Nat.le_of_ble_eq_true rfl⟩) (th_PV hK hH rfl hc_66) rfl rfl hl.1 rfl (lv_room (Nat.le_of_ble_eq_true rfl)) dX11_happens_70 ⟨Nat.le_of_ble_eq_true rfl, Nat.le_of_ble_eq_true rfl⟩) hS (fun z_69 σ_s_68 H locs rz_69 hw_67 hH hS => ?_)
      obtain ⟨e9, bhw_67, hw_67⟩ := hw_67
      replace e9 := e9.symm
      subst e9
      have hw_67 : (z_69 = 1 ∧ 0 ≤ z_14 ∧ z_14 ≤ 3 ∧ 1 ≤ (f8 z_14.toNat).toInt) ∨ z_69 = 0 := hw_67
      refine lv_if_eq (tgt := 103) hx hb dX11_happens_73 (by decide) (fun c_70 => ?_) (fun c_70 => ?_)
      · replace c_70 := (I_eq (a := z_69) (b := 0) rz_69 (show rng 0 from ⟨by decide, by decide⟩)).mp c_70
        refine lv_iconst (v := I 0) hx hb dX11_happens_103 (by decide) ?_
        exact th_zret hx hb hr hlocks hH hS (z := 0) (by omega) ⟨hO, hF, hM, ⟨by omega, by omega⟩, by rw [show aF σ_s_59 (ad E a 1) = f1 from e_61, show aF σ_s_59 (ad E a 37) = f37 from e_64]; exact ⟨hy2, hy3.le (by omega)⟩⟩ dX11_happens_104
      · replace c_70 := mt (I_eq (a := z_69) (b := 0) rz_69 (show rng 0 from ⟨by decide, by decide⟩)).mpr c_70
        refine lv_aload_n hx hb dX11_happens_76 rfl (lv_at hl 3 rfl) ?_
        refine lv_iload_n hx hb dX11_happens_77 rfl (lv_at hl 1 rfl) ?_
        refine lv_iload_n hx hb dX11_happens_78 rfl (lv_at hl 2 rfl) ?_
        refine lv_if_ne (tgt := 86) hx hb dX11_happens_79 (by decide) (fun c_71 => ?_) (fun c_71 => ?_)
        · replace c_71 := mt (I_eq (a := z_4) (b := 0) rz_4 (show rng 0 from ⟨by decide, by decide⟩)).mpr c_71
          refine lv_iconst (v := I 4) hx hb dX11_happens_86 (by decide) ?_
          refine lv_iload_n hx hb dX11_happens_87 rfl (lv_at hl 2 rfl) ?_
          refine lv_iadd hx hb dX11_happens_88 ?_
          refine nq_top (I_add _ _) ?_
          refine lv_iconst (v := I 1) hx hb dX11_happens_89 (by decide) ?_
          refine lv_isub hx hb dX11_happens_90 ?_
          refine nq_top (I_sub _ _) ?_
          refine lv_iload_n hx hb dX11_happens_91 rfl (lv_at hl 0 rfl) ?_
          obtain ⟨f_72, ef_73⟩ : ∃ f9, aF σ_s_59 (ad E a 3) = f9 := ⟨_, rfl⟩
          obtain ⟨f_74, ef_75⟩ : ∃ f9, aF σ_s_59 (ad E a 35) = f9 := ⟨_, rfl⟩
          obtain ⟨_, hc_76⟩ := hO.cell h_a (by decide) (ci := 11) rfl
          refine th_calli (va_runV (As := [.int (I z_14), .int (I (4 + z_4 - 1)), .int (I (z_60 - 10))]) (rest := []) ⟨hx, hb, hml, hown, hts⟩ (m_changes l G y b0 σ_s_59 E hO a h_a z_14 (show rng z_14 from rz_14) (by omega) (by omega) (4 + z_4 - 1) (show rng (4 + z_4 - 1) from ⟨by omega, by omega⟩) (by omega) (by omega) (z_60 - 10) (show rng (z_60 - 10) from ⟨by omega, by omega⟩) f1 e_61 f2 e_62 f_72 ef_73 f8 e_63 f_74 ef_75 f37 e_64 (hy0) (by omega) (hy2) ((hy3.le (by omega))) ((by omega)) ((fun h9 => by omega))) (cwV 3 hts gX11_happens_X11_changes rfl rfl rfl (by decide +kernel) ⟨Nat.le_of_ble_eq_true rfl, Nat.le_of_ble_eq_true rfl⟩) (th_PV hK hH rfl hc_76) rfl rfl hl.1 rfl (lv_room (Nat.le_of_ble_eq_true rfl)) dX11_happens_92 ⟨Nat.le_of_ble_eq_true rfl, Nat.le_of_ble_eq_true rfl⟩) hS (fun z_79 σ_s_78 H locs rz_79 hw_77 hH hS => ?_)
          obtain ⟨hO9, hF9, hM9, hw_77⟩ := hw_77
          replace hM := hM.tu hM9 (by decide)
          replace hF := hF.tu hF9 (by decide)
          have e_80 : aF σ_s_78 (ad E a 2) = f2 := (hM9.a (by decide) (by decide)).trans e_62
          have e_81 : aF σ_s_78 (ad E a 8) = f8 := (hM9.a (by decide) (by decide)).trans e_63
          replace hO := hO9
          generalize ef_83 : aF σ_s_78 (ad E a 1) = g_82 at hw_77
          generalize ef_85 : aF σ_s_78 (ad E a 37) = g_84 at hw_77
          have hw_77 : tr g_82 ∧ trs g_84 (gI σ_s_78 a 36) := hw_77
          refine lv_iconst (v := I (-1)) hx hb dX11_happens_95 (by decide) ?_
          refine lv_icmp_eq (tgt := 103) hx hb dX11_happens_96 (by decide) (fun c_86 => ?_) (fun c_86 => ?_)
          · replace c_86 := (I_eq (a := z_79) (b := (-1)) rz_79 (show rng (-1) from ⟨by decide, by decide⟩)).mp c_86
            refine lv_iconst (v := I 0) hx hb dX11_happens_103 (by decide) ?_
            exact th_zret hx hb hr hlocks hH hS (z := 0) (by omega) ⟨hO, hF, hM, ⟨by omega, by omega⟩, by have h9 := hw_77; rw [show aF σ_s_78 (ad E a 1) = g_82 from ef_83, show aF σ_s_78 (ad E a 37) = g_84 from ef_85]; exact ⟨h9.1, h9.2⟩⟩ dX11_happens_104
          · replace c_86 := mt (I_eq (a := z_79) (b := (-1)) rz_79 (show rng (-1) from ⟨by decide, by decide⟩)).mpr c_86
            refine lv_iconst (v := I 1) hx hb dX11_happens_99 (by decide) ?_
            refine lv_goto (tgt := 104) hx hb dX11_happens_100 (by decide) ?_
            exact th_zret hx hb hr hlocks hH hS (z := 1) (by omega) ⟨hO, hF, hM, ⟨by omega, by omega⟩, by have h9 := hw_77; rw [show aF σ_s_78 (ad E a 1) = g_82 from ef_83, show aF σ_s_78 (ad E a 37) = g_84 from ef_85]; exact ⟨h9.1, h9.2⟩⟩ dX11_happens_104
        · replace c_71 := (I_eq (a := z_4) (b := 0) rz_4 (show rng 0 from ⟨by decide, by decide⟩)).mp c_71
          refine lv_iconst (v := I 3) hx hb dX11_happens_82 (by decide) ?_
          refine lv_goto (tgt := 91) hx hb dX11_happens_83 (by decide) ?_
          refine lv_iload_n hx hb dX11_happens_91 rfl (lv_at hl 0 rfl) ?_
          obtain ⟨f_87, ef_88⟩ : ∃ f9, aF σ_s_59 (ad E a 3) = f9 := ⟨_, rfl⟩
          obtain ⟨f_89, ef_90⟩ : ∃ f9, aF σ_s_59 (ad E a 35) = f9 := ⟨_, rfl⟩
          obtain ⟨_, hc_91⟩ := hO.cell h_a (by decide) (ci := 11) rfl
          refine th_calli (va_runV (As := [.int (I z_14), .int (I 3), .int (I (z_60 - 10))]) (rest := []) ⟨hx, hb, hml, hown, hts⟩ (m_changes l G y b0 σ_s_59 E hO a h_a z_14 (show rng z_14 from rz_14) (by omega) (by omega) 3 (show rng 3 from (show rng 3 from ⟨by decide, by decide⟩)) (by omega) (by omega) (z_60 - 10) (show rng (z_60 - 10) from ⟨by omega, by omega⟩) f1 e_61 f2 e_62 f_87 ef_88 f8 e_63 f_89 ef_90 f37 e_64 (hy0) (by omega) (hy2) ((hy3.le (by omega))) ((by omega)) ((fun h9 => by omega))) (cwV 3 hts gX11_happens_X11_changes rfl rfl rfl (by decide +kernel) ⟨Nat.le_of_ble_eq_true rfl, Nat.le_of_ble_eq_true rfl⟩) (th_PV hK hH rfl hc_91) rfl rfl hl.1 rfl (lv_room (Nat.le_of_ble_eq_true rfl)) dX11_happens_92 ⟨Nat.le_of_ble_eq_true rfl, Nat.le_of_ble_eq_true rfl⟩) hS (fun z_94 σ_s_93 H locs rz_94 hw_92 hH hS => ?_)
          obtain ⟨hO9, hF9, hM9, hw_92⟩ := hw_92
          replace hM := hM.tu hM9 (by decide)
          replace hF := hF.tu hF9 (by decide)
          have e_95 : aF σ_s_93 (ad E a 2) = f2 := (hM9.a (by decide) (by decide)).trans e_62
          have e_96 : aF σ_s_93 (ad E a 8) = f8 := (hM9.a (by decide) (by decide)).trans e_63
          replace hO := hO9
          generalize ef_98 : aF σ_s_93 (ad E a 1) = g_97 at hw_92
          generalize ef_100 : aF σ_s_93 (ad E a 37) = g_99 at hw_92
          have hw_92 : tr g_97 ∧ trs g_99 (gI σ_s_93 a 36) := hw_92
          refine lv_iconst (v := I (-1)) hx hb dX11_happens_95 (by decide) ?_
          refine lv_icmp_eq (tgt := 103) hx hb dX11_happens_96 (by decide) (fun c_101 => ?_) (fun c_101 => ?_)
          · replace c_101 := (I_eq (a := z_94) (b := (-1)) rz_94 (show rng (-1) from ⟨by decide, by decide⟩)).mp c_101
            refine lv_iconst (v := I 0) hx hb dX11_happens_103 (by decide) ?_
            exact th_zret hx hb hr hlocks hH hS (z := 0) (by omega) ⟨hO, hF, hM, ⟨by omega, by omega⟩, by have h9 := hw_92; rw [show aF σ_s_93 (ad E a 1) = g_97 from ef_98, show aF σ_s_93 (ad E a 37) = g_99 from ef_100]; exact ⟨h9.1, h9.2⟩⟩ dX11_happens_104
          · replace c_101 := mt (I_eq (a := z_94) (b := (-1)) rz_94 (show rng (-1) from ⟨by decide, by decide⟩)).mpr c_101
            refine lv_iconst (v := I 1) hx hb dX11_happens_99 (by decide) ?_
            refine lv_goto (tgt := 104) hx hb dX11_happens_100 (by decide) ?_
            exact th_zret hx hb hr hlocks hH hS (z := 1) (by omega) ⟨hO, hF, hM, ⟨by omega, by omega⟩, by have h9 := hw_92; rw [show aF σ_s_93 (ad E a 1) = g_97 from ef_98, show aF σ_s_93 (ad E a 37) = g_99 from ef_100]; exact ⟨h9.1, h9.2⟩⟩ dX11_happens_104
  · replace c_10 := (I_eq (a := z_4) (b := 4) rz_4 (show rng 4 from ⟨by decide, by decide⟩)).mp c_10
    refine lv_aload_n hx hb dX11_happens_11 rfl (lv_at hl 1 rfl) ?_
    refine lv_aload_n hx hb dX11_happens_12 rfl (lv_at hl 1 rfl) ?_
    obtain ⟨_, hc_102⟩ := hO.cell h_a (by decide) (ci := 11) rfl
    refine th_calli (va_runV (As := []) (rest := [.ref a]) ⟨hx, hb, hml, hown, hts⟩ (m_things l G y b0 σ_s_3 E hO a h_a f1 e_5) (cwV 0 hts gX11_happens_X11_things rfl rfl rfl (by decide +kernel) ⟨Nat.le_of_ble_eq_true rfl, Nat.le_of_ble_eq_true rfl⟩) (th_PV hK hH rfl hc_102) rfl rfl hl.1 rfl (lv_room (Nat.le_of_ble_eq_true rfl)) dX11_happens_13 ⟨Nat.le_of_ble_eq_true rfl, Nat.le_of_ble_eq_true rfl⟩) hS (fun z_105 σ_s_104 H locs rz_105 hw_103 hH hS => ?_)
    obtain ⟨e9, hw_103⟩ := hw_103
    replace e9 := e9.symm
    subst e9
    have hw_103 : z_105 = mS f1 0 := hw_103
    obtain ⟨_, hc_106⟩ := hO.cell h_a (by decide) (ci := 11) rfl
    refine th_calli (va_runV (As := [.int (I z_105)]) (rest := []) ⟨hx, hb, hml, hown, hts⟩ (m_draw l G y b0 σ_s_3 E hO a h_a z_105 (show rng z_105 from rz_105) (by omega)) (cwV 1 hts gX11_happens_X11_draw rfl rfl rfl (by decide +kernel) ⟨Nat.le_of_ble_eq_true rfl, Nat.le_of_ble_eq_true rfl⟩) (th_PV hK hH rfl hc_106) rfl rfl hl.1 rfl (lv_room (Nat.le_of_ble_eq_true rfl)) dX11_happens_16 ⟨Nat.le_of_ble_eq_true rfl, Nat.le_of_ble_eq_true rfl⟩) hS (fun z_109 σ_s_108 H locs rz_109 hw_107 hH hS => ?_)
    obtain ⟨hO9, hF9, hM9, hw_107⟩ := hw_107
    replace hM := hM.tu hM9 (by decide)
    replace hF := hF.tu hF9 (by decide)
    have e_110 : aF σ_s_108 (ad E a 1) = f1 := (hM9.a (by decide) (by decide)).trans e_5
    have e_111 : aF σ_s_108 (ad E a 2) = f2 := (hM9.a (by decide) (by decide)).trans e_6
    have e_112 : aF σ_s_108 (ad E a 8) = f8 := (hM9.a (by decide) (by decide)).trans e_7
    have e_113 : aF σ_s_108 (ad E a 37) = f37 := (hM9.a (by decide) (by decide)).trans e_8
    have e_114 : gI σ_s_108 a 36 = a360 := (hM9.i (by decide)).trans e_9
    replace hO := hO9
    have hw_107 : 0 ≤ z_109 ∧ z_109 < z_105 := hw_107
    refine lv_istore_n (lv' := [(2, .int (I z_109)), (1, .int (I z_4)), (0, .ref a)]) hx hb dX11_happens_19 rfl hl (by decide) rfl (fun ls hl => ?_)
    refine lv_aload_n hx hb dX11_happens_20 rfl (lv_at hl 2 rfl) ?_
    refine lv_iload_n hx hb dX11_happens_21 rfl (lv_at hl 0 rfl) ?_
    refine lv_aload_n hx hb dX11_happens_22 rfl (lv_at hl 2 rfl) ?_
    refine lv_aload_n hx hb dX11_happens_23 rfl (lv_at hl 2 rfl) ?_
    obtain ⟨_, hc_115⟩ := hO.cell h_a (by decide) (ci := 11) rfl
    refine th_calli (va_runV (As := []) (rest := [.ref a, .int (I z_109), .ref a]) ⟨hx, hb, hml, hown, hts⟩ (m_things l G y b0 σ_s_108 E hO a h_a f1 e_110) (cwV 0 hts gX11_happens_X11_things rfl rfl rfl (by decide +kernel) ⟨Nat.le_of_ble_eq_true rfl, Nat.le_of_ble_eq_true rfl⟩) (th_PV hK hH rfl hc_115) rfl rfl hl.1 rfl (lv_room (Nat.le_of_ble_eq_true rfl)) dX11_happens_24 ⟨Nat.le_of_ble_eq_true rfl, Nat.le_of_ble_eq_true rfl⟩) hS (fun z_118 σ_s_117 H locs rz_118 hw_116 hH hS => ?_)
    obtain ⟨e9, hw_116⟩ := hw_116
    replace e9 := e9.symm
    subst e9
    have hw_116 : z_118 = mS f1 0 := hw_116
    obtain ⟨_, hc_119⟩ := hO.cell h_a (by decide) (ci := 11) rfl
    refine th_calli (va_runV (As := [.int (I z_118)]) (rest := [.int (I z_109), .ref a]) ⟨hx, hb, hml, hown, hts⟩ (m_draw l G y b0 σ_s_108 E hO a h_a z_118 (show rng z_118 from rz_118) (by omega)) (cwV 1 hts gX11_happens_X11_draw rfl rfl rfl (by decide +kernel) ⟨Nat.le_of_ble_eq_true rfl, Nat.le_of_ble_eq_true rfl⟩) (th_PV hK hH rfl hc_119) rfl rfl hl.1 rfl (lv_room (Nat.le_of_ble_eq_true rfl)) dX11_happens_27 ⟨Nat.le_of_ble_eq_true rfl, Nat.le_of_ble_eq_true rfl⟩) hS (fun z_122 σ_s_121 H locs rz_122 hw_120 hH hS => ?_)
    obtain ⟨hO9, hF9, hM9, hw_120⟩ := hw_120
    replace hM := hM.tu hM9 (by decide)
    replace hF := hF.tu hF9 (by decide)
    have e_123 : aF σ_s_121 (ad E a 1) = f1 := (hM9.a (by decide) (by decide)).trans e_110
    have e_124 : aF σ_s_121 (ad E a 2) = f2 := (hM9.a (by decide) (by decide)).trans e_111
    have e_125 : aF σ_s_121 (ad E a 8) = f8 := (hM9.a (by decide) (by decide)).trans e_112
    have e_126 : aF σ_s_121 (ad E a 37) = f37 := (hM9.a (by decide) (by decide)).trans e_113
    have e_127 : gI σ_s_121 a 36 = a360 := (hM9.i (by decide)).trans e_114
    replace hO := hO9
    have hw_120 : 0 ≤ z_122 ∧ z_122 < z_118 := hw_120
    refine lv_iconst (v := I 0) hx hb dX11_happens_30 (by decide) ?_
    obtain ⟨_, hc_128⟩ := hO.cell h_a (by decide) (ci := 11) rfl
    refine th_calli (va_runV (As := [.int (I z_109), .int (I z_122), .int (I 0)]) (rest := []) ⟨hx, hb, hml, hown, hts⟩ (m_moves l G y b0 σ_s_121 E hO a h_a z_109 (show rng z_109 from rz_109) z_122 (show rng z_122 from rz_122) 0 (show rng 0 from (show rng 0 from ⟨by decide, by decide⟩)) f1 e_123 f37 e_126 (hy0) (by omega) (hy2) ((hy3.le (by omega)))) (cwV 3 hts gX11_happens_X11_moves rfl rfl rfl (by decide +kernel) ⟨Nat.le_of_ble_eq_true rfl, Nat.le_of_ble_eq_true rfl⟩) (th_PV hK hH rfl hc_128) rfl rfl hl.1 rfl (lv_room (Nat.le_of_ble_eq_true rfl)) dX11_happens_31 ⟨Nat.le_of_ble_eq_true rfl, Nat.le_of_ble_eq_true rfl⟩) hS (fun z_131 σ_s_130 H locs rz_131 hw_129 hH hS => ?_)
    obtain ⟨hO9, hF9, hM9, hw_129⟩ := hw_129
    replace hM := hM.tu hM9 (by decide)
    replace hF := hF.tu hF9 (by decide)
    have e_132 : aF σ_s_130 (ad E a 2) = f2 := (hM9.a (by decide) (by decide)).trans e_124
    have e_133 : aF σ_s_130 (ad E a 8) = f8 := (hM9.a (by decide) (by decide)).trans e_125
    replace hO := hO9
    generalize ef_135 : aF σ_s_130 (ad E a 1) = g_134 at hw_129
    generalize ef_137 : aF σ_s_130 (ad E a 37) = g_136 at hw_129
    have hw_129 : tr g_134 ∧ trs g_136 (gI σ_s_130 a 36) := hw_129
    refine lv_iconst (v := I (-1)) hx hb dX11_happens_34 (by decide) ?_
    refine lv_icmp_eq (tgt := 42) hx hb dX11_happens_35 (by decide) (fun c_138 => ?_) (fun c_138 => ?_)
    · replace c_138 := (I_eq (a := z_131) (b := (-1)) rz_131 (show rng (-1) from ⟨by decide, by decide⟩)).mp c_138
      refine lv_iconst (v := I 0) hx hb dX11_happens_42 (by decide) ?_
      exact th_zret hx hb hr hlocks hH hS (z := 0) (by omega) ⟨hO, hF, hM, ⟨by omega, by omega⟩, by have h9 := hw_129; rw [show aF σ_s_130 (ad E a 1) = g_134 from ef_135, show aF σ_s_130 (ad E a 37) = g_136 from ef_137]; exact ⟨h9.1, h9.2⟩⟩ dX11_happens_43
    · replace c_138 := mt (I_eq (a := z_131) (b := (-1)) rz_131 (show rng (-1) from ⟨by decide, by decide⟩)).mpr c_138
      refine lv_iconst (v := I 1) hx hb dX11_happens_38 (by decide) ?_
      refine lv_goto (tgt := 43) hx hb dX11_happens_39 (by decide) ?_
      exact th_zret hx hb hr hlocks hH hS (z := 1) (by omega) ⟨hO, hF, hM, ⟨by omega, by omega⟩, by have h9 := hw_129; rw [show aF σ_s_130 (ad E a 1) = g_134 from ef_135, show aF σ_s_130 (ad E a 37) = g_136 from ef_137]; exact ⟨h9.1, h9.2⟩⟩ dX11_happens_43
