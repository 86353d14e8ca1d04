set_option maxHeartbeats 20000000 in
set_option maxRecDepth 100000 in
theorem n_fail (l : Launch) (G : va_G) (y : Nat → ClassId) (b0 : Nat) (σ : th_M) (E : th_E) (hO : ok y E σ) (a : Nat) (h_a : kd E a = 13) (i : Int) (ri : rng i) : Met l yX11_fail wsX11_fail ({ frames := 0, cells := 0, slots := 0, locals := 0 }) (th_P G y b0 σ [.ref a, .int (I i)]) (th_Qi G b0 (fun r σ1 => ok y E σ1 ∧ fr [13] E σ σ1 ∧ fm [0] E σ σ1 a ∧ (r = 0 ∧ gI σ1 a 0 = i))) 0 0 (th_A b0) := by
  refine Met.ofW (cc := cX11_fail) (maxL := 2) (ret := (some .int)) (by decide) rfl ?_
  intro p e s m args below meth c s₁ B hml hv
  obtain ⟨rfl, hH, hK⟩ := hv
  have hx := B.exec
  have hb := B.bytes
  have hr := B.returns
  have hts := atoms_spec (ws := wsX11_fail) B.pre
  have hown : s.vm.findClass RX11 = some m.cls := findClass_of_methodNamed B.named
  have hlocks := B.notSynchronized
  have h00 : b0 ≤ s.heap.size := hH.1
  have hS : va_S (th_A b0) s.heap s.heap [] := va_S.rf
  have hF : fr [13] E σ σ := fr.rf
  have hM : fm [0] E σ σ a := fm.rf
  have inX11 : ∀ w ∈ wsX110, w ∈ wsX11_fail := by decide +kernel
  have fl0 := hts (.fieldLink RX11 111 "NestQueryModel" "code" "I") (by decide +kernel)
  have hl := lv_entry ([.ref a, .int (I i)]) (n := 2) (Nat.le_of_ble_eq_true rfl)
  rw [lg_entry_eq]
  generalize (lg_sl ([.ref a, .int (I i)]) ++ List.replicate (2 - (lg_sl ([.ref a, .int (I i)])).length) Slot.unset).toArray = ls at hl ⊢
  have hl : lv_has ls 2 [(0, .ref a), (1, .int (I i))] := hl
  refine lv_aload_n hx hb dX11_fail_0 rfl (lv_at hl 0 rfl) ?_
  refine lv_iload_n hx hb dX11_fail_1 rfl (lv_at hl 1 rfl) ?_
  refine ok.putJ hO h_a k13_0 ri (by omega) (by omega) (fun _ he hl9 kk => th_put (ci := 11) (v := .int (I i)) (ty := .int) (C := RX11) (T := TX11) (N := 66) hx hb hts inX11 tyX11 tyX11_ok nmX11 hown hK hH hS h00 he rfl 0 (by decide) fl0 rfl (by decide +kernel) rfl rfl hl9 dX11_fail_2 kk) (fun σ_s_1 H locs hO hF9 hM9 hg9 ha9 hH hS => ?_)
  replace hM := hM.tu hM9 (by decide)
  replace hF := hF.tu hF9 (by decide)
  have e_2 := hg9
  refine lv_iconst (v := I 0) hx hb dX11_fail_5 (by decide) ?_
  exact th_iret hx hb hr hlocks hH hS (z := 0) (show rng 0 from ⟨by decide, by decide⟩) ⟨hO, hF, hM, ⟨rfl, by omega⟩⟩ dX11_fail_6

set_option maxHeartbeats 20000000 in
set_option maxRecDepth 100000 in
theorem n_isRead (l : Launch) (G : va_G) (y : Nat → ClassId) (b0 : Nat) (σ : th_M) (E : th_E) (hO : ok y E σ) (a : Nat) (h_a : kd E a = 13) : Met l yX11_isRead wsX11_isRead ({ frames := 0, cells := 0, slots := 0, locals := 0 }) (th_P G y b0 σ [.ref a]) (th_Qi G b0 (fun r σ1 => ok y E σ1 ∧ fr [13] E σ σ1 ∧ fm [4, 21] E σ σ1 a ∧ (0 ≤ r ∧ r ≤ 1) ∧ (((r = 1 ∧ gI σ a 19 = 0) ∨ (r = 0 ∧ ¬ gI σ a 19 = 0)) ∧ ((gI σ a 19 = 0 ∧ gI σ1 a 21 = -1) ∨ (¬ gI σ a 19 = 0 ∧ gI σ1 a 21 = gI σ a 20))))) 0 0 (th_A b0) := by
  refine Met.ofW (cc := cX11_isRead) (maxL := 1) (ret := (some .boolean)) (by decide) rfl ?_
  intro p e s m args below meth c s₁ B hml hv
  obtain ⟨rfl, hH, hK⟩ := hv
  have hx := B.exec
  have hb := B.bytes
  have hr := B.returns
  have hts := atoms_spec (ws := wsX11_isRead) B.pre
  have hown : s.vm.findClass RX11 = some m.cls := findClass_of_methodNamed B.named
  have hlocks := B.notSynchronized
  have h00 : b0 ≤ s.heap.size := hH.1
  have hS : va_S (th_A b0) s.heap s.heap [] := va_S.rf
  have hF : fr [13] E σ σ := fr.rf
  have hM : fm [4, 21] E σ σ a := fm.rf
  have inX11 : ∀ w ∈ wsX110, w ∈ wsX11_isRead := by decide +kernel
  have fl0 := hts (.fieldLink RX11 162 "NestQueryModel" "bad" "I") (by decide +kernel)
  have fl1 := hts (.fieldLink RX11 165 "NestQueryModel" "badPlace" "I") (by decide +kernel)
  have fl2 := hts (.fieldLink RX11 31 "NestQueryModel" "faultPlace" "I") (by decide +kernel)
  have fl3 := hts (.fieldLink RX11 19 "NestQueryModel" "status" "[I") (by decide +kernel)
  have hl := lv_entry ([.ref a]) (n := 1) (Nat.le_of_ble_eq_true rfl)
  rw [lg_entry_eq]
  generalize (lg_sl ([.ref a]) ++ List.replicate (1 - (lg_sl ([.ref a])).length) Slot.unset).toArray = ls at hl ⊢
  have hl : lv_has ls 1 [(0, .ref a)] := hl
  obtain ⟨a190, ea190, ra190, la190, ua190⟩ := hO.gi h_a (by decide) k13_19
  obtain ⟨a200, ea200, ra200, la200, ua200⟩ := hO.gi h_a (by decide) k13_20
  refine lv_aload_n hx hb dX11_isRead_0 rfl (lv_at hl 0 rfl) ?_
  refine lv_aload_n hx hb dX11_isRead_1 rfl (lv_at hl 0 rfl) ?_
  refine ok.getIc hO h_a (by decide) k13_19 ea190 (fun _ _ he hv kk => th_get (ci := 11) (C := RX11) (T := TX11) (N := 66) hx hb hts inX11 hown hK hH he rfl 19 (by decide) fl0 hv dX11_isRead_2 kk) ?_
  refine lv_if_ne (tgt := 12) hx hb dX11_isRead_5 (by decide) (fun c_1 => ?_) (fun c_1 => ?_)
  · replace c_1 := mt (I_eq (a := a190) (b := 0) ra190 (show rng 0 from ⟨by decide, by decide⟩)).mpr c_1
    refine lv_aload_n hx hb dX11_isRead_12 rfl (lv_at hl 0 rfl) ?_
    refine ok.getIc hO h_a (by decide) k13_20 ea200 (fun _ _ he hv kk => th_get (ci := 11) (C := RX11) (T := TX11) (N := 66) hx hb hts inX11 hown hK hH he rfl 20 (by decide) fl1 hv dX11_isRead_13 kk) ?_
    refine ok.putJ hO h_a k13_21 ra200 (by omega) (by omega) (fun _ he hl9 kk => th_put (ci := 11) (v := .int (I a200)) (ty := .int) (C := RX11) (T := TX11) (N := 66) hx hb hts inX11 tyX11 tyX11_ok nmX11 hown hK hH hS h00 he rfl 21 (by decide) fl2 rfl (by decide +kernel) rfl rfl hl9 dX11_isRead_16 kk) (fun σ_s_2 H locs hO hF9 hM9 hg9 ha9 hH hS => ?_)
    replace hM := hM.tu hM9 (by decide)
    replace hF := hF.tu hF9 (by decide)
    have e_3 : gI σ_s_2 a 19 = a190 := (hM9.i (by decide)).trans ea190
    have e_4 : gI σ_s_2 a 20 = a200 := (hM9.i (by decide)).trans ea200
    have e_5 := hg9
    refine lv_aload_n hx hb dX11_isRead_19 rfl (lv_at hl 0 rfl) ?_
    refine ok.getR hO h_a (by decide) k13_4 (by decide) (fun _ _ he hv kk => th_get (ci := 11) (C := RX11) (T := TX11) (N := 66) hx hb hts inX11 hown hK hH he rfl 4 (by decide) fl3 hv dX11_isRead_20 kk) ?_
    refine lv_iconst (v := I 0) hx hb dX11_isRead_23 (by decide) ?_
    refine lv_dup2_11 hx hb dX11_isRead_24 rfl rfl ?_
    obtain ⟨f_7, ef_8⟩ : ∃ f9, aF σ_s_2 (ad E a 4) = f9 := ⟨_, rfl⟩
    refine m_iald hx hb hK hH hO h_a k13_4 isA1 ef_8 (show rng 0 from ⟨by decide, by decide⟩) (by omega) (by omega) dX11_isRead_25 (fun z_6 ez_6 rz_6 elx9 => ?_)
    refine lv_aload_n hx hb dX11_isRead_26 rfl (lv_at hl 0 rfl) ?_
    refine ok.getIc hO h_a (by decide) k13_19 e_3 (fun _ _ he hv kk => th_get (ci := 11) (C := RX11) (T := TX11) (N := 66) hx hb hts inX11 hown hK hH he rfl 19 (by decide) fl0 hv dX11_isRead_27 kk) ?_
    refine lv_if_ne (tgt := 37) hx hb dX11_isRead_30 (by decide) (fun c_9 => ?_) (fun c_9 => ?_)
    · replace c_9 := mt (I_eq (a := a190) (b := 0) ra190 (show rng 0 from ⟨by decide, by decide⟩)).mpr c_9
      refine lv_iconst (v := I 1) hx hb dX11_isRead_37 (by decide) ?_
      refine lv_iadd hx hb dX11_isRead_38 ?_
      refine th_addo (fun z_10 rz_10 hz_10 => ?_)
      refine m_iast hx hb hK hH hS h00 hO h_a k13_4 isA1 (by decide) ef_8 (show rng 0 from ⟨by decide, by decide⟩) (by omega) (by omega) rz_10 el1 dX11_isRead_39 (fun σ_s_11 H locs hO hF9 hM9 ha9 hH hS => ?_)
      replace hM := hM.tu hM9 (by decide)
      replace hF := hF.tu hF9 (by decide)
      have e_12 : gI σ_s_11 a 19 = a190 := (hM9.i (by decide)).trans e_3
      have e_13 : gI σ_s_11 a 20 = a200 := (hM9.i (by decide)).trans e_4
      have e_14 : gI σ_s_11 a 21 = a200 := (hM9.i (by decide)).trans e_5
      obtain ⟨g_15, dg_15⟩ : ∃ g9, g9 = upd f_7 (0 : Int).toNat (I z_10) := ⟨_, rfl⟩
      rw [← dg_15] at ha9
      have ef_16 := ha9
      refine lv_aload_n hx hb dX11_isRead_40 rfl (lv_at hl 0 rfl) ?_
      refine ok.getIc hO h_a (by decide) k13_19 e_12 (fun _ _ he hv kk => th_get (ci := 11) (C := RX11) (T := TX11) (N := 66) hx hb hts inX11 hown hK hH he rfl 19 (by decide) fl0 hv dX11_isRead_41 kk) ?_
      refine lv_if_ne (tgt := 51) hx hb dX11_isRead_44 (by decide) (fun c_17 => ?_) (fun c_17 => ?_)
      · replace c_17 := mt (I_eq (a := a190) (b := 0) ra190 (show rng 0 from ⟨by decide, by decide⟩)).mpr c_17
        refine lv_iconst (v := I 0) hx hb dX11_isRead_51 (by decide) ?_
        exact th_zret hx hb hr hlocks hH hS (z := 0) (by omega) ⟨hO, hF, hM, ⟨by omega, by omega⟩, ⟨by omega, by omega⟩⟩ dX11_isRead_52
      · replace c_17 := (I_eq (a := a190) (b := 0) ra190 (show rng 0 from ⟨by decide, by decide⟩)).mp c_17
        refine lv_iconst (v := I 1) hx hb dX11_isRead_47 (by decide) ?_
        refine lv_goto (tgt := 52) hx hb dX11_isRead_48 (by decide) ?_
        exact th_zret hx hb hr hlocks hH hS (z := 1) (by omega) ⟨hO, hF, hM, ⟨by omega, by omega⟩, ⟨by omega, by omega⟩⟩ dX11_isRead_52
    · replace c_9 := (I_eq (a := a190) (b := 0) ra190 (show rng 0 from ⟨by decide, by decide⟩)).mp c_9
      refine lv_iconst (v := I 0) hx hb dX11_isRead_33 (by decide) ?_
      refine lv_goto (tgt := 38) hx hb dX11_isRead_34 (by decide) ?_
      refine lv_iadd hx hb dX11_isRead_38 ?_
      refine th_addo (fun z_18 rz_18 hz_18 => ?_)
      refine m_iast hx hb hK hH hS h00 hO h_a k13_4 isA1 (by decide) ef_8 (show rng 0 from ⟨by decide, by decide⟩) (by omega) (by omega) rz_18 el1 dX11_isRead_39 (fun σ_s_19 H locs hO hF9 hM9 ha9 hH hS => ?_)
      replace hM := hM.tu hM9 (by decide)
      replace hF := hF.tu hF9 (by decide)
      have e_20 : gI σ_s_19 a 19 = a190 := (hM9.i (by decide)).trans e_3
      have e_21 : gI σ_s_19 a 20 = a200 := (hM9.i (by decide)).trans e_4
      have e_22 : gI σ_s_19 a 21 = a200 := (hM9.i (by decide)).trans e_5
      obtain ⟨g_23, dg_23⟩ : ∃ g9, g9 = upd f_7 (0 : Int).toNat (I z_18) := ⟨_, rfl⟩
      rw [← dg_23] at ha9
      have ef_24 := ha9
      refine lv_aload_n hx hb dX11_isRead_40 rfl (lv_at hl 0 rfl) ?_
      refine ok.getIc hO h_a (by decide) k13_19 e_20 (fun _ _ he hv kk => th_get (ci := 11) (C := RX11) (T := TX11) (N := 66) hx hb hts inX11 hown hK hH he rfl 19 (by decide) fl0 hv dX11_isRead_41 kk) ?_
      refine lv_if_ne (tgt := 51) hx hb dX11_isRead_44 (by decide) (fun c_25 => ?_) (fun c_25 => ?_)
      · replace c_25 := mt (I_eq (a := a190) (b := 0) ra190 (show rng 0 from ⟨by decide, by decide⟩)).mpr c_25
        refine lv_iconst (v := I 0) hx hb dX11_isRead_51 (by decide) ?_
        exact th_zret hx hb hr hlocks hH hS (z := 0) (by omega) ⟨hO, hF, hM, ⟨by omega, by omega⟩, ⟨by omega, by omega⟩⟩ dX11_isRead_52
      · replace c_25 := (I_eq (a := a190) (b := 0) ra190 (show rng 0 from ⟨by decide, by decide⟩)).mp c_25
        refine lv_iconst (v := I 1) hx hb dX11_isRead_47 (by decide) ?_
        refine lv_goto (tgt := 52) hx hb dX11_isRead_48 (by decide) ?_
        exact th_zret hx hb hr hlocks hH hS (z := 1) (by omega) ⟨hO, hF, hM, ⟨by omega, by omega⟩, ⟨by omega, by omega⟩⟩ dX11_isRead_52
  · replace c_1 := (I_eq (a := a190) (b := 0) ra190 (show rng 0 from ⟨by decide, by decide⟩)).mp c_1
    refine lv_iconst (v := I (-1)) hx hb dX11_isRead_8 (by decide) ?_
    refine lv_goto (tgt := 16) hx hb dX11_isRead_9 (by decide) ?_
    refine ok.putJ hO h_a k13_21 (show rng (-1) from ⟨by decide, by decide⟩) (by omega) (by omega) (fun _ he hl9 kk => th_put (ci := 11) (v := .int (I (-1))) (ty := .int) (C := RX11) (T := TX11) (N := 66) hx hb hts inX11 tyX11 tyX11_ok nmX11 hown hK hH hS h00 he rfl 21 (by decide) fl2 rfl (by decide +kernel) rfl rfl hl9 dX11_isRead_16 kk) (fun σ_s_26 H locs hO hF9 hM9 hg9 ha9 hH hS => ?_)
    replace hM := hM.tu hM9 (by decide)
    replace hF := hF.tu hF9 (by decide)
    have e_27 : gI σ_s_26 a 19 = a190 := (hM9.i (by decide)).trans ea190
    have e_28 : gI σ_s_26 a 20 = a200 := (hM9.i (by decide)).trans ea200
    have e_29 := hg9
    refine lv_aload_n hx hb dX11_isRead_19 rfl (lv_at hl 0 rfl) ?_
    refine ok.getR hO h_a (by decide) k13_4 (by decide) (fun _ _ he hv kk => th_get (ci := 11) (C := RX11) (T := TX11) (N := 66) hx hb hts inX11 hown hK hH he rfl 4 (by decide) fl3 hv dX11_isRead_20 kk) ?_
    refine lv_iconst (v := I 0) hx hb dX11_isRead_23 (by decide) ?_
    refine lv_dup2_11 hx hb dX11_isRead_24 rfl rfl ?_
    obtain ⟨f_31, ef_32⟩ : ∃ f9, aF σ_s_26 (ad E a 4) = f9 := ⟨_, rfl⟩
    refine m_iald hx hb hK hH hO h_a k13_4 isA1 ef_32 (show rng 0 from ⟨by decide, by decide⟩) (by omega) (by omega) dX11_isRead_25 (fun z_30 ez_30 rz_30 elx9 => ?_)
    refine lv_aload_n hx hb dX11_isRead_26 rfl (lv_at hl 0 rfl) ?_
    refine ok.getIc hO h_a (by decide) k13_19 e_27 (fun _ _ he hv kk => th_get (ci := 11) (C := RX11) (T := TX11) (N := 66) hx hb hts inX11 hown hK hH he rfl 19 (by decide) fl0 hv dX11_isRead_27 kk) ?_
    refine lv_if_ne (tgt := 37) hx hb dX11_isRead_30 (by decide) (fun c_33 => ?_) (fun c_33 => ?_)
    · replace c_33 := mt (I_eq (a := a190) (b := 0) ra190 (show rng 0 from ⟨by decide, by decide⟩)).mpr c_33
      refine lv_iconst (v := I 1) hx hb dX11_isRead_37 (by decide) ?_
      refine lv_iadd hx hb dX11_isRead_38 ?_
      refine th_addo (fun z_34 rz_34 hz_34 => ?_)
      refine m_iast hx hb hK hH hS h00 hO h_a k13_4 isA1 (by decide) ef_32 (show rng 0 from ⟨by decide, by decide⟩) (by omega) (by omega) rz_34 el1 dX11_isRead_39 (fun σ_s_35 H locs hO hF9 hM9 ha9 hH hS => ?_)
      replace hM := hM.tu hM9 (by decide)
      replace hF := hF.tu hF9 (by decide)
      have e_36 : gI σ_s_35 a 19 = a190 := (hM9.i (by decide)).trans e_27
      have e_37 : gI σ_s_35 a 20 = a200 := (hM9.i (by decide)).trans e_28
      have e_38 : gI σ_s_35 a 21 = (-1) := (hM9.i (by decide)).trans e_29
      obtain ⟨g_39, dg_39⟩ : ∃ g9, g9 = upd f_31 (0 : Int).toNat (I z_34) := ⟨_, rfl⟩
      rw [← dg_39] at ha9
      have ef_40 := ha9
      refine lv_aload_n hx hb dX11_isRead_40 rfl (lv_at hl 0 rfl) ?_
      refine ok.getIc hO h_a (by decide) k13_19 e_36 (fun _ _ he hv kk => th_get (ci := 11) (C := RX11) (T := TX11) (N := 66) hx hb hts inX11 hown hK hH he rfl 19 (by decide) fl0 hv dX11_isRead_41 kk) ?_
      refine lv_if_ne (tgt := 51) hx hb dX11_isRead_44 (by decide) (fun c_41 => ?_) (fun c_41 => ?_)
      · replace c_41 := mt (I_eq (a := a190) (b := 0) ra190 (show rng 0 from ⟨by decide, by decide⟩)).mpr c_41
        refine lv_iconst (v := I 0) hx hb dX11_isRead_51 (by decide) ?_
        exact th_zret hx hb hr hlocks hH hS (z := 0) (by omega) ⟨hO, hF, hM, ⟨by omega, by omega⟩, ⟨by omega, by omega⟩⟩ dX11_isRead_52
      · replace c_41 := (I_eq (a := a190) (b := 0) ra190 (show rng 0 from ⟨by decide, by decide⟩)).mp c_41
        refine lv_iconst (v := I 1) hx hb dX11_isRead_47 (by decide) ?_
        refine lv_goto (tgt := 52) hx hb dX11_isRead_48 (by decide) ?_
        exact th_zret hx hb hr hlocks hH hS (z := 1) (by omega) ⟨hO, hF, hM, ⟨by omega, by omega⟩, ⟨by omega, by omega⟩⟩ dX11_isRead_52
    · replace c_33 := (I_eq (a := a190) (b := 0) ra190 (show rng 0 from ⟨by decide, by decide⟩)).mp c_33
      refine lv_iconst (v := I 0) hx hb dX11_isRead_33 (by decide) ?_
      refine lv_goto (tgt := 38) hx hb dX11_isRead_34 (by decide) ?_
      refine lv_iadd hx hb dX11_isRead_38 ?_
      refine th_addo (fun z_42 rz_42 hz_42 => ?_)
      refine m_iast hx hb hK hH hS h00 hO h_a k13_4 isA1 (by decide) ef_32 (show rng 0 from ⟨by decide, by decide⟩) (by omega) (by omega) rz_42 el1 dX11_isRead_39 (fun σ_s_43 H locs hO hF9 hM9 ha9 hH hS => ?_)
      replace hM := hM.tu hM9 (by decide)
      replace hF := hF.tu hF9 (by decide)
      have e_44 : gI σ_s_43 a 19 = a190 := (hM9.i (by decide)).trans e_27
      have e_45 : gI σ_s_43 a 20 = a200 := (hM9.i (by decide)).trans e_28
      have e_46 : gI σ_s_43 a 21 = (-1) := (hM9.i (by decide)).trans e_29
      obtain ⟨g_47, dg_47⟩ : ∃ g9, g9 = upd f_31 (0 : Int).toNat (I z_42) := ⟨_, rfl⟩
      rw [← dg_47] at ha9
      have ef_48 := ha9
      refine lv_aload_n hx hb dX11_isRead_40 rfl (lv_at hl 0 rfl) ?_
      refine ok.getIc hO h_a (by decide) k13_19 e_44 (fun _ _ he hv kk => th_get (ci := 11) (C := RX11) (T := TX11) (N := 66) hx hb hts inX11 hown hK hH he rfl 19 (by decide) fl0 hv dX11_isRead_41 kk) ?_
      refine lv_if_ne (tgt := 51) hx hb dX11_isRead_44 (by decide) (fun c_49 => ?_) (fun c_49 => ?_)
      · replace c_49 := mt (I_eq (a := a190) (b := 0) ra190 (show rng 0 from ⟨by decide, by decide⟩)).mpr c_49
        refine lv_iconst (v := I 0) hx hb dX11_isRead_51 (by decide) ?_
        exact th_zret hx hb hr hlocks hH hS (z := 0) (by omega) ⟨hO, hF, hM, ⟨by omega, by omega⟩, ⟨by omega, by omega⟩⟩ dX11_isRead_52
      · replace c_49 := (I_eq (a := a190) (b := 0) ra190 (show rng 0 from ⟨by decide, by decide⟩)).mp c_49
        refine lv_iconst (v := I 1) hx hb dX11_isRead_47 (by decide) ?_
        refine lv_goto (tgt := 52) hx hb dX11_isRead_48 (by decide) ?_
        exact th_zret hx hb hr hlocks hH hS (z := 1) (by omega) ⟨hO, hF, hM, ⟨by omega, by omega⟩, ⟨by omega, by omega⟩⟩ dX11_isRead_52

set_option maxHeartbeats 20000000 in
set_option maxRecDepth 100000 in
theorem n_readsData (l : Launch) (G : va_G) (y : Nat → ClassId) (b0 : Nat) (σ : th_M) (E : th_E) (hO : ok y E σ) (a : Nat) (h_a : kd E a = 13) (nn : Int) (rnn : rng nn) (l_nn : 0 ≤ nn) (u_nn : nn ≤ 400) (f2 : Nat → Int32) (ef2 : aF σ (ad E a 2) = f2) (f6 : Nat → Int32) (ef6 : aF σ (ad E a 6) = f6) (T : tkT) (hSt : tkSt (byf f6 nn) T) : Met l yX11_readsData wsX11_readsData ({ frames := 49, cells := 0, slots := 0, locals := 2008 }) (th_P G y b0 σ [.ref a, .int (I nn)]) (th_Qi G b0 (fun r σ1 => ok y E σ1 ∧ fr [13] E σ σ1 ∧ fm [2, 4, 9, 10, 11, 13, 14, 15, 16, 17, 18, 19, 20, 21, 22] E σ σ1 a ∧ (0 ≤ r ∧ r ≤ 1) ∧ (((r = 1 ∧ tr (aF σ1 (ad E a 2)) ∧ mS (aF σ1 (ad E a 2)) 0 = gI σ1 a 22) ∨ r = 0) ∧ ∃ rr pp, TopR T rr pp ∧ ((r = 1 ∧ rr = 0) ∨ (r = 0 ∧ rr ≠ 0)) ∧ gI σ1 a 19 = rr ∧ gI σ1 a 21 = pp))) 0 0 (th_A b0) := by
  refine Met.ofW (cc := cX11_readsData) (maxL := 2) (ret := (some .boolean)) (by decide) rfl ?_
  intro p e s m args below meth c s₁ B hml hv
  obtain ⟨rfl, hH, hK⟩ := hv
  have hx := B.exec
  have hb := B.bytes
  have hr := B.returns
  have hts := atoms_spec (ws := wsX11_readsData) B.pre
  have hown : s.vm.findClass RX11 = some m.cls := findClass_of_methodNamed B.named
  have hlocks := B.notSynchronized
  have h00 : b0 ≤ s.heap.size := hH.1
  have hS : va_S (th_A b0) s.heap s.heap [] := va_S.rf
  have hF : fr [13] E σ σ := fr.rf
  have hM : fm [2, 4, 9, 10, 11, 13, 14, 15, 16, 17, 18, 19, 20, 21, 22] E σ σ a := fm.rf
  have inX11 : ∀ w ∈ wsX110, w ∈ wsX11_readsData := by decide +kernel
  have fl0 := hts (.fieldLink RX11 188 "NestQueryModel" "dataMany" "I") (by decide +kernel)
  have fl1 := hts (.fieldLink RX11 22 "NestQueryModel" "tape" "[I") (by decide +kernel)
  have fl2 := hts (.fieldLink RX11 162 "NestQueryModel" "bad" "I") (by decide +kernel)
  have fl3 := hts (.fieldLink RX11 136 "NestQueryModel" "token" "I") (by decide +kernel)
  have hl := lv_entry ([.ref a, .int (I nn)]) (n := 2) (Nat.le_of_ble_eq_true rfl)
  rw [lg_entry_eq]
  generalize (lg_sl ([.ref a, .int (I nn)]) ++ List.replicate (2 - (lg_sl ([.ref a, .int (I nn)])).length) Slot.unset).toArray = ls at hl ⊢
  have hl : lv_has ls 2 [(0, .ref a), (1, .int (I nn))] := hl
  refine lv_aload_n hx hb dX11_readsData_0 rfl (lv_at hl 0 rfl) ?_
  refine lv_iconst (v := I 0) hx hb dX11_readsData_1 (by decide) ?_
  obtain ⟨z_1, e_2, rz_1, lz_1, uz_1⟩ := hO.gi h_a (by decide) k13_19
  refine ok.putJ hO h_a k13_22 (show rng 0 from ⟨by decide, by decide⟩) (by omega) (by omega) (fun _ he hl9 kk => th_put (ci := 11) (v := .int (I 0)) (ty := .int) (C := RX11) (T := TX11) (N := 66) hx hb hts inX11 tyX11 tyX11_ok nmX11 hown hK hH hS h00 he rfl 22 (by decide) fl0 rfl (by decide +kernel) rfl rfl hl9 dX11_readsData_2 kk) (fun σ_s_3 H locs hO hF9 hM9 hg9 ha9 hH hS => ?_)
  replace hM := hM.tu hM9 (by decide)
  replace hF := hF.tu hF9 (by decide)
  have e_4 : aF σ_s_3 (ad E a 2) = f2 := (hM9.a (by decide) (by decide)).trans ef2
  have e_5 : aF σ_s_3 (ad E a 6) = f6 := (hM9.a (by decide) (by decide)).trans ef6
  have e_6 : gI σ_s_3 a 19 = z_1 := (hM9.i (by decide)).trans e_2
  have e_7 := hg9
  refine lv_aload_n hx hb dX11_readsData_5 rfl (lv_at hl 0 rfl) ?_
  refine lv_aload_n hx hb dX11_readsData_6 rfl (lv_at hl 0 rfl) ?_
  refine ok.getR hO h_a (by decide) k13_6 (by decide) (fun _ _ he hv kk => th_get (ci := 11) (C := RX11) (T := TX11) (N := 66) hx hb hts inX11 hown hK hH he rfl 6 (by decide) fl1 hv dX11_readsData_7 kk) ?_
  refine lv_iconst (v := I 0) hx hb dX11_readsData_10 (by decide) ?_
  refine lv_iload_n hx hb dX11_readsData_11 rfl (lv_at hl 1 rfl) ?_
  obtain ⟨_, hc_8⟩ := hO.cell h_a (by decide) (ci := 11) rfl
  refine th_callv (va_runV (As := [.ref (ad E a 6), .int (I 0), .int (I nn)]) (rest := []) ⟨hx, hb, hml, hown, hts⟩ (n_begin6 l G y b0 σ_s_3 E hO a h_a 0 (show rng 0 from (show rng 0 from ⟨by decide, by decide⟩)) (by omega) (by omega) nn (show rng nn from rnn) (by omega) (by omega) f6 e_5 T hSt) (cwV 3 hts gX11_readsData_X11_beginText rfl rfl rfl (by decide +kernel) ⟨Nat.le_of_ble_eq_true rfl, Nat.le_of_ble_eq_true rfl⟩) (th_PV hK hH rfl hc_8) rfl rfl hl.1 rfl (lv_room (Nat.le_of_ble_eq_true rfl)) dX11_readsData_12 ⟨Nat.le_of_ble_eq_true rfl, Nat.le_of_ble_eq_true rfl⟩) hS (fun σ_s_10 H locs hw_9 hH hS => ?_)
  obtain ⟨hO9, hF9, hM9, hw_9⟩ := hw_9
  replace hM := hM.tu hM9 (by decide)
  replace hF := hF.tu hF9 (by decide)
  have e_11 : aF σ_s_10 (ad E a 2) = f2 := (hM9.a (by decide) (by decide)).trans e_4
  have e_12 : aF σ_s_10 (ad E a 6) = f6 := (hM9.a (by decide) (by decide)).trans e_5
  have e_13 : gI σ_s_10 a 22 = 0 := (hM9.i (by decide)).trans e_7
  replace hO := hO9
  obtain ⟨Bf, hsr, hw_9⟩ := hw_9
  replace hw_9 : (gI σ_s_10 a 11 = nn ∧ 0 ≤ gI σ_s_10 a 17 ∧ gI σ_s_10 a 17 ≤ gI σ_s_10 a 13 ∧ gI σ_s_10 a 13 ≤ gI σ_s_10 a 11 ∧ gI σ_s_10 a 19 = 0) ∧ Bf = byf f6 nn ∧ RSt σ_s_10 a T 0 0 := hw_9
  obtain ⟨hq_14, hBe9, hR9⟩ := hw_9
  have hSt : tkSt Bf T := by rw [hBe9]; exact hSt
  have hV9 := hR9.1
  refine lv_aload_n hx hb dX11_readsData_15 rfl (lv_at hl 0 rfl) ?_
  refine lv_iconst (v := I 0) hx hb dX11_readsData_16 (by decide) ?_
  refine lv_iconst (v := I 0) hx hb dX11_readsData_17 (by decide) ?_
  obtain ⟨_, hc_15⟩ := hO.cell h_a (by decide) (ci := 11) rfl
  refine th_callv (va_runV (As := [.int (I 0), .int (I 0)]) (rest := []) ⟨hx, hb, hml, hown, hts⟩ (n_readThing 9 l G y b0 σ_s_10 E hO a h_a 0 (show rng 0 from (show rng 0 from ⟨by decide, by decide⟩)) 0 (show rng 0 from (show rng 0 from ⟨by decide, by decide⟩)) (by omega) (by omega) f2 e_11 Bf hsr T hSt 0 0 hR9 (by omega) (by omega) (by omega)) (cwV 2 hts gX11_readsData_X11_readThing rfl rfl rfl (by decide +kernel) ⟨Nat.le_of_ble_eq_true rfl, Nat.le_of_ble_eq_true rfl⟩) (th_PV hK hH rfl hc_15) rfl rfl hl.1 rfl (lv_room (Nat.le_of_ble_eq_true rfl)) dX11_readsData_18 ⟨Nat.le_of_ble_eq_true rfl, Nat.le_of_ble_eq_true rfl⟩) hS (fun σ_s_17 H locs hw_16 hH hS => ?_)
  obtain ⟨hO9, hF9, hM9, hw_16⟩ := hw_16
  replace hM := hM.tu hM9 (by decide)
  replace hF := hF.tu hF9 (by decide)
  have e_18 : aF σ_s_17 (ad E a 6) = f6 := (hM9.a (by decide) (by decide)).trans e_12
  replace hsr := hsr.mv hM9 (by decide) (by decide) (by decide) (by decide) (by decide)
  replace hO := hO9
  generalize ef_20 : aF σ_s_17 (ad E a 2) = g_19 at hw_16
  replace hw_16 : (((gI σ_s_10 a 13 ≤ gI σ_s_17 a 13 ∧ gI σ_s_17 a 13 ≤ gI σ_s_10 a 11 ∧ 0 ≤ gI σ_s_17 a 17 ∧ gI σ_s_17 a 17 ≤ gI σ_s_17 a 13) ∧ pgo (gI σ_s_17 a 19) (gI σ_s_17 a 14) (gI σ_s_10 a 13) (gI σ_s_17 a 13)) ∧ gI σ_s_10 a 22 ≤ gI σ_s_17 a 22 ∧ (¬ gI σ_s_17 a 19 = 0 ∨ rdT f2 g_19 (gI σ_s_10 a 22) (gI σ_s_17 a 22) 0 0)) ∧ ∃ c1 j1, RSt σ_s_17 a T c1 j1 ∧ PTh T 0 0 (gI σ_s_10 a 22) c1 j1 (gI σ_s_17 a 22) := hw_16
  have hn_21 := hw_16.2
  replace hw_16 := hw_16.1
  obtain ⟨cc_22, jj_23, hR_24, hn_21⟩ := hn_21
  have hVhR_24 := hR_24.1
  obtain ⟨zz_25, hP_26, _⟩ := hn_21
  rw [show gI σ_s_10 a 22 = 0 by omega] at hP_26
  refine lv_aload_n hx hb dX11_readsData_21 rfl (lv_at hl 0 rfl) ?_
  refine ok.getI hO h_a (by decide) k13_19 (fun _ _ he hv kk => th_get (ci := 11) (C := RX11) (T := TX11) (N := 66) hx hb hts inX11 hown hK hH he rfl 19 (by decide) fl2 hv dX11_readsData_22 kk) (fun z_27 e_28 rz_27 lz_27 uz_27 => ?_)
  refine lv_if_ne (tgt := 40) hx hb dX11_readsData_25 (by decide) (fun c_29 => ?_) (fun c_29 => ?_)
  · replace c_29 := mt (I_eq (a := z_27) (b := 0) rz_27 (show rng 0 from ⟨by decide, by decide⟩)).mpr c_29
    refine lv_aload_n hx hb dX11_readsData_40 rfl (lv_at hl 0 rfl) ?_
    obtain ⟨z_30, e_31, rz_30, lz_30, uz_30⟩ := hO.gi h_a (by decide) k13_22
    obtain ⟨_, hc_32⟩ := hO.cell h_a (by decide) (ci := 11) rfl
    refine th_calli (va_runV (As := []) (rest := []) ⟨hx, hb, hml, hown, hts⟩ (n_isRead l G y b0 σ_s_17 E hO a h_a) (cwV 0 hts gX11_readsData_X11_isRead rfl rfl rfl (by decide +kernel) ⟨Nat.le_of_ble_eq_true rfl, Nat.le_of_ble_eq_true rfl⟩) (th_PV hK hH rfl hc_32) rfl rfl hl.1 rfl (lv_room (Nat.le_of_ble_eq_true rfl)) dX11_readsData_41 ⟨Nat.le_of_ble_eq_true rfl, Nat.le_of_ble_eq_true rfl⟩) hS (fun z_35 σ_s_34 H locs rz_35 hw_33 hH hS => ?_)
    obtain ⟨hO9, hF9, hM9, bhw_33, hw_33⟩ := hw_33
    replace hM := hM.tu hM9 (by decide)
    replace hF := hF.tu hF9 (by decide)
    have e_36 : aF σ_s_34 (ad E a 6) = f6 := (hM9.a (by decide) (by decide)).trans e_18
    have e_37 : aF σ_s_34 (ad E a 2) = g_19 := (hM9.a (by decide) (by decide)).trans ef_20
    have e_38 : gI σ_s_34 a 19 = z_27 := (hM9.i (by decide)).trans e_28
    have e_39 : gI σ_s_34 a 22 = z_30 := (hM9.i (by decide)).trans e_31
    replace hsr := hsr.mv hM9 (by decide) (by decide) (by decide) (by decide) (by decide)
    have hR_40 : RSt σ_s_34 a T cc_22 jj_23 := RSt.mv hM9 (by decide) (by decide) (by decide) (by decide) (by decide) (by decide) (by decide) hR_24
    have hVhR_40 := hR_40.1
    replace hO := hO9
    replace hw_33 : ((z_35 = 1 ∧ gI σ_s_17 a 19 = 0) ∨ (z_35 = 0 ∧ ¬ gI σ_s_17 a 19 = 0)) ∧ ((gI σ_s_17 a 19 = 0 ∧ gI σ_s_34 a 21 = -1) ∨ (¬ gI σ_s_17 a 19 = 0 ∧ gI σ_s_34 a 21 = gI σ_s_17 a 20)) := hw_33
    exact th_zret hx hb hr hlocks hH hS (z := z_35) (by omega) ⟨hO, hF, hM, ⟨by omega, by omega⟩, ⟨(by rw [show aF σ_s_34 (ad E a 2) = g_19 from e_37]; by_cases h7 : z_35 = 0; exact Or.inr h7; have h6 := (hw_16.2.2.resolve_left (by omega)); rw [show gI σ_s_10 a 22 = 0 by omega, show gI σ_s_17 a 22 = gI σ_s_34 a 22 by omega] at h6; exact Or.inl ⟨by omega, h6.toTr (by omega), by have h5 := h6.2.1; omega⟩), cc_22, gI σ_s_34 a 21, ⟨cc_22, jj_23, zz_25, hP_26, by omega⟩, by omega, by omega, rfl⟩⟩ dX11_readsData_44
  · replace c_29 := (I_eq (a := z_27) (b := 0) rz_27 (show rng 0 from ⟨by decide, by decide⟩)).mp c_29
    refine lv_aload_n hx hb dX11_readsData_28 rfl (lv_at hl 0 rfl) ?_
    refine ok.getI hO h_a (by decide) k13_14 (fun _ _ he hv kk => th_get (ci := 11) (C := RX11) (T := TX11) (N := 66) hx hb hts inX11 hown hK hH he rfl 14 (by decide) fl3 hv dX11_readsData_29 kk) (fun z_41 e_42 rz_41 lz_41 uz_41 => ?_)
    have ht_43 := hR_24.t0
    refine lv_if_eq (tgt := 40) hx hb dX11_readsData_32 (by decide) (fun c_44 => ?_) (fun c_44 => ?_)
    · replace c_44 := (I_eq (a := z_41) (b := 0) rz_41 (show rng 0 from ⟨by decide, by decide⟩)).mp c_44
      refine lv_aload_n hx hb dX11_readsData_40 rfl (lv_at hl 0 rfl) ?_
      obtain ⟨z_45, e_46, rz_45, lz_45, uz_45⟩ := hO.gi h_a (by decide) k13_22
      obtain ⟨_, hc_47⟩ := hO.cell h_a (by decide) (ci := 11) rfl
      refine th_calli (va_runV (As := []) (rest := []) ⟨hx, hb, hml, hown, hts⟩ (n_isRead l G y b0 σ_s_17 E hO a h_a) (cwV 0 hts gX11_readsData_X11_isRead rfl rfl rfl (by decide +kernel) ⟨Nat.le_of_ble_eq_true rfl, Nat.le_of_ble_eq_true rfl⟩) (th_PV hK hH rfl hc_47) rfl rfl hl.1 rfl (lv_room (Nat.le_of_ble_eq_true rfl)) dX11_readsData_41 ⟨Nat.le_of_ble_eq_true rfl, Nat.le_of_ble_eq_true rfl⟩) hS (fun z_50 σ_s_49 H locs rz_50 hw_48 hH hS => ?_)
      obtain ⟨hO9, hF9, hM9, bhw_48, hw_48⟩ := hw_48
      replace hM := hM.tu hM9 (by decide)
      replace hF := hF.tu hF9 (by decide)
      have e_51 : aF σ_s_49 (ad E a 6) = f6 := (hM9.a (by decide) (by decide)).trans e_18
      have e_52 : aF σ_s_49 (ad E a 2) = g_19 := (hM9.a (by decide) (by decide)).trans ef_20
      have e_53 : gI σ_s_49 a 19 = z_27 := (hM9.i (by decide)).trans e_28
      have e_54 : gI σ_s_49 a 14 = z_41 := (hM9.i (by decide)).trans e_42
      have e_55 : gI σ_s_49 a 22 = z_45 := (hM9.i (by decide)).trans e_46
      replace hsr := hsr.mv hM9 (by decide) (by decide) (by decide) (by decide) (by decide)
      have hR_56 : RSt σ_s_49 a T cc_22 jj_23 := RSt.mv hM9 (by decide) (by decide) (by decide) (by decide) (by decide) (by decide) (by decide) hR_24
      have hVhR_56 := hR_56.1
      replace hO := hO9
      replace hw_48 : ((z_50 = 1 ∧ gI σ_s_17 a 19 = 0) ∨ (z_50 = 0 ∧ ¬ gI σ_s_17 a 19 = 0)) ∧ ((gI σ_s_17 a 19 = 0 ∧ gI σ_s_49 a 21 = -1) ∨ (¬ gI σ_s_17 a 19 = 0 ∧ gI σ_s_49 a 21 = gI σ_s_17 a 20)) := hw_48
      exact th_zret hx hb hr hlocks hH hS (z := z_50) (by omega) ⟨hO, hF, hM, ⟨by omega, by omega⟩, ⟨(by rw [show aF σ_s_49 (ad E a 2) = g_19 from e_52]; by_cases h7 : z_50 = 0; exact Or.inr h7; have h6 := (hw_16.2.2.resolve_left (by omega)); rw [show gI σ_s_10 a 22 = 0 by omega, show gI σ_s_17 a 22 = gI σ_s_49 a 22 by omega] at h6; exact Or.inl ⟨by omega, h6.toTr (by omega), by have h5 := h6.2.1; omega⟩), cc_22, gI σ_s_49 a 21, ⟨cc_22, jj_23, zz_25, hP_26, by omega⟩, by omega, by omega, rfl⟩⟩ dX11_readsData_44
    · replace c_44 := mt (I_eq (a := z_41) (b := 0) rz_41 (show rng 0 from ⟨by decide, by decide⟩)).mpr c_44
      refine lv_aload_n hx hb dX11_readsData_35 rfl (lv_at hl 0 rfl) ?_
      refine lv_iconst (v := I 1) hx hb dX11_readsData_36 (by decide) ?_
      obtain ⟨z_57, e_58, rz_57, lz_57, uz_57⟩ := hO.gi h_a (by decide) k13_22
      obtain ⟨_, hc_59⟩ := hO.cell h_a (by decide) (ci := 11) rfl
      refine th_callv (va_runV (As := [.int (I 1)]) (rest := []) ⟨hx, hb, hml, hown, hts⟩ (n_wrong l G y b0 σ_s_17 E hO a h_a 1 (show rng 1 from (show rng 1 from ⟨by decide, by decide⟩)) (by omega) (by omega) Bf hsr T hSt cc_22 jj_23 hR_24) (cwV 1 hts gX11_readsData_X11_wrong rfl rfl rfl (by decide +kernel) ⟨Nat.le_of_ble_eq_true rfl, Nat.le_of_ble_eq_true rfl⟩) (th_PV hK hH rfl hc_59) rfl rfl hl.1 rfl (lv_room (Nat.le_of_ble_eq_true rfl)) dX11_readsData_37 ⟨Nat.le_of_ble_eq_true rfl, Nat.le_of_ble_eq_true rfl⟩) hS (fun σ_s_61 H locs hw_60 hH hS => ?_)
      obtain ⟨hO9, hF9, hM9, hw_60⟩ := hw_60
      replace hM := hM.tu hM9 (by decide)
      replace hF := hF.tu hF9 (by decide)
      have e_62 : aF σ_s_61 (ad E a 6) = f6 := (hM9.a (by decide) (by decide)).trans e_18
      have e_63 : aF σ_s_61 (ad E a 2) = g_19 := (hM9.a (by decide) (by decide)).trans ef_20
      have e_64 : gI σ_s_61 a 14 = z_41 := (hM9.i (by decide)).trans e_42
      have e_65 : gI σ_s_61 a 22 = z_57 := (hM9.i (by decide)).trans e_58
      replace hsr := hsr.mv hM9 (by decide) (by decide) (by decide) (by decide) (by decide)
      replace hO := hO9
      replace hw_60 : (¬ gI σ_s_61 a 19 = 0 ∧ (gI σ_s_17 a 19 = 0 ∨ gI σ_s_61 a 19 = gI σ_s_17 a 19)) ∧ ∃ c1 j1, RSt σ_s_61 a T c1 j1 ∧ (j1 = jj_23 ∧ (cc_22 = 0 → c1 = 1) ∧ (cc_22 ≠ 0 → c1 = cc_22)) := hw_60
      have hn_66 := hw_60.2
      replace hw_60 := hw_60.1
      obtain ⟨cc_67, jj_68, hR_69, hn_66⟩ := hn_66
      have hVhR_69 := hR_69.1
      have hj9 := hn_66.1.symm
      subst hj9
      refine lv_aload_n hx hb dX11_readsData_40 rfl (lv_at hl 0 rfl) ?_
      obtain ⟨z_70, e_71, rz_70, lz_70, uz_70⟩ := hO.gi h_a (by decide) k13_19
      obtain ⟨_, hc_72⟩ := hO.cell h_a (by decide) (ci := 11) rfl
      refine th_calli (va_runV (As := []) (rest := []) ⟨hx, hb, hml, hown, hts⟩ (n_isRead l G y b0 σ_s_61 E hO a h_a) (cwV 0 hts gX11_readsData_X11_isRead rfl rfl rfl (by decide +kernel) ⟨Nat.le_of_ble_eq_true rfl, Nat.le_of_ble_eq_true rfl⟩) (th_PV hK hH rfl hc_72) rfl rfl hl.1 rfl (lv_room (Nat.le_of_ble_eq_true rfl)) dX11_readsData_41 ⟨Nat.le_of_ble_eq_true rfl, Nat.le_of_ble_eq_true rfl⟩) hS (fun z_75 σ_s_74 H locs rz_75 hw_73 hH hS => ?_)
      obtain ⟨hO9, hF9, hM9, bhw_73, hw_73⟩ := hw_73
      replace hM := hM.tu hM9 (by decide)
      replace hF := hF.tu hF9 (by decide)
      have e_76 : aF σ_s_74 (ad E a 6) = f6 := (hM9.a (by decide) (by decide)).trans e_62
      have e_77 : aF σ_s_74 (ad E a 2) = g_19 := (hM9.a (by decide) (by decide)).trans e_63
      have e_78 : gI σ_s_74 a 14 = z_41 := (hM9.i (by decide)).trans e_64
      have e_79 : gI σ_s_74 a 22 = z_57 := (hM9.i (by decide)).trans e_65
      have e_80 : gI σ_s_74 a 19 = z_70 := (hM9.i (by decide)).trans e_71
      replace hsr := hsr.mv hM9 (by decide) (by decide) (by decide) (by decide) (by decide)
      have hR_81 : RSt σ_s_74 a T cc_67 jj_23 := RSt.mv hM9 (by decide) (by decide) (by decide) (by decide) (by decide) (by decide) (by decide) hR_69
      have hVhR_81 := hR_81.1
      replace hO := hO9
      replace hw_73 : ((z_75 = 1 ∧ gI σ_s_61 a 19 = 0) ∨ (z_75 = 0 ∧ ¬ gI σ_s_61 a 19 = 0)) ∧ ((gI σ_s_61 a 19 = 0 ∧ gI σ_s_74 a 21 = -1) ∨ (¬ gI σ_s_61 a 19 = 0 ∧ gI σ_s_74 a 21 = gI σ_s_61 a 20)) := hw_73
      exact th_zret hx hb hr hlocks hH hS (z := z_75) (by omega) ⟨hO, hF, hM, ⟨by omega, by omega⟩, ⟨(by rw [show aF σ_s_74 (ad E a 2) = g_19 from e_77]; by_cases h7 : z_75 = 0; exact Or.inr h7; have h6 := (hw_16.2.2.resolve_left (by omega)); rw [show gI σ_s_10 a 22 = 0 by omega, show gI σ_s_17 a 22 = gI σ_s_74 a 22 by omega] at h6; exact Or.inl ⟨by omega, h6.toTr (by omega), by have h5 := h6.2.1; omega⟩), cc_67, gI σ_s_74 a 21, ⟨cc_22, jj_23, zz_25, hP_26, by omega⟩, by omega, by omega, rfl⟩⟩ dX11_readsData_44

set_option maxHeartbeats 20000000 in
set_option maxRecDepth 100000 in
theorem j7_tree (l : Launch) (G : va_G) (y : Nat → ClassId) (b0 : Nat) (σ : th_M) (E : th_E) (hO : ok y E σ) (a : Nat) (h_a : kd E a = 13) (nn : Int) (rnn : rng nn) (f1 : Nat → Int32) (ef1 : aF σ (ad E a 1) = f1) (f37 : Nat → Int32) (ef37 : aF σ (ad E a 37) = f37) (f61 : Nat → Int32) (ef61 : aF σ (ad E a 61) = f61) (f62 : Nat → Int32) (ef62 : aF σ (ad E a 62) = f62) (f39 : Nat → Int32) (ef39 : aF σ (ad E a 39) = f39) (f40 : Nat → Int32) (ef40 : aF σ (ad E a 40) = f40) (f42 : Nat → Int32) (ef42 : aF σ (ad E a 42) = f42) (f43 : Nat → Int32) (ef43 : aF σ (ad E a 43) = f43) (f44 : Nat → Int32) (ef44 : aF σ (ad E a 44) = f44) (f45 : Nat → Int32) (ef45 : aF σ (ad E a 45) = f45) (f46 : Nat → Int32) (ef46 : aF σ (ad E a 46) = f46) (f2 : Nat → Int32) (ef2 : aF σ (ad E a 2) = f2) (f6 : Nat → Int32) (ef6 : aF σ (ad E a 6) = f6) (T : tkT) (hSt : ((0 ≤ nn ∧ nn ≤ gI σ a 12) → tkSt (byf f6 nn) T)) (hy0 : jw f1 f37 f61 f62 f39 f40 f42 f43 f44 f45 f46 (gI σ a 36) (gI σ a 58) (gI σ a 59)) : Met l yX11_tree wsX11_tree ({ frames := 50, cells := 0, slots := 0, locals := 2033 }) (th_P G y b0 σ [.ref a, .int (I nn)]) (th_Qi G b0 (fun r σ1 => ok y E σ1 ∧ fr [13] E σ σ1 ∧ fm [0, 1, 2, 4, 9, 10, 11, 12, 13, 14, 15, 16, 17, 18, 19, 20, 21, 22, 36, 51, 58] E σ σ1 a ∧ ((jw (aF σ1 (ad E a 1)) (aF σ1 (ad E a 37)) (aF σ1 (ad E a 61)) (aF σ1 (ad E a 62)) (aF σ1 (ad E a 39)) (aF σ1 (ad E a 40)) (aF σ1 (ad E a 42)) (aF σ1 (ad E a 43)) (aF σ1 (ad E a 44)) (aF σ1 (ad E a 45)) (aF σ1 (ad E a 46)) (gI σ1 a 36) (gI σ1 a 58) (gI σ1 a 59) ∧ (((0 ≤ nn ∧ nn ≤ gI σ a 12) ∧ gI σ1 a 12 = 0) ∨ (¬ (0 ≤ nn ∧ nn ≤ gI σ a 12) ∧ gI σ1 a 12 = gI σ a 12))) ∧ ((0 ≤ nn ∧ nn ≤ gI σ a 12) → (∃ pp, TopR T r pp ∧ gI σ1 a 21 = pp) ∧ (r = 0 → gI σ1 a 58 = 0) ∧ (r ≠ 0 → gI σ1 a 58 = gI σ a 58) ∧ gI σ1 a 0 = 0) ∧ (¬ (0 ≤ nn ∧ nn ≤ gI σ a 12) → gI σ1 a 58 = gI σ a 58 ∧ gI σ1 a 0 = 1)))) 0 0 (th_A b0) := by
  refine Met.ofW (cc := cX11_tree) (maxL := 3) (ret := (some .int)) (by decide) rfl ?_
  intro p e s m args below meth c s₁ B hml hv
  obtain ⟨rfl, hH, hK⟩ := hv
  have hx := B.exec
  have hb := B.bytes
  have hr := B.returns
  have hts := atoms_spec (ws := wsX11_tree) B.pre
  have hown : s.vm.findClass RX11 = some m.cls := findClass_of_methodNamed B.named
  have hlocks := B.notSynchronized
  have h00 : b0 ≤ s.heap.size := hH.1
  have hS : va_S (th_A b0) s.heap s.heap [] := va_S.rf
  have hF : fr [13] E σ σ := fr.rf
  have hM : fm [0, 1, 2, 4, 9, 10, 11, 12, 13, 14, 15, 16, 17, 18, 19, 20, 21, 22, 36, 51, 58] E σ σ a := fm.rf
  have hj := hy0
  have hw1 := hj.1.1.1
  have hm1 := hj.1.2.1
  have hm2 := hj.1.2.2.1
  have hm3 := hj.2.2.2.2.1
  have hm4 := hj.2.2.2.2.2.1
  have inX11 : ∀ w ∈ wsX110, w ∈ wsX11_tree := by decide +kernel
  have fl0 := hts (.fieldLink RX11 111 "NestQueryModel" "code" "I") (by decide +kernel)
  have fl1 := hts (.fieldLink RX11 114 "NestQueryModel" "taped" "I") (by decide +kernel)
  have fl2 := hts (.fieldLink RX11 188 "NestQueryModel" "dataMany" "I") (by decide +kernel)
  have fl3 := hts (.fieldLink RX11 232 "NestQueryModel" "acts" "I") (by decide +kernel)
  have fl4 := hts (.fieldLink RX11 235 "NestQueryModel" "noted" "I") (by decide +kernel)
  have fl5 := hts (.fieldLink RX11 238 "NestQueryModel" "hasImage" "Z") (by decide +kernel)
  have fl6 := hts (.fieldLink RX11 9 "NestQueryModel" "tree" "[I") (by decide +kernel)
  have fl7 := hts (.fieldLink RX11 13 "NestQueryModel" "data" "[I") (by decide +kernel)
  have fl8 := hts (.fieldLink RX11 162 "NestQueryModel" "bad" "I") (by decide +kernel)
  have hl := lv_entry ([.ref a, .int (I nn)]) (n := 3) (Nat.le_of_ble_eq_true rfl)
  rw [lg_entry_eq]
  generalize (lg_sl ([.ref a, .int (I nn)]) ++ List.replicate (3 - (lg_sl ([.ref a, .int (I nn)])).length) Slot.unset).toArray = ls at hl ⊢
  have hl : lv_has ls 3 [(0, .ref a), (1, .int (I nn))] := hl
  obtain ⟨a360, ea360, ra360, la360, ua360⟩ := hO.gi h_a (by decide) k13_36
  obtain ⟨a580, ea580, ra580, la580, ua580⟩ := hO.gi h_a (by decide) k13_58
  obtain ⟨a590, ea590, ra590, la590, ua590⟩ := hO.gi h_a (by decide) k13_59
  obtain ⟨a120, ea120, ra120, la120, ua120⟩ := hO.gi h_a (by decide) k13_12
  refine lv_aload_n hx hb dX11_tree_0 rfl (lv_at hl 0 rfl) ?_
  refine lv_iconst (v := I 0) hx hb dX11_tree_1 (by decide) ?_
  obtain ⟨z_1, e_2, rz_1, lz_1, uz_1⟩ := hO.gi h_a (by decide) k13_19
  obtain ⟨z_3, e_4, rz_3, lz_3, uz_3⟩ := hO.gi h_a (by decide) k13_21
  refine ok.putJ hO h_a k13_0 (show rng 0 from ⟨by decide, by decide⟩) (by omega) (by omega) (fun _ he hl9 kk => th_put (ci := 11) (v := .int (I 0)) (ty := .int) (C := RX11) (T := TX11) (N := 66) hx hb hts inX11 tyX11 tyX11_ok nmX11 hown hK hH hS h00 he rfl 0 (by decide) fl0 rfl (by decide +kernel) rfl rfl hl9 dX11_tree_2 kk) (fun σ_s_5 H locs hO hF9 hM9 hg9 ha9 hH hS => ?_)
  replace hM := hM.tu hM9 (by decide)
  replace hF := hF.tu hF9 (by decide)
  have e_6 : aF σ_s_5 (ad E a 1) = f1 := (hM9.a (by decide) (by decide)).trans ef1
  have e_7 : aF σ_s_5 (ad E a 37) = f37 := (hM9.a (by decide) (by decide)).trans ef37
  have e_8 : aF σ_s_5 (ad E a 61) = f61 := (hM9.a (by decide) (by decide)).trans ef61
  have e_9 : aF σ_s_5 (ad E a 62) = f62 := (hM9.a (by decide) (by decide)).trans ef62
  have e_10 : aF σ_s_5 (ad E a 39) = f39 := (hM9.a (by decide) (by decide)).trans ef39
  have e_11 : aF σ_s_5 (ad E a 40) = f40 := (hM9.a (by decide) (by decide)).trans ef40
  have e_12 : aF σ_s_5 (ad E a 42) = f42 := (hM9.a (by decide) (by decide)).trans ef42
  have e_13 : aF σ_s_5 (ad E a 43) = f43 := (hM9.a (by decide) (by decide)).trans ef43
  have e_14 : aF σ_s_5 (ad E a 44) = f44 := (hM9.a (by decide) (by decide)).trans ef44
  have e_15 : aF σ_s_5 (ad E a 45) = f45 := (hM9.a (by decide) (by decide)).trans ef45
  have e_16 : aF σ_s_5 (ad E a 46) = f46 := (hM9.a (by decide) (by decide)).trans ef46
  have e_17 : aF σ_s_5 (ad E a 2) = f2 := (hM9.a (by decide) (by decide)).trans ef2
  have e_18 : aF σ_s_5 (ad E a 6) = f6 := (hM9.a (by decide) (by decide)).trans ef6
  have e_19 : gI σ_s_5 a 36 = a360 := (hM9.i (by decide)).trans ea360
  have e_20 : gI σ_s_5 a 58 = a580 := (hM9.i (by decide)).trans ea580
  have e_21 : gI σ_s_5 a 59 = a590 := (hM9.i (by decide)).trans ea590
  have e_22 : gI σ_s_5 a 12 = a120 := (hM9.i (by decide)).trans ea120
  have e_23 : gI σ_s_5 a 19 = z_1 := (hM9.i (by decide)).trans e_2
  have e_24 : gI σ_s_5 a 21 = z_3 := (hM9.i (by decide)).trans e_4
  have e_25 := hg9
  refine lv_aload_n hx hb dX11_tree_5 rfl (lv_at hl 0 rfl) ?_
  refine lv_iload_n hx hb dX11_tree_6 rfl (lv_at hl 1 rfl) ?_
  obtain ⟨_, hc_26⟩ := hO.cell h_a (by decide) (ci := 11) rfl
  refine th_calli (va_runV (As := [.int (I nn)]) (rest := []) ⟨hx, hb, hml, hown, hts⟩ (m_isTape l G y b0 σ_s_5 E hO a h_a nn (show rng nn from rnn)) (cwV 1 hts gX11_tree_X11_isTape rfl rfl rfl (by decide +kernel) ⟨Nat.le_of_ble_eq_true rfl, Nat.le_of_ble_eq_true rfl⟩) (th_PV hK hH rfl hc_26) rfl rfl hl.1 rfl (lv_room (Nat.le_of_ble_eq_true rfl)) dX11_tree_7 ⟨Nat.le_of_ble_eq_true rfl, Nat.le_of_ble_eq_true rfl⟩) hS (fun z_29 σ_s_28 H locs rz_29 hw_27 hH hS => ?_)
  obtain ⟨e9, bhw_27, hw_27⟩ := hw_27
  replace e9 := e9.symm
  subst e9
  replace hw_27 : (z_29 = 1 ∧ 0 ≤ nn ∧ nn ≤ gI σ_s_5 a 12) ∨ (z_29 = 0 ∧ ¬ (0 ≤ nn ∧ nn ≤ gI σ_s_5 a 12)) := hw_27
  refine lv_if_ne (tgt := 19) hx hb dX11_tree_10 (by decide) (fun c_30 => ?_) (fun c_30 => ?_)
  · replace c_30 := mt (I_eq (a := z_29) (b := 0) rz_29 (show rng 0 from ⟨by decide, by decide⟩)).mpr c_30
    refine lv_aload_n hx hb dX11_tree_19 rfl (lv_at hl 0 rfl) ?_
    refine lv_iconst (v := I 0) hx hb dX11_tree_20 (by decide) ?_
    refine ok.putJ hO h_a k13_12 (show rng 0 from ⟨by decide, by decide⟩) (by omega) (by omega) (fun _ he hl9 kk => th_put (ci := 11) (v := .int (I 0)) (ty := .int) (C := RX11) (T := TX11) (N := 66) hx hb hts inX11 tyX11 tyX11_ok nmX11 hown hK hH hS h00 he rfl 12 (by decide) fl1 rfl (by decide +kernel) rfl rfl hl9 dX11_tree_21 kk) (fun σ_s_31 H locs hO hF9 hM9 hg9 ha9 hH hS => ?_)
    replace hM := hM.tu hM9 (by decide)
    replace hF := hF.tu hF9 (by decide)
    have e_32 : aF σ_s_31 (ad E a 1) = f1 := (hM9.a (by decide) (by decide)).trans e_6
    have e_33 : aF σ_s_31 (ad E a 37) = f37 := (hM9.a (by decide) (by decide)).trans e_7
    have e_34 : aF σ_s_31 (ad E a 61) = f61 := (hM9.a (by decide) (by decide)).trans e_8
    have e_35 : aF σ_s_31 (ad E a 62) = f62 := (hM9.a (by decide) (by decide)).trans e_9
    have e_36 : aF σ_s_31 (ad E a 39) = f39 := (hM9.a (by decide) (by decide)).trans e_10
    have e_37 : aF σ_s_31 (ad E a 40) = f40 := (hM9.a (by decide) (by decide)).trans e_11
    have e_38 : aF σ_s_31 (ad E a 42) = f42 := (hM9.a (by decide) (by decide)).trans e_12
    have e_39 : aF σ_s_31 (ad E a 43) = f43 := (hM9.a (by decide) (by decide)).trans e_13
    have e_40 : aF σ_s_31 (ad E a 44) = f44 := (hM9.a (by decide) (by decide)).trans e_14
    have e_41 : aF σ_s_31 (ad E a 45) = f45 := (hM9.a (by decide) (by decide)).trans e_15
    have e_42 : aF σ_s_31 (ad E a 46) = f46 := (hM9.a (by decide) (by decide)).trans e_16
    have e_43 : aF σ_s_31 (ad E a 2) = f2 := (hM9.a (by decide) (by decide)).trans e_17
    have e_44 : aF σ_s_31 (ad E a 6) = f6 := (hM9.a (by decide) (by decide)).trans e_18
    have e_45 : gI σ_s_31 a 36 = a360 := (hM9.i (by decide)).trans e_19
    have e_46 : gI σ_s_31 a 58 = a580 := (hM9.i (by decide)).trans e_20
    have e_47 : gI σ_s_31 a 59 = a590 := (hM9.i (by decide)).trans e_21
    have e_48 : gI σ_s_31 a 19 = z_1 := (hM9.i (by decide)).trans e_23
    have e_49 : gI σ_s_31 a 21 = z_3 := (hM9.i (by decide)).trans e_24
    have e_50 : gI σ_s_31 a 0 = 0 := (hM9.i (by decide)).trans e_25
    have e_51 := hg9
    refine lv_aload_n hx hb dX11_tree_24 rfl (lv_at hl 0 rfl) ?_
    refine lv_iload_n hx hb dX11_tree_25 rfl (lv_at hl 1 rfl) ?_
    obtain ⟨_, hc_52⟩ := hO.cell h_a (by decide) (ci := 11) rfl
    refine th_calli (va_runV (As := [.int (I nn)]) (rest := []) ⟨hx, hb, hml, hown, hts⟩ (n_readsData l G y b0 σ_s_31 E hO a h_a nn (show rng nn from rnn) (by omega) (by omega) f2 e_43 f6 e_44 T (hSt (by omega))) (cwV 1 hts gX11_tree_X11_readsData rfl rfl rfl (by decide +kernel) ⟨Nat.le_of_ble_eq_true rfl, Nat.le_of_ble_eq_true rfl⟩) (th_PV hK hH rfl hc_52) rfl rfl hl.1 rfl (lv_room (Nat.le_of_ble_eq_true rfl)) dX11_tree_26 ⟨Nat.le_of_ble_eq_true rfl, Nat.le_of_ble_eq_true rfl⟩) hS (fun z_55 σ_s_54 H locs rz_55 hw_53 hH hS => ?_)
    obtain ⟨hO9, hF9, hM9, bhw_53, hw_53⟩ := hw_53
    replace hM := hM.tu hM9 (by decide)
    replace hF := hF.tu hF9 (by decide)
    have e_56 : aF σ_s_54 (ad E a 1) = f1 := (hM9.a (by decide) (by decide)).trans e_32
    have e_57 : aF σ_s_54 (ad E a 37) = f37 := (hM9.a (by decide) (by decide)).trans e_33
    have e_58 : aF σ_s_54 (ad E a 61) = f61 := (hM9.a (by decide) (by decide)).trans e_34
    have e_59 : aF σ_s_54 (ad E a 62) = f62 := (hM9.a (by decide) (by decide)).trans e_35
    have e_60 : aF σ_s_54 (ad E a 39) = f39 := (hM9.a (by decide) (by decide)).trans e_36
    have e_61 : aF σ_s_54 (ad E a 40) = f40 := (hM9.a (by decide) (by decide)).trans e_37
    have e_62 : aF σ_s_54 (ad E a 42) = f42 := (hM9.a (by decide) (by decide)).trans e_38
    have e_63 : aF σ_s_54 (ad E a 43) = f43 := (hM9.a (by decide) (by decide)).trans e_39
    have e_64 : aF σ_s_54 (ad E a 44) = f44 := (hM9.a (by decide) (by decide)).trans e_40
    have e_65 : aF σ_s_54 (ad E a 45) = f45 := (hM9.a (by decide) (by decide)).trans e_41
    have e_66 : aF σ_s_54 (ad E a 46) = f46 := (hM9.a (by decide) (by decide)).trans e_42
    have e_67 : aF σ_s_54 (ad E a 6) = f6 := (hM9.a (by decide) (by decide)).trans e_44
    have e_68 : gI σ_s_54 a 36 = a360 := (hM9.i (by decide)).trans e_45
    have e_69 : gI σ_s_54 a 58 = a580 := (hM9.i (by decide)).trans e_46
    have e_70 : gI σ_s_54 a 59 = a590 := (hM9.i (by decide)).trans e_47
    have e_71 : gI σ_s_54 a 0 = 0 := (hM9.i (by decide)).trans e_50
    have e_72 : gI σ_s_54 a 12 = 0 := (hM9.i (by decide)).trans e_51
    replace hO := hO9
    generalize ef_74 : aF σ_s_54 (ad E a 2) = g_73 at hw_53
    replace hw_53 : ((z_55 = 1 ∧ tr g_73 ∧ mS g_73 0 = gI σ_s_54 a 22) ∨ z_55 = 0) ∧ ∃ rr pp, TopR T rr pp ∧ ((z_55 = 1 ∧ rr = 0) ∨ (z_55 = 0 ∧ rr ≠ 0)) ∧ gI σ_s_54 a 19 = rr ∧ gI σ_s_54 a 21 = pp := hw_53
    obtain ⟨z_75, e_76, rz_75, lz_75, uz_75⟩ := hO.gi h_a (by decide) k13_21
    obtain ⟨z_77, e_78, rz_77, lz_77, uz_77⟩ := hO.gi h_a (by decide) k13_19
    obtain ⟨hz_79, rr_80, pp_81, hT_82, hz_83⟩ := hw_53
    refine lv_if_ne (tgt := 37) hx hb dX11_tree_29 (by decide) (fun c_84 => ?_) (fun c_84 => ?_)
    · replace c_84 := mt (I_eq (a := z_55) (b := 0) rz_55 (show rng 0 from ⟨by decide, by decide⟩)).mpr c_84
      obtain ⟨z_85, e_86, rz_85, lz_85, uz_85⟩ := hO.gi h_a (by decide) k13_22
      have hq6 := (hz_79.resolve_right (by omega)).2.1.2.1
      have hq9 := (hz_79.resolve_right (by omega)).2.2
      have hq7 := (hz_79.resolve_right (by omega)).2.1.2.2.1
      refine lv_iconst (v := I 0) hx hb dX11_tree_37 (by decide) ?_
      refine lv_istore_n (lv' := [(2, .int (I 0)), (0, .ref a), (1, .int (I nn))]) hx hb dX11_tree_38 rfl hl (by decide) rfl (fun ls hl => ?_)
      replace hl : lv_has ls 3 [(2, .int (I 0)), (0, .ref a)] := lv_sub hl [0, 1] rfl
      refine th_loop (α := Int × (Nat → Int32)) (pc := 39) (fun x9 => (240 - x9.1).toNat) (fun x9 σ9 H9 l9 ls9 => ok y E σ9 ∧ fr [13] E σ σ9 ∧ fm [0, 1, 2, 4, 9, 10, 11, 12, 13, 14, 15, 16, 17, 18, 19, 20, 21, 22, 36, 51, 58] E σ σ9 a ∧ th_H G b0 σ9 H9 ∧ va_S (th_A b0) s.heap H9 l9 ∧ lv_has ls9 3 [(0, .ref a), (2, .int (I x9.1))] ∧ rng x9.1 ∧ (0 ≤ x9.1) ∧ (x9.1 ≤ 4 * mS g_73 0) ∧ (x9.1 ≤ 240) ∧ (cpd f1 x9.2 g_73 0 0 x9.1) ∧ (gI σ9 a 36 = a360) ∧ (gI σ9 a 58 = a580) ∧ (gI σ9 a 59 = a590) ∧ (gI σ9 a 0 = 0) ∧ (gI σ9 a 12 = 0) ∧ (gI σ9 a 21 = z_75) ∧ (gI σ9 a 19 = z_77) ∧ (gI σ9 a 22 = z_85) ∧ (aF σ9 (ad E a 37) = f37) ∧ (aF σ9 (ad E a 61) = f61) ∧ (aF σ9 (ad E a 62) = f62) ∧ (aF σ9 (ad E a 39) = f39) ∧ (aF σ9 (ad E a 40) = f40) ∧ (aF σ9 (ad E a 42) = f42) ∧ (aF σ9 (ad E a 43) = f43) ∧ (aF σ9 (ad E a 44) = f44) ∧ (aF σ9 (ad E a 45) = f45) ∧ (aF σ9 (ad E a 46) = f46) ∧ (aF σ9 (ad E a 6) = f6) ∧ (aF σ9 (ad E a 2) = g_73) ∧ (aF σ9 (ad E a 1) = x9.2)) ?_ (0, f1) σ_s_54 _ _ _ ⟨hO, hF, hM, hH, hS, lv_sub hl [1, 0] rfl, (show rng 0 from ⟨by decide, by decide⟩), by first | (dsimp only; omega) | omega, by first | (dsimp only; omega) | omega, by first | (dsimp only; omega) | omega, cpd.zero, e_68, e_69, e_70, e_71, e_72, e_76, e_78, e_86, e_57, e_58, e_59, e_60, e_61, e_62, e_63, e_64, e_65, e_66, e_67, ef_74, e_56⟩
      intro x9 σ_J_145 H locs ls hI9 ihJ_145
      obtain ⟨v2q144, F1q143⟩ := x9
      obtain ⟨hO, hF, hM, hH, hS, hl, rv2q144, J_145_0, J_145_1, J_145_2, J_145_3, J_145_4, J_145_5, J_145_6, J_145_7, J_145_8, J_145_9, J_145_10, J_145_11, J_145_12, J_145_13, J_145_14, J_145_15, J_145_16, J_145_17, J_145_18, J_145_19, J_145_20, J_145_21, J_145_22, J_145_23, J_145_24⟩ := hI9
      have hl : lv_has ls 3 [(0, .ref a), (2, .int (I v2q144))] := hl
      have rv2q144 : rng v2q144 := rv2q144
      replace J_145_0 : 0 ≤ v2q144 := J_145_0
      replace J_145_1 : v2q144 ≤ 4 * mS g_73 0 := J_145_1
      replace J_145_2 : v2q144 ≤ 240 := J_145_2
      replace J_145_3 : cpd f1 F1q143 g_73 0 0 v2q144 := J_145_3
      replace J_145_4 : gI σ_J_145 a 36 = a360 := J_145_4
      replace J_145_5 : gI σ_J_145 a 58 = a580 := J_145_5
      replace J_145_6 : gI σ_J_145 a 59 = a590 := J_145_6
      replace J_145_7 : gI σ_J_145 a 0 = 0 := J_145_7
      replace J_145_8 : gI σ_J_145 a 12 = 0 := J_145_8
      replace J_145_9 : gI σ_J_145 a 21 = z_75 := J_145_9
      replace J_145_10 : gI σ_J_145 a 19 = z_77 := J_145_10
      replace J_145_11 : gI σ_J_145 a 22 = z_85 := J_145_11
      replace J_145_12 : aF σ_J_145 (ad E a 37) = f37 := J_145_12
      replace J_145_13 : aF σ_J_145 (ad E a 61) = f61 := J_145_13
      replace J_145_14 : aF σ_J_145 (ad E a 62) = f62 := J_145_14
      replace J_145_15 : aF σ_J_145 (ad E a 39) = f39 := J_145_15
      replace J_145_16 : aF σ_J_145 (ad E a 40) = f40 := J_145_16
      replace J_145_17 : aF σ_J_145 (ad E a 42) = f42 := J_145_17
      replace J_145_18 : aF σ_J_145 (ad E a 43) = f43 := J_145_18
      replace J_145_19 : aF σ_J_145 (ad E a 44) = f44 := J_145_19
      replace J_145_20 : aF σ_J_145 (ad E a 45) = f45 := J_145_20
      replace J_145_21 : aF σ_J_145 (ad E a 46) = f46 := J_145_21
      replace J_145_22 : aF σ_J_145 (ad E a 6) = f6 := J_145_22
      replace J_145_23 : aF σ_J_145 (ad E a 2) = g_73 := J_145_23
      replace J_145_24 : aF σ_J_145 (ad E a 1) = F1q143 := J_145_24
      refine lv_iload_n hx hb dX11_tree_39 rfl (lv_at hl 1 rfl) ?_
      refine lv_iconst (v := I 4) hx hb dX11_tree_40 (by decide) ?_
      refine lv_aload_n hx hb dX11_tree_41 rfl (lv_at hl 0 rfl) ?_
      refine ok.getIc hO h_a (by decide) k13_22 J_145_11 (fun _ _ he hv kk => th_get (ci := 11) (C := RX11) (T := TX11) (N := 66) hx hb hts inX11 hown hK hH he rfl 22 (by decide) fl2 hv dX11_tree_42 kk) ?_
      refine lv_imul hx hb dX11_tree_45 ?_
      refine nq_top (I_mul _ _) ?_
      refine lv_icmp_ge (tgt := 67) hx hb dX11_tree_46 (by decide) (fun c_146 => ?_) (fun c_146 => ?_)
      · replace c_146 := (I_le (a := 4 * z_85) (b := v2q144) ⟨by omega, by omega⟩ rv2q144).mp c_146
        refine lv_aload_n hx hb dX11_tree_67 rfl (lv_at hl 0 rfl) ?_
        refine lv_iconst (v := I 0) hx hb dX11_tree_68 (by decide) ?_
        refine ok.putJ hO h_a k13_36 (show rng 0 from ⟨by decide, by decide⟩) (by omega) (by omega) (fun _ he hl9 kk => th_put (ci := 11) (v := .int (I 0)) (ty := .int) (C := RX11) (T := TX11) (N := 66) hx hb hts inX11 tyX11 tyX11_ok nmX11 hown hK hH hS h00 he rfl 36 (by decide) fl3 rfl (by decide +kernel) rfl rfl hl9 dX11_tree_69 kk) (fun σ_s_147 H locs hO hF9 hM9 hg9 ha9 hH hS => ?_)
        replace hM := hM.tu hM9 (by decide)
        replace hF := hF.tu hF9 (by decide)
        have e_148 : gI σ_s_147 a 58 = a580 := (hM9.i (by decide)).trans J_145_5
        have e_149 : gI σ_s_147 a 59 = a590 := (hM9.i (by decide)).trans J_145_6
        have e_150 : gI σ_s_147 a 0 = 0 := (hM9.i (by decide)).trans J_145_7
        have e_151 : gI σ_s_147 a 12 = 0 := (hM9.i (by decide)).trans J_145_8
        have e_152 : gI σ_s_147 a 21 = z_75 := (hM9.i (by decide)).trans J_145_9
        have e_153 : gI σ_s_147 a 19 = z_77 := (hM9.i (by decide)).trans J_145_10
        have e_154 : gI σ_s_147 a 22 = z_85 := (hM9.i (by decide)).trans J_145_11
        have e_155 : aF σ_s_147 (ad E a 37) = f37 := (hM9.a (by decide) (by decide)).trans J_145_12
        have e_156 : aF σ_s_147 (ad E a 61) = f61 := (hM9.a (by decide) (by decide)).trans J_145_13
        have e_157 : aF σ_s_147 (ad E a 62) = f62 := (hM9.a (by decide) (by decide)).trans J_145_14
        have e_158 : aF σ_s_147 (ad E a 39) = f39 := (hM9.a (by decide) (by decide)).trans J_145_15
        have e_159 : aF σ_s_147 (ad E a 40) = f40 := (hM9.a (by decide) (by decide)).trans J_145_16
        have e_160 : aF σ_s_147 (ad E a 42) = f42 := (hM9.a (by decide) (by decide)).trans J_145_17
        have e_161 : aF σ_s_147 (ad E a 43) = f43 := (hM9.a (by decide) (by decide)).trans J_145_18
        have e_162 : aF σ_s_147 (ad E a 44) = f44 := (hM9.a (by decide) (by decide)).trans J_145_19
        have e_163 : aF σ_s_147 (ad E a 45) = f45 := (hM9.a (by decide) (by decide)).trans J_145_20
        have e_164 : aF σ_s_147 (ad E a 46) = f46 := (hM9.a (by decide) (by decide)).trans J_145_21
        have e_165 : aF σ_s_147 (ad E a 6) = f6 := (hM9.a (by decide) (by decide)).trans J_145_22
        have e_166 : aF σ_s_147 (ad E a 2) = g_73 := (hM9.a (by decide) (by decide)).trans J_145_23
        have e_167 : aF σ_s_147 (ad E a 1) = F1q143 := (hM9.a (by decide) (by decide)).trans J_145_24
        have e_168 := hg9
        refine lv_aload_n hx hb dX11_tree_72 rfl (lv_at hl 0 rfl) ?_
        refine lv_iconst (v := I 0) hx hb dX11_tree_73 (by decide) ?_
        refine ok.putJ hO h_a k13_51 (show rng 0 from ⟨by decide, by decide⟩) (by omega) (by omega) (fun _ he hl9 kk => th_put (ci := 11) (v := .int (I 0)) (ty := .int) (C := RX11) (T := TX11) (N := 66) hx hb hts inX11 tyX11 tyX11_ok nmX11 hown hK hH hS h00 he rfl 51 (by decide) fl4 rfl (by decide +kernel) rfl rfl hl9 dX11_tree_74 kk) (fun σ_s_169 H locs hO hF9 hM9 hg9 ha9 hH hS => ?_)
        replace hM := hM.tu hM9 (by decide)
        replace hF := hF.tu hF9 (by decide)
        have e_170 : gI σ_s_169 a 58 = a580 := (hM9.i (by decide)).trans e_148
        have e_171 : gI σ_s_169 a 59 = a590 := (hM9.i (by decide)).trans e_149
        have e_172 : gI σ_s_169 a 0 = 0 := (hM9.i (by decide)).trans e_150
        have e_173 : gI σ_s_169 a 12 = 0 := (hM9.i (by decide)).trans e_151
        have e_174 : gI σ_s_169 a 21 = z_75 := (hM9.i (by decide)).trans e_152
        have e_175 : gI σ_s_169 a 19 = z_77 := (hM9.i (by decide)).trans e_153
        have e_176 : gI σ_s_169 a 22 = z_85 := (hM9.i (by decide)).trans e_154
        have e_177 : aF σ_s_169 (ad E a 37) = f37 := (hM9.a (by decide) (by decide)).trans e_155
        have e_178 : aF σ_s_169 (ad E a 61) = f61 := (hM9.a (by decide) (by decide)).trans e_156
        have e_179 : aF σ_s_169 (ad E a 62) = f62 := (hM9.a (by decide) (by decide)).trans e_157
        have e_180 : aF σ_s_169 (ad E a 39) = f39 := (hM9.a (by decide) (by decide)).trans e_158
        have e_181 : aF σ_s_169 (ad E a 40) = f40 := (hM9.a (by decide) (by decide)).trans e_159
        have e_182 : aF σ_s_169 (ad E a 42) = f42 := (hM9.a (by decide) (by decide)).trans e_160
        have e_183 : aF σ_s_169 (ad E a 43) = f43 := (hM9.a (by decide) (by decide)).trans e_161
        have e_184 : aF σ_s_169 (ad E a 44) = f44 := (hM9.a (by decide) (by decide)).trans e_162
        have e_185 : aF σ_s_169 (ad E a 45) = f45 := (hM9.a (by decide) (by decide)).trans e_163
        have e_186 : aF σ_s_169 (ad E a 46) = f46 := (hM9.a (by decide) (by decide)).trans e_164
        have e_187 : aF σ_s_169 (ad E a 6) = f6 := (hM9.a (by decide) (by decide)).trans e_165
        have e_188 : aF σ_s_169 (ad E a 2) = g_73 := (hM9.a (by decide) (by decide)).trans e_166
        have e_189 : aF σ_s_169 (ad E a 1) = F1q143 := (hM9.a (by decide) (by decide)).trans e_167
        have e_190 : gI σ_s_169 a 36 = 0 := (hM9.i (by decide)).trans e_168
        have e_191 := hg9
        refine lv_aload_n hx hb dX11_tree_77 rfl (lv_at hl 0 rfl) ?_
        refine lv_iconst (v := I 0) hx hb dX11_tree_78 (by decide) ?_
        refine ok.putJ hO h_a k13_58 (show rng 0 from ⟨by decide, by decide⟩) (by omega) (by omega) (fun _ he hl9 kk => th_put (ci := 11) (v := .int (I 0)) (ty := .boolean) (C := RX11) (T := TX11) (N := 66) hx hb hts inX11 tyX11 tyX11_ok nmX11 hown hK hH hS h00 he rfl 58 (by decide) fl5 rfl (by decide +kernel) (nar_z (by omega)) rfl hl9 dX11_tree_79 kk) (fun σ_s_192 H locs hO hF9 hM9 hg9 ha9 hH hS => ?_)
        replace hM := hM.tu hM9 (by decide)
        replace hF := hF.tu hF9 (by decide)
        have e_193 : gI σ_s_192 a 59 = a590 := (hM9.i (by decide)).trans e_171
        have e_194 : gI σ_s_192 a 0 = 0 := (hM9.i (by decide)).trans e_172
        have e_195 : gI σ_s_192 a 12 = 0 := (hM9.i (by decide)).trans e_173
        have e_196 : gI σ_s_192 a 21 = z_75 := (hM9.i (by decide)).trans e_174
        have e_197 : gI σ_s_192 a 19 = z_77 := (hM9.i (by decide)).trans e_175
        have e_198 : gI σ_s_192 a 22 = z_85 := (hM9.i (by decide)).trans e_176
        have e_199 : aF σ_s_192 (ad E a 37) = f37 := (hM9.a (by decide) (by decide)).trans e_177
        have e_200 : aF σ_s_192 (ad E a 61) = f61 := (hM9.a (by decide) (by decide)).trans e_178
        have e_201 : aF σ_s_192 (ad E a 62) = f62 := (hM9.a (by decide) (by decide)).trans e_179
        have e_202 : aF σ_s_192 (ad E a 39) = f39 := (hM9.a (by decide) (by decide)).trans e_180
        have e_203 : aF σ_s_192 (ad E a 40) = f40 := (hM9.a (by decide) (by decide)).trans e_181
        have e_204 : aF σ_s_192 (ad E a 42) = f42 := (hM9.a (by decide) (by decide)).trans e_182
        have e_205 : aF σ_s_192 (ad E a 43) = f43 := (hM9.a (by decide) (by decide)).trans e_183
        have e_206 : aF σ_s_192 (ad E a 44) = f44 := (hM9.a (by decide) (by decide)).trans e_184
        have e_207 : aF σ_s_192 (ad E a 45) = f45 := (hM9.a (by decide) (by decide)).trans e_185
        have e_208 : aF σ_s_192 (ad E a 46) = f46 := (hM9.a (by decide) (by decide)).trans e_186
        have e_209 : aF σ_s_192 (ad E a 6) = f6 := (hM9.a (by decide) (by decide)).trans e_187
        have e_210 : aF σ_s_192 (ad E a 2) = g_73 := (hM9.a (by decide) (by decide)).trans e_188
        have e_211 : aF σ_s_192 (ad E a 1) = F1q143 := (hM9.a (by decide) (by decide)).trans e_189
        have e_212 : gI σ_s_192 a 36 = 0 := (hM9.i (by decide)).trans e_190
        have e_213 : gI σ_s_192 a 51 = 0 := (hM9.i (by decide)).trans e_191
        have e_214 := hg9
        refine lv_iconst (v := I 0) hx hb dX11_tree_82 (by decide) ?_
        exact th_iret hx hb hr hlocks hH hS (z := 0) (show rng 0 from ⟨by decide, by decide⟩) ⟨hO, hF, hM, ⟨(by rw [show aF σ_s_192 (ad E a 1) = F1q143 from e_211, show aF σ_s_192 (ad E a 37) = f37 from e_199, show aF σ_s_192 (ad E a 61) = f61 from e_200, show aF σ_s_192 (ad E a 62) = f62 from e_201, show aF σ_s_192 (ad E a 39) = f39 from e_202, show aF σ_s_192 (ad E a 40) = f40 from e_203, show aF σ_s_192 (ad E a 42) = f42 from e_204, show aF σ_s_192 (ad E a 43) = f43 from e_205, show aF σ_s_192 (ad E a 44) = f44 from e_206, show aF σ_s_192 (ad E a 45) = f45 from e_207, show aF σ_s_192 (ad E a 46) = f46 from e_208]; have hq9 := (hz_79.resolve_right (by omega)).2; have h9 := (J_145_3.fin (n := mS g_73 0) (by omega) (by omega)).2; rw [Int.zero_add, Int.sub_zero] at h9; exact ⟨(hj.tree (hq9.1.cp h9) (show trs f37 0 from fun j h7 h8 => absurd h7 (by omega)) rfl rfl).gone (by omega) (by omega) (by omega), by omega⟩), fun _ => ⟨⟨pp_81, (by rw [show (0 : Int) = rr_80 by omega]; exact hT_82), by omega⟩, by omega, by omega, by omega⟩, fun h9 => absurd (show 0 ≤ nn ∧ nn ≤ gI σ a 12 by omega) h9⟩⟩ dX11_tree_83
      · replace c_146 := mt (I_le (a := 4 * z_85) (b := v2q144) ⟨by omega, by omega⟩ rv2q144).mpr c_146
        refine lv_aload_n hx hb dX11_tree_49 rfl (lv_at hl 0 rfl) ?_
        refine ok.getR hO h_a (by decide) k13_1 (by decide) (fun _ _ he hv kk => th_get (ci := 11) (C := RX11) (T := TX11) (N := 66) hx hb hts inX11 hown hK hH he rfl 1 (by decide) fl6 hv dX11_tree_50 kk) ?_
        refine lv_iload_n hx hb dX11_tree_53 rfl (lv_at hl 1 rfl) ?_
        refine lv_aload_n hx hb dX11_tree_54 rfl (lv_at hl 0 rfl) ?_
        refine ok.getR hO h_a (by decide) k13_2 (by decide) (fun _ _ he hv kk => th_get (ci := 11) (C := RX11) (T := TX11) (N := 66) hx hb hts inX11 hown hK hH he rfl 2 (by decide) fl7 hv dX11_tree_55 kk) ?_
        refine lv_iload_n hx hb dX11_tree_58 rfl (lv_at hl 1 rfl) ?_
        refine m_iald hx hb hK hH hO h_a k13_2 isA1 J_145_23 rv2q144 (by omega) (by omega) dX11_tree_59 (fun z_215 ez_215 rz_215 elx9 => ?_)
        refine m_iast hx hb hK hH hS h00 hO h_a k13_1 isA1 (by decide) J_145_24 rv2q144 (by omega) (by omega) rz_215 el1 dX11_tree_60 (fun σ_s_216 H locs hO hF9 hM9 ha9 hH hS => ?_)
        replace hM := hM.tu hM9 (by decide)
        replace hF := hF.tu hF9 (by decide)
        have e_217 : gI σ_s_216 a 36 = a360 := (hM9.i (by decide)).trans J_145_4
        have e_218 : gI σ_s_216 a 58 = a580 := (hM9.i (by decide)).trans J_145_5
        have e_219 : gI σ_s_216 a 59 = a590 := (hM9.i (by decide)).trans J_145_6
        have e_220 : gI σ_s_216 a 0 = 0 := (hM9.i (by decide)).trans J_145_7
        have e_221 : gI σ_s_216 a 12 = 0 := (hM9.i (by decide)).trans J_145_8
        have e_222 : gI σ_s_216 a 21 = z_75 := (hM9.i (by decide)).trans J_145_9
        have e_223 : gI σ_s_216 a 19 = z_77 := (hM9.i (by decide)).trans J_145_10
        have e_224 : gI σ_s_216 a 22 = z_85 := (hM9.i (by decide)).trans J_145_11
        have e_225 : aF σ_s_216 (ad E a 37) = f37 := (hM9.a (by decide) (by decide)).trans J_145_12
        have e_226 : aF σ_s_216 (ad E a 61) = f61 := (hM9.a (by decide) (by decide)).trans J_145_13
        have e_227 : aF σ_s_216 (ad E a 62) = f62 := (hM9.a (by decide) (by decide)).trans J_145_14
        have e_228 : aF σ_s_216 (ad E a 39) = f39 := (hM9.a (by decide) (by decide)).trans J_145_15
        have e_229 : aF σ_s_216 (ad E a 40) = f40 := (hM9.a (by decide) (by decide)).trans J_145_16
        have e_230 : aF σ_s_216 (ad E a 42) = f42 := (hM9.a (by decide) (by decide)).trans J_145_17
        have e_231 : aF σ_s_216 (ad E a 43) = f43 := (hM9.a (by decide) (by decide)).trans J_145_18
        have e_232 : aF σ_s_216 (ad E a 44) = f44 := (hM9.a (by decide) (by decide)).trans J_145_19
        have e_233 : aF σ_s_216 (ad E a 45) = f45 := (hM9.a (by decide) (by decide)).trans J_145_20
        have e_234 : aF σ_s_216 (ad E a 46) = f46 := (hM9.a (by decide) (by decide)).trans J_145_21
        have e_235 : aF σ_s_216 (ad E a 6) = f6 := (hM9.a (by decide) (by decide)).trans J_145_22
        have e_236 : aF σ_s_216 (ad E a 2) = g_73 := (hM9.a (by decide) (by decide)).trans J_145_23
        obtain ⟨g_237, dg_237⟩ : ∃ g9, g9 = upd F1q143 (v2q144).toNat (I z_215) := ⟨_, rfl⟩
        rw [← dg_237] at ha9
        have ef_238 := ha9
        refine lv_iinc (v := I (v2q144 + 1)) (lv' := [(2, .int (I (v2q144 + 1))), (0, .ref a)]) hx hb dX11_tree_61 hl (k := 1) rfl (I_add _ _) (by decide) rfl (fun ls hl => ?_)
        refine lv_goto (tgt := 39) hx hb dX11_tree_64 (by decide) ?_
        exact ihJ_145 (v2q144 + 1, g_237) σ_s_216 _ _ _ (by first | (dsimp only; omega) | omega) ⟨hO, hF, hM, hH, hS, lv_sub hl [1, 0] rfl, ⟨by first | (dsimp only; omega) | omega, by first | (dsimp only; omega) | omega⟩, by first | (dsimp only; omega) | omega, by first | (dsimp only; omega) | omega, by first | (dsimp only; omega) | omega, (J_145_3.step dg_237 (by first | (dsimp only; omega) | omega) ez_215 (by first | (dsimp only; omega) | omega) (by first | (dsimp only; omega) | omega) (by first | (dsimp only; omega) | omega)), e_217, e_218, e_219, e_220, e_221, e_222, e_223, e_224, e_225, e_226, e_227, e_228, e_229, e_230, e_231, e_232, e_233, e_234, e_235, e_236, ef_238⟩
    · replace c_84 := (I_eq (a := z_55) (b := 0) rz_55 (show rng 0 from ⟨by decide, by decide⟩)).mp c_84
      refine lv_aload_n hx hb dX11_tree_32 rfl (lv_at hl 0 rfl) ?_
      refine ok.getIc hO h_a (by decide) k13_19 e_78 (fun _ _ he hv kk => th_get (ci := 11) (C := RX11) (T := TX11) (N := 66) hx hb hts inX11 hown hK hH he rfl 19 (by decide) fl8 hv dX11_tree_33 kk) ?_
      exact th_iret hx hb hr hlocks hH hS (z := z_77) rz_77 ⟨hO, hF, hM, ⟨(by rw [show aF σ_s_54 (ad E a 1) = f1 from e_56, show aF σ_s_54 (ad E a 37) = f37 from e_57, show aF σ_s_54 (ad E a 61) = f61 from e_58, show aF σ_s_54 (ad E a 62) = f62 from e_59, show aF σ_s_54 (ad E a 39) = f39 from e_60, show aF σ_s_54 (ad E a 40) = f40 from e_61, show aF σ_s_54 (ad E a 42) = f42 from e_62, show aF σ_s_54 (ad E a 43) = f43 from e_63, show aF σ_s_54 (ad E a 44) = f44 from e_64, show aF σ_s_54 (ad E a 45) = f45 from e_65, show aF σ_s_54 (ad E a 46) = f46 from e_66]; exact ⟨hj.n (by omega) (by omega) (by omega), by omega⟩), fun _ => ⟨⟨pp_81, (by rw [show z_77 = rr_80 by omega]; exact hT_82), by omega⟩, by omega, by omega, by omega⟩, fun h9 => absurd (show 0 ≤ nn ∧ nn ≤ gI σ a 12 by omega) h9⟩⟩ dX11_tree_36
  · replace c_30 := (I_eq (a := z_29) (b := 0) rz_29 (show rng 0 from ⟨by decide, by decide⟩)).mp c_30
    refine lv_aload_n hx hb dX11_tree_13 rfl (lv_at hl 0 rfl) ?_
    refine lv_iconst (v := I 1) hx hb dX11_tree_14 (by decide) ?_
    obtain ⟨_, hc_239⟩ := hO.cell h_a (by decide) (ci := 11) rfl
    refine th_calli (va_runV (As := [.int (I 1)]) (rest := []) ⟨hx, hb, hml, hown, hts⟩ (n_fail l G y b0 σ_s_5 E hO a h_a 1 (show rng 1 from (show rng 1 from ⟨by decide, by decide⟩))) (cwV 1 hts gX11_tree_X11_fail rfl rfl rfl (by decide +kernel) ⟨Nat.le_of_ble_eq_true rfl, Nat.le_of_ble_eq_true rfl⟩) (th_PV hK hH rfl hc_239) rfl rfl hl.1 rfl (lv_room (Nat.le_of_ble_eq_true rfl)) dX11_tree_15 ⟨Nat.le_of_ble_eq_true rfl, Nat.le_of_ble_eq_true rfl⟩) hS (fun z_242 σ_s_241 H locs rz_242 hw_240 hH hS => ?_)
    obtain ⟨hO9, hF9, hM9, hw_240⟩ := hw_240
    replace hM := hM.tu hM9 (by decide)
    replace hF := hF.tu hF9 (by decide)
    have e_243 : aF σ_s_241 (ad E a 1) = f1 := (hM9.a (by decide) (by decide)).trans e_6
    have e_244 : aF σ_s_241 (ad E a 37) = f37 := (hM9.a (by decide) (by decide)).trans e_7
    have e_245 : aF σ_s_241 (ad E a 61) = f61 := (hM9.a (by decide) (by decide)).trans e_8
    have e_246 : aF σ_s_241 (ad E a 62) = f62 := (hM9.a (by decide) (by decide)).trans e_9
    have e_247 : aF σ_s_241 (ad E a 39) = f39 := (hM9.a (by decide) (by decide)).trans e_10
    have e_248 : aF σ_s_241 (ad E a 40) = f40 := (hM9.a (by decide) (by decide)).trans e_11
    have e_249 : aF σ_s_241 (ad E a 42) = f42 := (hM9.a (by decide) (by decide)).trans e_12
    have e_250 : aF σ_s_241 (ad E a 43) = f43 := (hM9.a (by decide) (by decide)).trans e_13
    have e_251 : aF σ_s_241 (ad E a 44) = f44 := (hM9.a (by decide) (by decide)).trans e_14
    have e_252 : aF σ_s_241 (ad E a 45) = f45 := (hM9.a (by decide) (by decide)).trans e_15
    have e_253 : aF σ_s_241 (ad E a 46) = f46 := (hM9.a (by decide) (by decide)).trans e_16
    have e_254 : aF σ_s_241 (ad E a 2) = f2 := (hM9.a (by decide) (by decide)).trans e_17
    have e_255 : aF σ_s_241 (ad E a 6) = f6 := (hM9.a (by decide) (by decide)).trans e_18
    have e_256 : gI σ_s_241 a 36 = a360 := (hM9.i (by decide)).trans e_19
    have e_257 : gI σ_s_241 a 58 = a580 := (hM9.i (by decide)).trans e_20
    have e_258 : gI σ_s_241 a 59 = a590 := (hM9.i (by decide)).trans e_21
    have e_259 : gI σ_s_241 a 12 = a120 := (hM9.i (by decide)).trans e_22
    have e_260 : gI σ_s_241 a 19 = z_1 := (hM9.i (by decide)).trans e_23
    have e_261 : gI σ_s_241 a 21 = z_3 := (hM9.i (by decide)).trans e_24
    replace hO := hO9
    replace hw_240 : z_242 = 0 ∧ gI σ_s_241 a 0 = 1 := hw_240
    exact th_iret hx hb hr hlocks hH hS (z := z_242) rz_242 ⟨hO, hF, hM, ⟨(by rw [show aF σ_s_241 (ad E a 1) = f1 from e_243, show aF σ_s_241 (ad E a 37) = f37 from e_244, show aF σ_s_241 (ad E a 61) = f61 from e_245, show aF σ_s_241 (ad E a 62) = f62 from e_246, show aF σ_s_241 (ad E a 39) = f39 from e_247, show aF σ_s_241 (ad E a 40) = f40 from e_248, show aF σ_s_241 (ad E a 42) = f42 from e_249, show aF σ_s_241 (ad E a 43) = f43 from e_250, show aF σ_s_241 (ad E a 44) = f44 from e_251, show aF σ_s_241 (ad E a 45) = f45 from e_252, show aF σ_s_241 (ad E a 46) = f46 from e_253]; exact ⟨hj.n (by omega) (by omega) (by omega), by omega⟩), fun h9 => absurd h9 (by omega), fun _ => ⟨by omega, by omega⟩⟩⟩ dX11_tree_18

set_option maxHeartbeats 20000000 in
set_option maxRecDepth 100000 in
theorem j7_feed (l : Launch) (G : va_G) (y : Nat → ClassId) (b0 : Nat) (σ : th_M) (E : th_E) (hO : ok y E σ) (a : Nat) (h_a : kd E a = 13) (w1 : Int) (rw1 : rng w1) (w2 : Int) (rw2 : rng w2) (w3 : Int) (rw3 : rng w3) (w4 : Int) (rw4 : rng w4) (w5 : Int) (rw5 : rng w5) (f1 : Nat → Int32) (ef1 : aF σ (ad E a 1) = f1) (f37 : Nat → Int32) (ef37 : aF σ (ad E a 37) = f37) (f61 : Nat → Int32) (ef61 : aF σ (ad E a 61) = f61) (f62 : Nat → Int32) (ef62 : aF σ (ad E a 62) = f62) (f39 : Nat → Int32) (ef39 : aF σ (ad E a 39) = f39) (f40 : Nat → Int32) (ef40 : aF σ (ad E a 40) = f40) (f42 : Nat → Int32) (ef42 : aF σ (ad E a 42) = f42) (f43 : Nat → Int32) (ef43 : aF σ (ad E a 43) = f43) (f44 : Nat → Int32) (ef44 : aF σ (ad E a 44) = f44) (f45 : Nat → Int32) (ef45 : aF σ (ad E a 45) = f45) (f46 : Nat → Int32) (ef46 : aF σ (ad E a 46) = f46) (f6 : Nat → Int32) (ef6 : aF σ (ad E a 6) = f6) (hy0 : jw f1 f37 f61 f62 f39 f40 f42 f43 f44 f45 f46 (gI σ a 36) (gI σ a 58) (gI σ a 59)) : Met l yX11_feed wsX11_feed ({ frames := 0, cells := 0, slots := 0, locals := 0 }) (th_P G y b0 σ [.ref a, .int (I w1), .int (I w2), .int (I w3), .int (I w4), .int (I w5)]) (th_Qi G b0 (fun r σ1 => ok y E σ1 ∧ fr [13] E σ σ1 ∧ fm [0, 6, 12] E σ σ1 a ∧ ((jw (aF σ1 (ad E a 1)) (aF σ1 (ad E a 37)) (aF σ1 (ad E a 61)) (aF σ1 (ad E a 62)) (aF σ1 (ad E a 39)) (aF σ1 (ad E a 40)) (aF σ1 (ad E a 42)) (aF σ1 (ad E a 43)) (aF σ1 (ad E a 44)) (aF σ1 (ad E a 45)) (aF σ1 (ad E a 46)) (gI σ1 a 36) (gI σ1 a 58) (gI σ1 a 59) ∧ ((gI σ a 12 + 20 ≤ 400 ∧ gI σ1 a 12 = gI σ a 12 + 20 ∧ r = gI σ a 12 + 20) ∨ (¬ gI σ a 12 + 20 ≤ 400 ∧ gI σ1 a 12 = gI σ a 12 ∧ r = -1))) ∧ ((gI σ a 12 + 20 ≤ 400) → fdp f6 (aF σ1 (ad E a 6)) (gI σ a 12) 20 w1 w2 w3 w4 w5) ∧ (¬ gI σ a 12 + 20 ≤ 400 → (aF σ1 (ad E a 6)) = f6) ∧ gI σ1 a 58 = gI σ a 58))) 0 0 (th_A b0) := by
  refine Met.ofW (cc := cX11_feed) (maxL := 8) (ret := (some .int)) (by decide) rfl ?_
  intro p e s m args below meth c s₁ B hml hv
  obtain ⟨rfl, hH, hK⟩ := hv
  have hx := B.exec
  have hb := B.bytes
  have hr := B.returns
  have hts := atoms_spec (ws := wsX11_feed) B.pre
  have hown : s.vm.findClass RX11 = some m.cls := findClass_of_methodNamed B.named
  have hlocks := B.notSynchronized
  have h00 : b0 ≤ s.heap.size := hH.1
  have hS : va_S (th_A b0) s.heap s.heap [] := va_S.rf
  have hF : fr [13] E σ σ := fr.rf
  have hM : fm [0, 6, 12] E σ σ a := fm.rf
  have hj := hy0
  have hw1 := hj.1.1.1
  have hm1 := hj.1.2.1
  have hm2 := hj.1.2.2.1
  have hm3 := hj.2.2.2.2.1
  have hm4 := hj.2.2.2.2.2.1
  have inX11 : ∀ w ∈ wsX110, w ∈ wsX11_feed := by decide +kernel
  have fl0 := hts (.fieldLink RX11 111 "NestQueryModel" "code" "I") (by decide +kernel)
  have fl1 := hts (.fieldLink RX11 114 "NestQueryModel" "taped" "I") (by decide +kernel)
  have fl2 := hts (.fieldLink RX11 22 "NestQueryModel" "tape" "[I") (by decide +kernel)
  have hl := lv_entry ([.ref a, .int (I w1), .int (I w2), .int (I w3), .int (I w4), .int (I w5)]) (n := 8) (Nat.le_of_ble_eq_true rfl)
  rw [lg_entry_eq]
  generalize (lg_sl ([.ref a, .int (I w1), .int (I w2), .int (I w3), .int (I w4), .int (I w5)]) ++ List.replicate (8 - (lg_sl ([.ref a, .int (I w1), .int (I w2), .int (I w3), .int (I w4), .int (I w5)])).length) Slot.unset).toArray = ls at hl ⊢
  have hl : lv_has ls 8 [(0, .ref a), (1, .int (I w1)), (2, .int (I w2)), (3, .int (I w3)), (4, .int (I w4)), (5, .int (I w5))] := hl
  obtain ⟨a360, ea360, ra360, la360, ua360⟩ := hO.gi h_a (by decide) k13_36
  obtain ⟨a580, ea580, ra580, la580, ua580⟩ := hO.gi h_a (by decide) k13_58
  obtain ⟨a590, ea590, ra590, la590, ua590⟩ := hO.gi h_a (by decide) k13_59
  obtain ⟨a120, ea120, ra120, la120, ua120⟩ := hO.gi h_a (by decide) k13_12
  refine lv_aload_n hx hb dX11_feed_0 rfl (lv_at hl 0 rfl) ?_
  refine lv_iconst (v := I 0) hx hb dX11_feed_1 (by decide) ?_
  refine ok.putJ hO h_a k13_0 (show rng 0 from ⟨by decide, by decide⟩) (by omega) (by omega) (fun _ he hl9 kk => th_put (ci := 11) (v := .int (I 0)) (ty := .int) (C := RX11) (T := TX11) (N := 66) hx hb hts inX11 tyX11 tyX11_ok nmX11 hown hK hH hS h00 he rfl 0 (by decide) fl0 rfl (by decide +kernel) rfl rfl hl9 dX11_feed_2 kk) (fun σ_s_1 H locs hO hF9 hM9 hg9 ha9 hH hS => ?_)
  replace hM := hM.tu hM9 (by decide)
  replace hF := hF.tu hF9 (by decide)
  have e_2 : aF σ_s_1 (ad E a 1) = f1 := (hM9.a (by decide) (by decide)).trans ef1
  have e_3 : aF σ_s_1 (ad E a 37) = f37 := (hM9.a (by decide) (by decide)).trans ef37
  have e_4 : aF σ_s_1 (ad E a 61) = f61 := (hM9.a (by decide) (by decide)).trans ef61
  have e_5 : aF σ_s_1 (ad E a 62) = f62 := (hM9.a (by decide) (by decide)).trans ef62
  have e_6 : aF σ_s_1 (ad E a 39) = f39 := (hM9.a (by decide) (by decide)).trans ef39
  have e_7 : aF σ_s_1 (ad E a 40) = f40 := (hM9.a (by decide) (by decide)).trans ef40
  have e_8 : aF σ_s_1 (ad E a 42) = f42 := (hM9.a (by decide) (by decide)).trans ef42
  have e_9 : aF σ_s_1 (ad E a 43) = f43 := (hM9.a (by decide) (by decide)).trans ef43
  have e_10 : aF σ_s_1 (ad E a 44) = f44 := (hM9.a (by decide) (by decide)).trans ef44
  have e_11 : aF σ_s_1 (ad E a 45) = f45 := (hM9.a (by decide) (by decide)).trans ef45
  have e_12 : aF σ_s_1 (ad E a 46) = f46 := (hM9.a (by decide) (by decide)).trans ef46
  have e_13 : aF σ_s_1 (ad E a 6) = f6 := (hM9.a (by decide) (by decide)).trans ef6
  have e_14 : gI σ_s_1 a 36 = a360 := (hM9.i (by decide)).trans ea360
  have e_15 : gI σ_s_1 a 58 = a580 := (hM9.i (by decide)).trans ea580
  have e_16 : gI σ_s_1 a 59 = a590 := (hM9.i (by decide)).trans ea590
  have e_17 : gI σ_s_1 a 12 = a120 := (hM9.i (by decide)).trans ea120
  have e_18 := hg9
  refine lv_aload_n hx hb dX11_feed_5 rfl (lv_at hl 0 rfl) ?_
  refine ok.getIc hO h_a (by decide) k13_12 e_17 (fun _ _ he hv kk => th_get (ci := 11) (C := RX11) (T := TX11) (N := 66) hx hb hts inX11 hown hK hH he rfl 12 (by decide) fl1 hv dX11_feed_6 kk) ?_
  refine lv_bipush (v := I 20) hx hb dX11_feed_9 (by decide) ?_
  refine lv_iadd hx hb dX11_feed_11 ?_
  refine nq_top (I_add _ _) ?_
  refine lv_sipush (v := I 400) hx hb dX11_feed_12 (by decide) ?_
  refine lv_icmp_le (tgt := 20) hx hb dX11_feed_15 (by decide) (fun c_19 => ?_) (fun c_19 => ?_)
  · replace c_19 := (I_le (a := a120 + 20) (b := 400) ⟨by omega, by omega⟩ (show rng 400 from ⟨by decide, by decide⟩)).mp c_19
    refine lv_iconst (v := I 0) hx hb dX11_feed_20 (by decide) ?_
    refine lv_istore (lv' := [(6, .int (I 0)), (0, .ref a), (1, .int (I w1)), (2, .int (I w2)), (3, .int (I w3)), (4, .int (I w4)), (5, .int (I w5))]) hx hb dX11_feed_21 hl (by decide) rfl (fun ls hl => ?_)
    refine th_loop (α := Int × Int × (Nat → Int32)) (pc := 23) (fun x9 => (20 - x9.1).toNat) (fun x9 σ9 H9 l9 ls9 => ok y E σ9 ∧ fr [13] E σ σ9 ∧ fm [0, 6, 12] E σ σ9 a ∧ th_H G b0 σ9 H9 ∧ va_S (th_A b0) s.heap H9 l9 ∧ lv_has ls9 8 [(0, .ref a), (1, .int (I w1)), (2, .int (I w2)), (3, .int (I w3)), (4, .int (I w4)), (5, .int (I w5)), (6, .int (I x9.1))] ∧ rng x9.1 ∧ rng x9.2.1 ∧ (0 ≤ x9.1) ∧ (x9.1 ≤ 20) ∧ (x9.2.1 = gI σ a 12 + x9.1) ∧ (0 ≤ x9.2.1) ∧ (x9.2.1 ≤ 400) ∧ (fdp f6 x9.2.2 (gI σ a 12) x9.1 w1 w2 w3 w4 w5) ∧ (gI σ9 a 36 = a360) ∧ (gI σ9 a 58 = a580) ∧ (gI σ9 a 59 = a590) ∧ (gI σ9 a 0 = 0) ∧ (aF σ9 (ad E a 1) = f1) ∧ (aF σ9 (ad E a 37) = f37) ∧ (aF σ9 (ad E a 61) = f61) ∧ (aF σ9 (ad E a 62) = f62) ∧ (aF σ9 (ad E a 39) = f39) ∧ (aF σ9 (ad E a 40) = f40) ∧ (aF σ9 (ad E a 42) = f42) ∧ (aF σ9 (ad E a 43) = f43) ∧ (aF σ9 (ad E a 44) = f44) ∧ (aF σ9 (ad E a 45) = f45) ∧ (aF σ9 (ad E a 46) = f46) ∧ (aF σ9 (ad E a 6) = x9.2.2) ∧ (gI σ9 a 12 = x9.2.1)) ?_ (0, a120, f6) σ_s_1 _ _ _ ⟨hO, hF, hM, hH, hS, lv_sub hl [1, 2, 3, 4, 5, 6, 0] rfl, (show rng 0 from ⟨by decide, by decide⟩), ra120, by first | (dsimp only; omega) | omega, by first | (dsimp only; omega) | omega, by first | (dsimp only; omega) | omega, by first | (dsimp only; omega) | omega, by first | (dsimp only; omega) | omega, (fdp.zero (by omega)), e_14, e_15, e_16, e_18, e_2, e_3, e_4, e_5, e_6, e_7, e_8, e_9, e_10, e_11, e_12, e_13, e_17⟩
    intro x9 σ_J_133 H locs ls hI9 ihJ_133
    obtain ⟨v6q132, G12q131, F6q130⟩ := x9
    obtain ⟨hO, hF, hM, hH, hS, hl, rv6q132, rG12q131, J_133_0, J_133_1, J_133_2, J_133_3, J_133_4, J_133_5, J_133_6, J_133_7, J_133_8, J_133_9, J_133_10, J_133_11, J_133_12, J_133_13, J_133_14, J_133_15, J_133_16, J_133_17, J_133_18, J_133_19, J_133_20, J_133_21, J_133_22⟩ := hI9
    have hl : lv_has ls 8 [(0, .ref a), (1, .int (I w1)), (2, .int (I w2)), (3, .int (I w3)), (4, .int (I w4)), (5, .int (I w5)), (6, .int (I v6q132))] := hl
    have rv6q132 : rng v6q132 := rv6q132
    have rG12q131 : rng G12q131 := rG12q131
    replace J_133_0 : 0 ≤ v6q132 := J_133_0
    replace J_133_1 : v6q132 ≤ 20 := J_133_1
    replace J_133_2 : G12q131 = gI σ a 12 + v6q132 := J_133_2
    replace J_133_3 : 0 ≤ G12q131 := J_133_3
    replace J_133_4 : G12q131 ≤ 400 := J_133_4
    replace J_133_5 : fdp f6 F6q130 (gI σ a 12) v6q132 w1 w2 w3 w4 w5 := J_133_5
    replace J_133_6 : gI σ_J_133 a 36 = a360 := J_133_6
    replace J_133_7 : gI σ_J_133 a 58 = a580 := J_133_7
    replace J_133_8 : gI σ_J_133 a 59 = a590 := J_133_8
    replace J_133_9 : gI σ_J_133 a 0 = 0 := J_133_9
    replace J_133_10 : aF σ_J_133 (ad E a 1) = f1 := J_133_10
    replace J_133_11 : aF σ_J_133 (ad E a 37) = f37 := J_133_11
    replace J_133_12 : aF σ_J_133 (ad E a 61) = f61 := J_133_12
    replace J_133_13 : aF σ_J_133 (ad E a 62) = f62 := J_133_13
    replace J_133_14 : aF σ_J_133 (ad E a 39) = f39 := J_133_14
    replace J_133_15 : aF σ_J_133 (ad E a 40) = f40 := J_133_15
    replace J_133_16 : aF σ_J_133 (ad E a 42) = f42 := J_133_16
    replace J_133_17 : aF σ_J_133 (ad E a 43) = f43 := J_133_17
    replace J_133_18 : aF σ_J_133 (ad E a 44) = f44 := J_133_18
    replace J_133_19 : aF σ_J_133 (ad E a 45) = f45 := J_133_19
    replace J_133_20 : aF σ_J_133 (ad E a 46) = f46 := J_133_20
    replace J_133_21 : aF σ_J_133 (ad E a 6) = F6q130 := J_133_21
    replace J_133_22 : gI σ_J_133 a 12 = G12q131 := J_133_22
    refine lv_iload hx hb dX11_feed_23 (lv_at hl 6 rfl) ?_
    refine lv_bipush (v := I 20) hx hb dX11_feed_25 (by decide) ?_
    refine lv_icmp_ge (tgt := 120) hx hb dX11_feed_27 (by decide) (fun c_134 => ?_) (fun c_134 => ?_)
    · replace c_134 := (I_le (a := 20) (b := v6q132) (show rng 20 from ⟨by decide, by decide⟩) rv6q132).mp c_134
      refine lv_aload_n hx hb dX11_feed_120 rfl (lv_at hl 0 rfl) ?_
      refine ok.getIc hO h_a (by decide) k13_12 J_133_22 (fun _ _ he hv kk => th_get (ci := 11) (C := RX11) (T := TX11) (N := 66) hx hb hts inX11 hown hK hH he rfl 12 (by decide) fl1 hv dX11_feed_121 kk) ?_
      exact th_iret hx hb hr hlocks hH hS (z := G12q131) rG12q131 ⟨hO, hF, hM, ⟨(by rw [show aF σ_J_133 (ad E a 1) = f1 from J_133_10, show aF σ_J_133 (ad E a 37) = f37 from J_133_11, show aF σ_J_133 (ad E a 61) = f61 from J_133_12, show aF σ_J_133 (ad E a 62) = f62 from J_133_13, show aF σ_J_133 (ad E a 39) = f39 from J_133_14, show aF σ_J_133 (ad E a 40) = f40 from J_133_15, show aF σ_J_133 (ad E a 42) = f42 from J_133_16, show aF σ_J_133 (ad E a 43) = f43 from J_133_17, show aF σ_J_133 (ad E a 44) = f44 from J_133_18, show aF σ_J_133 (ad E a 45) = f45 from J_133_19, show aF σ_J_133 (ad E a 46) = f46 from J_133_20]; exact ⟨hj.n (by omega) (by omega) (by omega), by omega⟩), (fun _ => by rw [show aF σ_J_133 (ad E a 6) = F6q130 from J_133_21]; have h9 := J_133_5; rw [show v6q132 = 20 by omega] at h9; exact h9), (fun h9 => absurd (show gI σ a 12 + 20 ≤ 400 by omega) h9), by omega⟩⟩ dX11_feed_124
    · replace c_134 := mt (I_le (a := 20) (b := v6q132) (show rng 20 from ⟨by decide, by decide⟩) rv6q132).mpr c_134
      refine lv_iload hx hb dX11_feed_30 (lv_at hl 6 rfl) ?_
      refine lv_iconst (v := I 4) hx hb dX11_feed_32 (by decide) ?_
      refine th_join (α := Int) (J := 76) (stk := fun x9 => [.int (I x9)]) (fun x9 σ9 H9 l9 ls9 => σ9 = σ_J_133 ∧ th_H G b0 σ9 H9 ∧ va_S (th_A b0) s.heap H9 l9 ∧ lv_has ls9 8 [(0, .ref a), (1, .int (I w1)), (2, .int (I w2)), (3, .int (I w3)), (4, .int (I w4)), (5, .int (I w5)), (6, .int (I v6q132))] ∧ rng x9 ∧ (x9 = wsel w1 w2 w3 w4 w5 v6q132)) ?_ (fun jK_140 => ?_)
      · intro x9 σ_K_140 H locs ls hI9
        obtain ⟨w0q139, ex9⟩ : ∃ z, z = x9 := ⟨_, rfl⟩
        subst ex9
        obtain ⟨eK_140, hH, hS, hl, rw0q139, K_140_0⟩ := hI9
        replace eK_140 := eK_140.symm
        subst eK_140
        have hl : lv_has ls 8 [(0, .ref a), (1, .int (I w1)), (2, .int (I w2)), (3, .int (I w3)), (4, .int (I w4)), (5, .int (I w5)), (6, .int (I v6q132))] := hl
        have rw0q139 : rng w0q139 := rw0q139
        replace K_140_0 : w0q139 = wsel w1 w2 w3 w4 w5 v6q132 := K_140_0
        refine lv_istore (lv' := [(7, .int (I w0q139)), (0, .ref a), (1, .int (I w1)), (2, .int (I w2)), (3, .int (I w3)), (4, .int (I w4)), (5, .int (I w5)), (6, .int (I v6q132))]) hx hb dX11_feed_76 hl (by decide) rfl (fun ls hl => ?_)
        refine lv_aload_n hx hb dX11_feed_78 rfl (lv_at hl 1 rfl) ?_
        refine ok.getR hO h_a (by decide) k13_6 (by decide) (fun _ _ he hv kk => th_get (ci := 11) (C := RX11) (T := TX11) (N := 66) hx hb hts inX11 hown hK hH he rfl 6 (by decide) fl2 hv dX11_feed_79 kk) ?_
        refine lv_aload_n hx hb dX11_feed_82 rfl (lv_at hl 1 rfl) ?_
        refine ok.getIc hO h_a (by decide) k13_12 J_133_22 (fun _ _ he hv kk => th_get (ci := 11) (C := RX11) (T := TX11) (N := 66) hx hb hts inX11 hown hK hH he rfl 12 (by decide) fl1 hv dX11_feed_83 kk) ?_
        refine lv_iload hx hb dX11_feed_86 (lv_at hl 0 rfl) ?_
        refine lv_bipush (v := I 24) hx hb dX11_feed_88 (by decide) ?_
        refine lv_bipush (v := I 8) hx hb dX11_feed_90 (by decide) ?_
        refine lv_iload hx hb dX11_feed_92 (lv_at hl 7 rfl) ?_
        refine lv_iconst (v := I 4) hx hb dX11_feed_94 (by decide) ?_
        refine lv_irem hx hb dX11_feed_95 (I_ne0 (show rng 4 from ⟨by decide, by decide⟩) (by omega)) ?_
        refine th_rem9 rv6q132 (by omega) (show rng 4 from ⟨by decide, by decide⟩) (by omega) (fun z_141 rz_141 hz_141 => ?_)
        refine lv_imul hx hb dX11_feed_96 ?_
        refine nq_top (I_mul _ _) ?_
        refine lv_isub hx hb dX11_feed_97 ?_
        refine nq_top (I_sub _ _) ?_
        refine lv_ishr hx hb dX11_feed_98 ?_
        refine lv_sipush (v := I 255) hx hb dX11_feed_99 (by decide) ?_
        refine lv_iand hx hb dX11_feed_102 ?_
        refine th_sb2 (fun z_142 rz_142 hz_142 => ?_)
        refine m_iast hx hb hK hH hS h00 hO h_a k13_6 isA1 (by decide) J_133_21 rG12q131 (by omega) (by omega) rz_142 el1 dX11_feed_103 (fun σ_s_143 H locs hO hF9 hM9 ha9 hH hS => ?_)
        replace hM := hM.tu hM9 (by decide)
        replace hF := hF.tu hF9 (by decide)
        have e_144 : gI σ_s_143 a 36 = a360 := (hM9.i (by decide)).trans J_133_6
        have e_145 : gI σ_s_143 a 58 = a580 := (hM9.i (by decide)).trans J_133_7
        have e_146 : gI σ_s_143 a 59 = a590 := (hM9.i (by decide)).trans J_133_8
        have e_147 : gI σ_s_143 a 0 = 0 := (hM9.i (by decide)).trans J_133_9
        have e_148 : aF σ_s_143 (ad E a 1) = f1 := (hM9.a (by decide) (by decide)).trans J_133_10
        have e_149 : aF σ_s_143 (ad E a 37) = f37 := (hM9.a (by decide) (by decide)).trans J_133_11
        have e_150 : aF σ_s_143 (ad E a 61) = f61 := (hM9.a (by decide) (by decide)).trans J_133_12
        have e_151 : aF σ_s_143 (ad E a 62) = f62 := (hM9.a (by decide) (by decide)).trans J_133_13
        have e_152 : aF σ_s_143 (ad E a 39) = f39 := (hM9.a (by decide) (by decide)).trans J_133_14
        have e_153 : aF σ_s_143 (ad E a 40) = f40 := (hM9.a (by decide) (by decide)).trans J_133_15
        have e_154 : aF σ_s_143 (ad E a 42) = f42 := (hM9.a (by decide) (by decide)).trans J_133_16
        have e_155 : aF σ_s_143 (ad E a 43) = f43 := (hM9.a (by decide) (by decide)).trans J_133_17
        have e_156 : aF σ_s_143 (ad E a 44) = f44 := (hM9.a (by decide) (by decide)).trans J_133_18
        have e_157 : aF σ_s_143 (ad E a 45) = f45 := (hM9.a (by decide) (by decide)).trans J_133_19
        have e_158 : aF σ_s_143 (ad E a 46) = f46 := (hM9.a (by decide) (by decide)).trans J_133_20
        have e_159 : gI σ_s_143 a 12 = G12q131 := (hM9.i (by decide)).trans J_133_22
        obtain ⟨g_160, dg_160⟩ : ∃ g9, g9 = upd F6q130 (G12q131).toNat (I z_142) := ⟨_, rfl⟩
        rw [← dg_160] at ha9
        have ef_161 := ha9
        refine lv_aload_n hx hb dX11_feed_104 rfl (lv_at hl 1 rfl) ?_
        refine lv_dup hx hb dX11_feed_105 rfl ?_
        refine ok.getIc hO h_a (by decide) k13_12 e_159 (fun _ _ he hv kk => th_get (ci := 11) (C := RX11) (T := TX11) (N := 66) hx hb hts inX11 hown hK hH he rfl 12 (by decide) fl1 hv dX11_feed_106 kk) ?_
        refine lv_iconst (v := I 1) hx hb dX11_feed_109 (by decide) ?_
        refine lv_iadd hx hb dX11_feed_110 ?_
        refine nq_top (I_add _ _) ?_
        refine ok.putJ hO h_a k13_12 ⟨by omega, by omega⟩ (by omega) (by omega) (fun _ he hl9 kk => th_put (ci := 11) (v := .int (I (G12q131 + 1))) (ty := .int) (C := RX11) (T := TX11) (N := 66) hx hb hts inX11 tyX11 tyX11_ok nmX11 hown hK hH hS h00 he rfl 12 (by decide) fl1 rfl (by decide +kernel) rfl rfl hl9 dX11_feed_111 kk) (fun σ_s_162 H locs hO hF9 hM9 hg9 ha9 hH hS => ?_)
        replace hM := hM.tu hM9 (by decide)
        replace hF := hF.tu hF9 (by decide)
        have e_163 : gI σ_s_162 a 36 = a360 := (hM9.i (by decide)).trans e_144
        have e_164 : gI σ_s_162 a 58 = a580 := (hM9.i (by decide)).trans e_145
        have e_165 : gI σ_s_162 a 59 = a590 := (hM9.i (by decide)).trans e_146
        have e_166 : gI σ_s_162 a 0 = 0 := (hM9.i (by decide)).trans e_147
        have e_167 : aF σ_s_162 (ad E a 1) = f1 := (hM9.a (by decide) (by decide)).trans e_148
        have e_168 : aF σ_s_162 (ad E a 37) = f37 := (hM9.a (by decide) (by decide)).trans e_149
        have e_169 : aF σ_s_162 (ad E a 61) = f61 := (hM9.a (by decide) (by decide)).trans e_150
        have e_170 : aF σ_s_162 (ad E a 62) = f62 := (hM9.a (by decide) (by decide)).trans e_151
        have e_171 : aF σ_s_162 (ad E a 39) = f39 := (hM9.a (by decide) (by decide)).trans e_152
        have e_172 : aF σ_s_162 (ad E a 40) = f40 := (hM9.a (by decide) (by decide)).trans e_153
        have e_173 : aF σ_s_162 (ad E a 42) = f42 := (hM9.a (by decide) (by decide)).trans e_154
        have e_174 : aF σ_s_162 (ad E a 43) = f43 := (hM9.a (by decide) (by decide)).trans e_155
        have e_175 : aF σ_s_162 (ad E a 44) = f44 := (hM9.a (by decide) (by decide)).trans e_156
        have e_176 : aF σ_s_162 (ad E a 45) = f45 := (hM9.a (by decide) (by decide)).trans e_157
        have e_177 : aF σ_s_162 (ad E a 46) = f46 := (hM9.a (by decide) (by decide)).trans e_158
        have e_178 : aF σ_s_162 (ad E a 6) = g_160 := (hM9.a (by decide) (by decide)).trans ef_161
        have e_179 := hg9
        refine lv_iinc (v := I (v6q132 + 1)) (lv' := [(6, .int (I (v6q132 + 1))), (7, .int (I w0q139)), (0, .ref a), (1, .int (I w1)), (2, .int (I w2)), (3, .int (I w3)), (4, .int (I w4)), (5, .int (I w5))]) hx hb dX11_feed_114 hl (k := 7) rfl (I_add _ _) (by decide) rfl (fun ls hl => ?_)
        refine lv_goto (tgt := 23) hx hb dX11_feed_117 (by decide) ?_
        replace hl : lv_has ls 8 [(6, .int (I (v6q132 + 1))), (0, .ref a), (1, .int (I w1)), (2, .int (I w2)), (3, .int (I w3)), (4, .int (I w4)), (5, .int (I w5))] := lv_sub hl [0, 2, 3, 4, 5, 6, 7] rfl
        exact ihJ_133 (v6q132 + 1, G12q131 + 1, g_160) σ_s_162 _ _ _ (by first | (dsimp only; omega) | omega) ⟨hO, hF, hM, hH, hS, lv_sub hl [1, 2, 3, 4, 5, 6, 0] rfl, ⟨by first | (dsimp only; omega) | omega, by first | (dsimp only; omega) | omega⟩, ⟨by first | (dsimp only; omega) | omega, by first | (dsimp only; omega) | omega⟩, by first | (dsimp only; omega) | omega, by first | (dsimp only; omega) | omega, by first | (dsimp only; omega) | omega, by first | (dsimp only; omega) | omega, by first | (dsimp only; omega) | omega, (fdp.step J_133_5 dg_160 rz_142 (by omega) (by omega) (by omega) (by first | (dsimp only; omega) | omega) K_140_0 (by omega) hz_142), e_163, e_164, e_165, e_166, e_167, e_168, e_169, e_170, e_171, e_172, e_173, e_174, e_175, e_176, e_177, e_178, e_179⟩
      · refine lv_icmp_ge (tgt := 40) hx hb dX11_feed_33 (by decide) (fun c_180 => ?_) (fun c_180 => ?_)
        · replace c_180 := (I_le (a := 4) (b := v6q132) (show rng 4 from ⟨by decide, by decide⟩) rv6q132).mp c_180
          refine lv_iload hx hb dX11_feed_40 (lv_at hl 6 rfl) ?_
          refine lv_bipush (v := I 8) hx hb dX11_feed_42 (by decide) ?_
          refine lv_icmp_ge (tgt := 51) hx hb dX11_feed_44 (by decide) (fun c_181 => ?_) (fun c_181 => ?_)
          · replace c_181 := (I_le (a := 8) (b := v6q132) (show rng 8 from ⟨by decide, by decide⟩) rv6q132).mp c_181
            refine lv_iload hx hb dX11_feed_51 (lv_at hl 6 rfl) ?_
            refine lv_bipush (v := I 12) hx hb dX11_feed_53 (by decide) ?_
            refine lv_icmp_ge (tgt := 62) hx hb dX11_feed_55 (by decide) (fun c_182 => ?_) (fun c_182 => ?_)
            · replace c_182 := (I_le (a := 12) (b := v6q132) (show rng 12 from ⟨by decide, by decide⟩) rv6q132).mp c_182
              refine lv_iload hx hb dX11_feed_62 (lv_at hl 6 rfl) ?_
              refine lv_bipush (v := I 16) hx hb dX11_feed_64 (by decide) ?_
              refine lv_icmp_ge (tgt := 74) hx hb dX11_feed_66 (by decide) (fun c_183 => ?_) (fun c_183 => ?_)
              · replace c_183 := (I_le (a := 16) (b := v6q132) (show rng 16 from ⟨by decide, by decide⟩) rv6q132).mp c_183
                refine lv_iload hx hb dX11_feed_74 (lv_at hl 5 rfl) ?_
                exact jK_140 (w5) σ_J_133 _ _ _ ⟨rfl, hH, hS, lv_sub hl [0, 1, 2, 3, 4, 5, 6] rfl, rw5, (by unfold wsel; first | (rw [if_pos (by omega)]) | (rw [if_neg (by omega), if_pos (by omega)]) | (rw [if_neg (by omega), if_neg (by omega), if_pos (by omega)]) | (rw [if_neg (by omega), if_neg (by omega), if_neg (by omega), if_pos (by omega)]) | (rw [if_neg (by omega), if_neg (by omega), if_neg (by omega), if_neg (by omega)]))⟩
              · replace c_183 := mt (I_le (a := 16) (b := v6q132) (show rng 16 from ⟨by decide, by decide⟩) rv6q132).mpr c_183
                refine lv_iload hx hb dX11_feed_69 (lv_at hl 4 rfl) ?_
                refine lv_goto (tgt := 76) hx hb dX11_feed_71 (by decide) ?_
                exact jK_140 (w4) σ_J_133 _ _ _ ⟨rfl, hH, hS, lv_sub hl [0, 1, 2, 3, 4, 5, 6] rfl, rw4, (by unfold wsel; first | (rw [if_pos (by omega)]) | (rw [if_neg (by omega), if_pos (by omega)]) | (rw [if_neg (by omega), if_neg (by omega), if_pos (by omega)]) | (rw [if_neg (by omega), if_neg (by omega), if_neg (by omega), if_pos (by omega)]) | (rw [if_neg (by omega), if_neg (by omega), if_neg (by omega), if_neg (by omega)]))⟩
            · replace c_182 := mt (I_le (a := 12) (b := v6q132) (show rng 12 from ⟨by decide, by decide⟩) rv6q132).mpr c_182
              refine lv_iload_n hx hb dX11_feed_58 rfl (lv_at hl 3 rfl) ?_
              refine lv_goto (tgt := 76) hx hb dX11_feed_59 (by decide) ?_
              exact jK_140 (w3) σ_J_133 _ _ _ ⟨rfl, hH, hS, lv_sub hl [0, 1, 2, 3, 4, 5, 6] rfl, rw3, (by unfold wsel; first | (rw [if_pos (by omega)]) | (rw [if_neg (by omega), if_pos (by omega)]) | (rw [if_neg (by omega), if_neg (by omega), if_pos (by omega)]) | (rw [if_neg (by omega), if_neg (by omega), if_neg (by omega), if_pos (by omega)]) | (rw [if_neg (by omega), if_neg (by omega), if_neg (by omega), if_neg (by omega)]))⟩
          · replace c_181 := mt (I_le (a := 8) (b := v6q132) (show rng 8 from ⟨by decide, by decide⟩) rv6q132).mpr c_181
            refine lv_iload_n hx hb dX11_feed_47 rfl (lv_at hl 2 rfl) ?_
            refine lv_goto (tgt := 76) hx hb dX11_feed_48 (by decide) ?_
            exact jK_140 (w2) σ_J_133 _ _ _ ⟨rfl, hH, hS, lv_sub hl [0, 1, 2, 3, 4, 5, 6] rfl, rw2, (by unfold wsel; first | (rw [if_pos (by omega)]) | (rw [if_neg (by omega), if_pos (by omega)]) | (rw [if_neg (by omega), if_neg (by omega), if_pos (by omega)]) | (rw [if_neg (by omega), if_neg (by omega), if_neg (by omega), if_pos (by omega)]) | (rw [if_neg (by omega), if_neg (by omega), if_neg (by omega), if_neg (by omega)]))⟩
        · replace c_180 := mt (I_le (a := 4) (b := v6q132) (show rng 4 from ⟨by decide, by decide⟩) rv6q132).mpr c_180
          refine lv_iload_n hx hb dX11_feed_36 rfl (lv_at hl 1 rfl) ?_
          refine lv_goto (tgt := 76) hx hb dX11_feed_37 (by decide) ?_
          exact jK_140 (w1) σ_J_133 _ _ _ ⟨rfl, hH, hS, lv_sub hl [0, 1, 2, 3, 4, 5, 6] rfl, rw1, (by unfold wsel; first | (rw [if_pos (by omega)]) | (rw [if_neg (by omega), if_pos (by omega)]) | (rw [if_neg (by omega), if_neg (by omega), if_pos (by omega)]) | (rw [if_neg (by omega), if_neg (by omega), if_neg (by omega), if_pos (by omega)]) | (rw [if_neg (by omega), if_neg (by omega), if_neg (by omega), if_neg (by omega)]))⟩
  · replace c_19 := mt (I_le (a := a120 + 20) (b := 400) ⟨by omega, by omega⟩ (show rng 400 from ⟨by decide, by decide⟩)).mpr c_19
    refine lv_iconst (v := I (-1)) hx hb dX11_feed_18 (by decide) ?_
    exact th_iret hx hb hr hlocks hH hS (z := (-1)) (show rng (-1) from ⟨by decide, by decide⟩) ⟨hO, hF, hM, ⟨(by rw [show aF σ_s_1 (ad E a 1) = f1 from e_2, show aF σ_s_1 (ad E a 37) = f37 from e_3, show aF σ_s_1 (ad E a 61) = f61 from e_4, show aF σ_s_1 (ad E a 62) = f62 from e_5, show aF σ_s_1 (ad E a 39) = f39 from e_6, show aF σ_s_1 (ad E a 40) = f40 from e_7, show aF σ_s_1 (ad E a 42) = f42 from e_8, show aF σ_s_1 (ad E a 43) = f43 from e_9, show aF σ_s_1 (ad E a 44) = f44 from e_10, show aF σ_s_1 (ad E a 45) = f45 from e_11, show aF σ_s_1 (ad E a 46) = f46 from e_12]; exact ⟨hj.n (by omega) (by omega) (by omega), by omega⟩), (fun h9 => absurd h9 (by omega)), (fun _ => e_13), by omega⟩⟩ dX11_feed_19
