set_option maxHeartbeats 4000000 in
set_option maxRecDepth 100000 in
theorem m_tellPatch (l : Launch) (G : va_G) (y : Nat → ClassId) (b0 : Nat) (σ : th_M) (E : th_E) (hO : ok y E σ) (a : Nat) (h_a : kd E a = 13) (w : Int) (rw : rng w) (l_w : 0 ≤ w) (u_w : w ≤ 1) (f1 : Nat → Int32) (ef1 : aF σ (ad E a 1) = f1) (f61 : Nat → Int32) (ef61 : aF σ (ad E a 61) = f61) (f39 : Nat → Int32) (ef39 : aF σ (ad E a 39) = f39) (f40 : Nat → Int32) (ef40 : aF σ (ad E a 40) = f40) (f42 : Nat → Int32) (ef42 : aF σ (ad E a 42) = f42) (f43 : Nat → Int32) (ef43 : aF σ (ad E a 43) = f43) (f44 : Nat → Int32) (ef44 : aF σ (ad E a 44) = f44) (f45 : Nat → Int32) (ef45 : aF σ (ad E a 45) = f45) (f46 : Nat → Int32) (ef46 : aF σ (ad E a 46) = f46) (hy0 : tr f61) (hy1 : tr f1) : Met l yX11_tellPatch wsX11_tellPatch ({ frames := 385, cells := 0, slots := 0, locals := 13991 }) (th_P G y b0 σ [.ref a, .int (I w)]) (th_Qi G b0 (fun r σ1 => ok y E σ1 ∧ fr [13] E σ σ1 ∧ fm [39, 40, 41, 42, 43, 44, 45, 46, 47, 48] E σ σ1 a ∧ (rws w (aF σ1 (ad E a 39)) (aF σ1 (ad E a 40)) (aF σ1 (ad E a 42)) (aF σ1 (ad E a 43)) (aF σ1 (ad E a 44)) ((aF σ1 (ad E a 45)) w.toNat).toInt ((aF σ1 (ad E a 46)) w.toNat).toInt ∧ 0 ≤ ((aF σ1 (ad E a 45)) w.toNat).toInt ∧ ((aF σ1 (ad E a 45)) w.toNat).toInt ≤ 130 ∧ 0 ≤ ((aF σ1 (ad E a 46)) w.toNat).toInt ∧ ((aF σ1 (ad E a 46)) w.toNat).toInt ≤ 150 ∧ hall w f39 f40 f42 f43 f44 f45 f46 (aF σ1 (ad E a 39)) (aF σ1 (ad E a 40)) (aF σ1 (ad E a 42)) (aF σ1 (ad E a 43)) (aF σ1 (ad E a 44)) (aF σ1 (ad E a 45)) (aF σ1 (ad E a 46))))) 0 0 (th_A b0) := by
  refine Met.ofW (cc := cX11_tellPatch) (maxL := 2) (ret := (some .int)) (by decide) rfl ?_
  intro p e s m args below meth c s₁ B hml hv
  obtain ⟨rfl, hH, hK⟩ := hv
  have hx := B.exec
  have hb := B.bytes
  have hr := B.returns
  have hts := atoms_spec (ws := wsX11_tellPatch) B.pre
  have hown : s.vm.findClass RX11 = some m.cls := findClass_of_methodNamed B.named
  have hlocks := B.notSynchronized
  have h00 : b0 ≤ s.heap.size := hH.1
  have hS : va_S (th_A b0) s.heap s.heap [] := va_S.rf
  have hF : fr [13] E σ σ := fr.rf
  have hM : fm [39, 40, 41, 42, 43, 44, 45, 46, 47, 48] E σ σ a := fm.rf
  have hza := hy0.2
  have hzb := hy1.2
  have hzc := hza.2
  have hzd := hzb.2
  have inX11 : ∀ w ∈ wsX110, w ∈ wsX11_tellPatch := by decide +kernel
  have fl0 := hts (.fieldLink RX11 438 "NestQueryModel" "which" "I") (by decide +kernel)
  have fl1 := hts (.fieldLink RX11 69 "NestQueryModel" "rowsMany" "[I") (by decide +kernel)
  have fl2 := hts (.fieldLink RX11 72 "NestQueryModel" "poolMany" "[I") (by decide +kernel)
  have fl3 := hts (.fieldLink RX11 93 "NestQueryModel" "imageTree" "[I") (by decide +kernel)
  have fl4 := hts (.fieldLink RX11 9 "NestQueryModel" "tree" "[I") (by decide +kernel)
  have hl := lv_entry ([.ref a, .int (I w)]) (n := 2) (Nat.le_of_ble_eq_true rfl)
  rw [lg_entry_eq]
  generalize (lg_sl ([.ref a, .int (I w)]) ++ List.replicate (2 - (lg_sl ([.ref a, .int (I w)])).length) Slot.unset).toArray = ls at hl ⊢
  have hl : lv_has ls 2 [(0, .ref a), (1, .int (I w))] := hl
  refine lv_aload_n hx hb dX11_tellPatch_0 rfl (lv_at hl 0 rfl) ?_
  refine lv_iload_n hx hb dX11_tellPatch_1 rfl (lv_at hl 1 rfl) ?_
  refine ok.putJ hO h_a k13_48 rw (by omega) (by omega) (fun _ he hl9 kk => th_put (ci := 11) (v := .int (I w)) (ty := .int) (C := RX11) (T := TX11) (N := 66) hx hb hts inX11 tyX11 tyX11_ok nmX11 hown hK hH hS h00 he rfl 48 (by decide) fl0 rfl (by decide +kernel) rfl rfl hl9 dX11_tellPatch_2 kk) (fun σ_s_1 H locs hO hF9 hM9 hg9 ha9 hH hS => ?_)
  replace hM := hM.tu hM9 (by decide)
  replace hF := hF.tu hF9 (by decide)
  have e_2 : aF σ_s_1 (ad E a 1) = f1 := (hM9.a (by decide) (by decide)).trans ef1
  have e_3 : aF σ_s_1 (ad E a 61) = f61 := (hM9.a (by decide) (by decide)).trans ef61
  have e_4 : aF σ_s_1 (ad E a 39) = f39 := (hM9.a (by decide) (by decide)).trans ef39
  have e_5 : aF σ_s_1 (ad E a 40) = f40 := (hM9.a (by decide) (by decide)).trans ef40
  have e_6 : aF σ_s_1 (ad E a 42) = f42 := (hM9.a (by decide) (by decide)).trans ef42
  have e_7 : aF σ_s_1 (ad E a 43) = f43 := (hM9.a (by decide) (by decide)).trans ef43
  have e_8 : aF σ_s_1 (ad E a 44) = f44 := (hM9.a (by decide) (by decide)).trans ef44
  have e_9 : aF σ_s_1 (ad E a 45) = f45 := (hM9.a (by decide) (by decide)).trans ef45
  have e_10 : aF σ_s_1 (ad E a 46) = f46 := (hM9.a (by decide) (by decide)).trans ef46
  have e_11 := hg9
  refine lv_aload_n hx hb dX11_tellPatch_5 rfl (lv_at hl 0 rfl) ?_
  refine ok.getR hO h_a (by decide) k13_45 (by decide) (fun _ _ he hv kk => th_get (ci := 11) (C := RX11) (T := TX11) (N := 66) hx hb hts inX11 hown hK hH he rfl 45 (by decide) fl1 hv dX11_tellPatch_6 kk) ?_
  refine lv_iload_n hx hb dX11_tellPatch_9 rfl (lv_at hl 1 rfl) ?_
  refine lv_iconst (v := I 0) hx hb dX11_tellPatch_10 (by decide) ?_
  refine m_iast hx hb hK hH hS h00 hO h_a k13_45 isA1 (by decide) e_9 rw (by omega) (by omega) (show rng 0 from ⟨by decide, by decide⟩) el1 dX11_tellPatch_11 (fun σ_s_12 H locs hO hF9 hM9 ha9 hH hS => ?_)
  replace hM := hM.tu hM9 (by decide)
  replace hF := hF.tu hF9 (by decide)
  have e_13 : aF σ_s_12 (ad E a 1) = f1 := (hM9.a (by decide) (by decide)).trans e_2
  have e_14 : aF σ_s_12 (ad E a 61) = f61 := (hM9.a (by decide) (by decide)).trans e_3
  have e_15 : aF σ_s_12 (ad E a 39) = f39 := (hM9.a (by decide) (by decide)).trans e_4
  have e_16 : aF σ_s_12 (ad E a 40) = f40 := (hM9.a (by decide) (by decide)).trans e_5
  have e_17 : aF σ_s_12 (ad E a 42) = f42 := (hM9.a (by decide) (by decide)).trans e_6
  have e_18 : aF σ_s_12 (ad E a 43) = f43 := (hM9.a (by decide) (by decide)).trans e_7
  have e_19 : aF σ_s_12 (ad E a 44) = f44 := (hM9.a (by decide) (by decide)).trans e_8
  have e_20 : aF σ_s_12 (ad E a 46) = f46 := (hM9.a (by decide) (by decide)).trans e_10
  have e_21 : gI σ_s_12 a 48 = w := (hM9.i (by decide)).trans e_11
  obtain ⟨g_22, dg_22⟩ : ∃ g9, g9 = upd f45 (w).toNat (I 0) := ⟨_, rfl⟩
  rw [← dg_22] at ha9
  have ef_23 := ha9
  refine lv_aload_n hx hb dX11_tellPatch_12 rfl (lv_at hl 0 rfl) ?_
  refine ok.getR hO h_a (by decide) k13_46 (by decide) (fun _ _ he hv kk => th_get (ci := 11) (C := RX11) (T := TX11) (N := 66) hx hb hts inX11 hown hK hH he rfl 46 (by decide) fl2 hv dX11_tellPatch_13 kk) ?_
  refine lv_iload_n hx hb dX11_tellPatch_16 rfl (lv_at hl 1 rfl) ?_
  refine lv_iconst (v := I 0) hx hb dX11_tellPatch_17 (by decide) ?_
  refine m_iast hx hb hK hH hS h00 hO h_a k13_46 isA1 (by decide) e_20 rw (by omega) (by omega) (show rng 0 from ⟨by decide, by decide⟩) el1 dX11_tellPatch_18 (fun σ_s_24 H locs hO hF9 hM9 ha9 hH hS => ?_)
  replace hM := hM.tu hM9 (by decide)
  replace hF := hF.tu hF9 (by decide)
  have e_25 : aF σ_s_24 (ad E a 1) = f1 := (hM9.a (by decide) (by decide)).trans e_13
  have e_26 : aF σ_s_24 (ad E a 61) = f61 := (hM9.a (by decide) (by decide)).trans e_14
  have e_27 : aF σ_s_24 (ad E a 39) = f39 := (hM9.a (by decide) (by decide)).trans e_15
  have e_28 : aF σ_s_24 (ad E a 40) = f40 := (hM9.a (by decide) (by decide)).trans e_16
  have e_29 : aF σ_s_24 (ad E a 42) = f42 := (hM9.a (by decide) (by decide)).trans e_17
  have e_30 : aF σ_s_24 (ad E a 43) = f43 := (hM9.a (by decide) (by decide)).trans e_18
  have e_31 : aF σ_s_24 (ad E a 44) = f44 := (hM9.a (by decide) (by decide)).trans e_19
  have e_32 : gI σ_s_24 a 48 = w := (hM9.i (by decide)).trans e_21
  have e_33 : aF σ_s_24 (ad E a 45) = g_22 := (hM9.a (by decide) (by decide)).trans ef_23
  obtain ⟨g_34, dg_34⟩ : ∃ g9, g9 = upd f46 (w).toNat (I 0) := ⟨_, rfl⟩
  rw [← dg_34] at ha9
  have ef_35 := ha9
  have hn0 : (g_22 w.toNat).toInt = 0 := upd_get dg_22 rfl ⟨by decide, by decide⟩
  have hm0 : (g_34 w.toNat).toInt = 0 := upd_get dg_34 rfl ⟨by decide, by decide⟩
  refine lv_aload_n hx hb dX11_tellPatch_19 rfl (lv_at hl 0 rfl) ?_
  refine lv_aload_n hx hb dX11_tellPatch_20 rfl (lv_at hl 0 rfl) ?_
  refine ok.getR hO h_a (by decide) k13_61 (by decide) (fun _ _ he hv kk => th_get (ci := 11) (C := RX11) (T := TX11) (N := 66) hx hb hts inX11 hown hK hH he rfl 61 (by decide) fl3 hv dX11_tellPatch_21 kk) ?_
  refine lv_iconst (v := I 0) hx hb dX11_tellPatch_24 (by decide) ?_
  refine lv_aload_n hx hb dX11_tellPatch_25 rfl (lv_at hl 0 rfl) ?_
  refine ok.getR hO h_a (by decide) k13_1 (by decide) (fun _ _ he hv kk => th_get (ci := 11) (C := RX11) (T := TX11) (N := 66) hx hb hts inX11 hown hK hH he rfl 1 (by decide) fl4 hv dX11_tellPatch_26 kk) ?_
  refine lv_iconst (v := I 0) hx hb dX11_tellPatch_29 (by decide) ?_
  refine lv_iconst (v := I 0) hx hb dX11_tellPatch_30 (by decide) ?_
  obtain ⟨_, hc_36⟩ := hO.cell h_a (by decide) (ci := 11) rfl
  refine th_callv (va_runV (As := [.ref (ad E a 61), .int (I 0), .ref (ad E a 1), .int (I 0), .int (I 0)]) (rest := []) ⟨hx, hb, hml, hown, hts⟩ (m_tellRows 61 l G y b0 σ_s_24 E hO a h_a 0 (show rng 0 from (show rng 0 from ⟨by decide, by decide⟩)) (by omega) (by omega) 0 (show rng 0 from (show rng 0 from ⟨by decide, by decide⟩)) (by omega) (by omega) 0 (show rng 0 from (show rng 0 from ⟨by decide, by decide⟩)) (by omega) (by omega) w f1 e_25 f61 e_26 f39 e_27 f40 e_28 f42 e_29 f43 e_30 f44 e_31 g_22 e_33 g_34 ef_35 (hy0) (hy1) (by omega) (by omega) ((cn_nn _)) (by omega) (by omega) ((rws.zero hn0 (by omega))) (by omega) (by omega) (by omega)) (cwV 5 hts gX11_tellPatch_X11_tellRows rfl rfl rfl (by decide +kernel) ⟨Nat.le_of_ble_eq_true rfl, Nat.le_of_ble_eq_true rfl⟩) (th_PV hK hH rfl hc_36) rfl rfl hl.1 rfl (lv_room (Nat.le_of_ble_eq_true rfl)) dX11_tellPatch_31 ⟨Nat.le_of_ble_eq_true rfl, Nat.le_of_ble_eq_true rfl⟩) hS (fun σ_s_38 H locs hw_37 hH hS => ?_)
  obtain ⟨hO9, hF9, hM9, hw_37⟩ := hw_37
  replace hM := hM.tu hM9 (by decide)
  replace hF := hF.tu hF9 (by decide)
  have e_39 : aF σ_s_38 (ad E a 1) = f1 := (hM9.a (by decide) (by decide)).trans e_25
  have e_40 : aF σ_s_38 (ad E a 61) = f61 := (hM9.a (by decide) (by decide)).trans e_26
  have e_41 : gI σ_s_38 a 48 = w := (hM9.i (by decide)).trans e_32
  replace hO := hO9
  generalize ef_43 : aF σ_s_38 (ad E a 39) = g_42 at hw_37
  generalize ef_45 : aF σ_s_38 (ad E a 40) = g_44 at hw_37
  generalize ef_47 : aF σ_s_38 (ad E a 42) = g_46 at hw_37
  generalize ef_49 : aF σ_s_38 (ad E a 43) = g_48 at hw_37
  generalize ef_51 : aF σ_s_38 (ad E a 44) = g_50 at hw_37
  generalize ef_53 : aF σ_s_38 (ad E a 45) = g_52 at hw_37
  generalize ef_55 : aF σ_s_38 (ad E a 46) = g_54 at hw_37
  have hw_37 : rws w g_42 g_44 g_46 g_48 g_50 (g_52 w.toNat).toInt (g_54 w.toNat).toInt ∧ 0 ≤ (g_52 w.toNat).toInt ∧ (g_52 w.toNat).toInt ≤ (g_22 w.toNat).toInt + (mS f61 0 + mS f1 0) ∧ 0 ≤ (g_54 w.toNat).toInt ∧ (g_54 w.toNat).toInt ≤ (g_34 w.toNat).toInt + (mS f61 0 + mS f1 0) ∧ hall w f39 f40 f42 f43 f44 g_22 g_34 g_42 g_44 g_46 g_48 g_50 g_52 g_54 := hw_37
  refine lv_aload_n hx hb dX11_tellPatch_34 rfl (lv_at hl 0 rfl) ?_
  refine ok.getR hO h_a (by decide) k13_45 (by decide) (fun _ _ he hv kk => th_get (ci := 11) (C := RX11) (T := TX11) (N := 66) hx hb hts inX11 hown hK hH he rfl 45 (by decide) fl1 hv dX11_tellPatch_35 kk) ?_
  refine lv_iload_n hx hb dX11_tellPatch_38 rfl (lv_at hl 1 rfl) ?_
  refine m_iald hx hb hK hH hO h_a k13_45 isA1 ef_53 rw (by omega) (by omega) dX11_tellPatch_39 (fun z_56 ez_56 rz_56 elx9 => ?_)
  exact th_iret hx hb hr hlocks hH hS (z := z_56) rz_56 ⟨hO, hF, hM, by rw [show aF σ_s_38 (ad E a 39) = g_42 from ef_43, show aF σ_s_38 (ad E a 40) = g_44 from ef_45, show aF σ_s_38 (ad E a 42) = g_46 from ef_47, show aF σ_s_38 (ad E a 43) = g_48 from ef_49, show aF σ_s_38 (ad E a 44) = g_50 from ef_51, show aF σ_s_38 (ad E a 45) = g_52 from ef_53, show aF σ_s_38 (ad E a 46) = g_54 from ef_55]; have h9 : hall w f39 f40 f42 f43 f44 f45 f46 f39 f40 f42 f43 f44 g_22 g_34 := ⟨hlf.rf, hlf.rf, hlf.rf, hlf.rf, hlf.rf, hlf.rf.up dg_22 (by omega) (by omega), hlf.rf.up dg_34 (by omega) (by omega)⟩; exact ⟨hw_37.1, by omega, by omega, by omega, by omega, h9.tr hw_37.2.2.2.2.2⟩⟩ dX11_tellPatch_40

set_option maxHeartbeats 4000000 in
set_option maxRecDepth 100000 in
theorem w_byPlaceX (l : Launch) (G : va_G) (y : Nat → ClassId) (b0 : Nat) (σ : th_M) (E : th_E) (hO : ok y E σ) (b : Nat) (bn : Nat) (bf : Nat → Int32) (h_b : σ b = some (.inl (y 0, bn, .inl bf))) (i : Int) (ri : rng i) (l_i : 0 ≤ i) (u_i : i ≤ 4000) (pl : Int) (rpl : rng pl) (hy0 : wf bf i (i + mS bf i)) (hy1 : 1 ≤ mS bf i) (hy2 : 4 * (i + mS bf i) ≤ bn) (hy3 : bn ≤ 16000) : Met l yX11_byPlace wsX11_byPlace ({ frames := 2, cells := 0, slots := 0, locals := 53 }) (th_P G y b0 σ [.ref b, .int (I i), .int (I pl)]) (th_Qi G b0 (fun r σ1 => σ1 = σ ∧ (∃ m, chn bf (i + 1) m (i + mS bf i) ∧ ((r = -1 ∧ ¬ (0 ≤ pq pl m ∧ pq pl m < m)) ∨ (0 ≤ pq pl m ∧ pq pl m < m ∧ chn bf (i + 1) (pq pl m) r ∧ i < r ∧ r < i + mS bf i))))) 0 0 (th_A b0) := by
  refine Met.ofW (cc := cX11_byPlace) (maxL := 5) (ret := (some .int)) (by decide) rfl ?_
  intro p e s m args below meth c s₁ B hml hv
  obtain ⟨rfl, hH, hK⟩ := hv
  have hx := B.exec
  have hb := B.bytes
  have hr := B.returns
  have hts := atoms_spec (ws := wsX11_byPlace) B.pre
  have hown : s.vm.findClass RX11 = some m.cls := findClass_of_methodNamed B.named
  have hlocks := B.notSynchronized
  have h00 : b0 ≤ s.heap.size := hH.1
  have hS : va_S (th_A b0) s.heap s.heap [] := va_S.rf
  have hl := lv_entry ([.ref b, .int (I i), .int (I pl)]) (n := 5) (Nat.le_of_ble_eq_true rfl)
  rw [lg_entry_eq]
  generalize (lg_sl ([.ref b, .int (I i), .int (I pl)]) ++ List.replicate (5 - (lg_sl ([.ref b, .int (I i), .int (I pl)])).length) Slot.unset).toArray = ls at hl ⊢
  have hl : lv_has ls 5 [(0, .ref b), (1, .int (I i)), (2, .int (I pl))] := hl
  refine lv_aload_n hx hb dX11_byPlace_0 rfl (lv_at hl 0 rfl) ?_
  refine lv_iload_n hx hb dX11_byPlace_1 rfl (lv_at hl 1 rfl) ?_
  refine th_calli (va_runS (As := [.ref b, .int (I i)]) (rest := []) ⟨hx, hb, hml, hown, hts⟩ (w_many l G y b0 σ E hO b bn bf h_b i (show rng i from ri) (by omega) (by omega) (by first | exact hy0 | exact (hy0).sub (by omega) (by omega)) (by omega) (by omega) (by omega)) (va_cwS 2 hts gX11_byPlace_X11_many rfl rfl rfl (by decide +kernel) ⟨Nat.le_of_ble_eq_true rfl, Nat.le_of_ble_eq_true rfl⟩) (th_PS hK hH) rfl rfl hl.1 rfl (lv_room (Nat.le_of_ble_eq_true rfl)) dX11_byPlace_2 ⟨Nat.le_of_ble_eq_true rfl, Nat.le_of_ble_eq_true rfl⟩) hS (fun z_3 σ_s_2 H locs rz_3 hw_1 hH hS => ?_)
  obtain ⟨e9, hw_1⟩ := hw_1
  replace e9 := e9.symm
  subst e9
  have hw_1 : chn bf (i + 1) z_3 (i + mS bf i) ∧ 0 ≤ z_3 ∧ z_3 < mS bf i := hw_1
  refine lv_istore_n (lv' := [(3, .int (I z_3)), (0, .ref b), (1, .int (I i)), (2, .int (I pl))]) hx hb dX11_byPlace_5 rfl hl (by decide) rfl (fun ls hl => ?_)
  refine lv_iload_n hx hb dX11_byPlace_6 rfl (lv_at hl 3 rfl) ?_
  refine lv_if_ge (tgt := 16) hx hb dX11_byPlace_7 (by decide) (fun c_4 => ?_) (fun c_4 => ?_)
  · replace c_4 := (I_le (a := 0) (b := pl) (show rng 0 from ⟨by decide, by decide⟩) rpl).mp c_4
    refine lv_iload_n hx hb dX11_byPlace_16 rfl (lv_at hl 3 rfl) ?_
    refine lv_istore (lv' := [(4, .int (I pl)), (3, .int (I z_3)), (0, .ref b), (1, .int (I i)), (2, .int (I pl))]) hx hb dX11_byPlace_17 hl (by decide) rfl (fun ls hl => ?_)
    refine lv_iload hx hb dX11_byPlace_19 (lv_at hl 0 rfl) ?_
    refine lv_if_lt (tgt := 40) hx hb dX11_byPlace_21 (by decide) (fun c_5 => ?_) (fun c_5 => ?_)
    · replace c_5 := (I_lt (a := pl) (b := 0) rpl (show rng 0 from ⟨by decide, by decide⟩)).mp c_5
      refine lv_iconst (v := I (-1)) hx hb dX11_byPlace_40 (by decide) ?_
      exact th_iret hx hb hr hlocks hH hS (z := (-1)) (show rng (-1) from ⟨by decide, by decide⟩) ⟨rfl, ⟨_, hw_1.1, Or.inl ⟨rfl, by rw [(show pq pl z_3 = pl from by unfold pq; rw [if_neg (by omega)])]; omega⟩⟩⟩ dX11_byPlace_41
    · replace c_5 := mt (I_lt (a := pl) (b := 0) rpl (show rng 0 from ⟨by decide, by decide⟩)).mpr c_5
      refine lv_iload hx hb dX11_byPlace_24 (lv_at hl 0 rfl) ?_
      refine lv_iload_n hx hb dX11_byPlace_26 rfl (lv_at hl 1 rfl) ?_
      refine lv_icmp_ge (tgt := 40) hx hb dX11_byPlace_27 (by decide) (fun c_6 => ?_) (fun c_6 => ?_)
      · replace c_6 := (I_le (a := z_3) (b := pl) rz_3 rpl).mp c_6
        refine lv_iconst (v := I (-1)) hx hb dX11_byPlace_40 (by decide) ?_
        exact th_iret hx hb hr hlocks hH hS (z := (-1)) (show rng (-1) from ⟨by decide, by decide⟩) ⟨rfl, ⟨_, hw_1.1, Or.inl ⟨rfl, by rw [(show pq pl z_3 = pl from by unfold pq; rw [if_neg (by omega)])]; omega⟩⟩⟩ dX11_byPlace_41
      · replace c_6 := mt (I_le (a := z_3) (b := pl) rz_3 rpl).mpr c_6
        refine lv_aload_n hx hb dX11_byPlace_30 rfl (lv_at hl 2 rfl) ?_
        refine lv_iload_n hx hb dX11_byPlace_31 rfl (lv_at hl 3 rfl) ?_
        refine lv_iload hx hb dX11_byPlace_32 (lv_at hl 0 rfl) ?_
        refine th_calli (va_runS (As := [.ref b, .int (I i), .int (I pl)]) (rest := []) ⟨hx, hb, hml, hown, hts⟩ (w_nth l G y b0 σ E hO b bn bf h_b i (show rng i from ri) (by omega) (by omega) pl (show rng pl from rpl) (by first | exact hy0 | exact (hy0).sub (by omega) (by omega)) (by omega) (by omega) (by omega) (jin.mk1 (by omega) hw_1.1 (by omega))) (va_cwS 3 hts gX11_byPlace_X11_nth rfl rfl rfl (by decide +kernel) ⟨Nat.le_of_ble_eq_true rfl, Nat.le_of_ble_eq_true rfl⟩) (th_PS hK hH) rfl rfl hl.1 rfl (lv_room (Nat.le_of_ble_eq_true rfl)) dX11_byPlace_34 ⟨Nat.le_of_ble_eq_true rfl, Nat.le_of_ble_eq_true rfl⟩) hS (fun z_9 σ_s_8 H locs rz_9 hw_7 hH hS => ?_)
        obtain ⟨e9, hw_7⟩ := hw_7
        replace e9 := e9.symm
        subst e9
        have hw_7 : chn bf (i + 1) pl z_9 ∧ kid bf i z_9 := hw_7
        refine lv_goto (tgt := 41) hx hb dX11_byPlace_37 (by decide) ?_
        exact th_iret hx hb hr hlocks hH hS (z := z_9) rz_9 ⟨rfl, ⟨_, hw_1.1, Or.inr ⟨by rw [(show pq pl z_3 = pl from by unfold pq; rw [if_neg (by omega)])]; omega, by rw [(show pq pl z_3 = pl from by unfold pq; rw [if_neg (by omega)])]; omega, by rw [(show pq pl z_3 = pl from by unfold pq; rw [if_neg (by omega)])]; exact hw_7.1, hw_7.2.1, hw_7.2.2.1⟩⟩⟩ dX11_byPlace_41
  · replace c_4 := mt (I_le (a := 0) (b := pl) (show rng 0 from ⟨by decide, by decide⟩) rpl).mpr c_4
    refine lv_iload_n hx hb dX11_byPlace_10 rfl (lv_at hl 3 rfl) ?_
    refine lv_iload_n hx hb dX11_byPlace_11 rfl (lv_at hl 0 rfl) ?_
    refine lv_iadd hx hb dX11_byPlace_12 ?_
    refine nq_top (I_add _ _) ?_
    refine lv_goto (tgt := 17) hx hb dX11_byPlace_13 (by decide) ?_
    refine lv_istore (lv' := [(4, .int (I (pl + z_3))), (3, .int (I z_3)), (0, .ref b), (1, .int (I i)), (2, .int (I pl))]) hx hb dX11_byPlace_17 hl (by decide) rfl (fun ls hl => ?_)
    refine lv_iload hx hb dX11_byPlace_19 (lv_at hl 0 rfl) ?_
    refine lv_if_lt (tgt := 40) hx hb dX11_byPlace_21 (by decide) (fun c_10 => ?_) (fun c_10 => ?_)
    · replace c_10 := (I_lt (a := pl + z_3) (b := 0) ⟨by omega, by omega⟩ (show rng 0 from ⟨by decide, by decide⟩)).mp c_10
      refine lv_iconst (v := I (-1)) hx hb dX11_byPlace_40 (by decide) ?_
      exact th_iret hx hb hr hlocks hH hS (z := (-1)) (show rng (-1) from ⟨by decide, by decide⟩) ⟨rfl, ⟨_, hw_1.1, Or.inl ⟨rfl, by rw [(show pq pl z_3 = pl + z_3 from by unfold pq; rw [if_pos (by omega)])]; omega⟩⟩⟩ dX11_byPlace_41
    · replace c_10 := mt (I_lt (a := pl + z_3) (b := 0) ⟨by omega, by omega⟩ (show rng 0 from ⟨by decide, by decide⟩)).mpr c_10
      refine lv_iload hx hb dX11_byPlace_24 (lv_at hl 0 rfl) ?_
      refine lv_iload_n hx hb dX11_byPlace_26 rfl (lv_at hl 1 rfl) ?_
      refine lv_icmp_ge (tgt := 40) hx hb dX11_byPlace_27 (by decide) (fun c_11 => ?_) (fun c_11 => ?_)
      · replace c_11 := (I_le (a := z_3) (b := pl + z_3) rz_3 ⟨by omega, by omega⟩).mp c_11
        refine lv_iconst (v := I (-1)) hx hb dX11_byPlace_40 (by decide) ?_
        exact th_iret hx hb hr hlocks hH hS (z := (-1)) (show rng (-1) from ⟨by decide, by decide⟩) ⟨rfl, ⟨_, hw_1.1, Or.inl ⟨rfl, by rw [(show pq pl z_3 = pl + z_3 from by unfold pq; rw [if_pos (by omega)])]; omega⟩⟩⟩ dX11_byPlace_41
      · replace c_11 := mt (I_le (a := z_3) (b := pl + z_3) rz_3 ⟨by omega, by omega⟩).mpr c_11
        refine lv_aload_n hx hb dX11_byPlace_30 rfl (lv_at hl 2 rfl) ?_
        refine lv_iload_n hx hb dX11_byPlace_31 rfl (lv_at hl 3 rfl) ?_
        refine lv_iload hx hb dX11_byPlace_32 (lv_at hl 0 rfl) ?_
        refine th_calli (va_runS (As := [.ref b, .int (I i), .int (I (pl + z_3))]) (rest := []) ⟨hx, hb, hml, hown, hts⟩ (w_nth l G y b0 σ E hO b bn bf h_b i (show rng i from ri) (by omega) (by omega) (pl + z_3) (show rng (pl + z_3) from ⟨by omega, by omega⟩) (by first | exact hy0 | exact (hy0).sub (by omega) (by omega)) (by omega) (by omega) (by omega) (jin.mk1 (by omega) hw_1.1 (by omega))) (va_cwS 3 hts gX11_byPlace_X11_nth rfl rfl rfl (by decide +kernel) ⟨Nat.le_of_ble_eq_true rfl, Nat.le_of_ble_eq_true rfl⟩) (th_PS hK hH) rfl rfl hl.1 rfl (lv_room (Nat.le_of_ble_eq_true rfl)) dX11_byPlace_34 ⟨Nat.le_of_ble_eq_true rfl, Nat.le_of_ble_eq_true rfl⟩) hS (fun z_14 σ_s_13 H locs rz_14 hw_12 hH hS => ?_)
        obtain ⟨e9, hw_12⟩ := hw_12
        replace e9 := e9.symm
        subst e9
        have hw_12 : chn bf (i + 1) (pl + z_3) z_14 ∧ kid bf i z_14 := hw_12
        refine lv_goto (tgt := 41) hx hb dX11_byPlace_37 (by decide) ?_
        exact th_iret hx hb hr hlocks hH hS (z := z_14) rz_14 ⟨rfl, ⟨_, hw_1.1, Or.inr ⟨by rw [(show pq pl z_3 = pl + z_3 from by unfold pq; rw [if_pos (by omega)])]; omega, by rw [(show pq pl z_3 = pl + z_3 from by unfold pq; rw [if_pos (by omega)])]; omega, by rw [(show pq pl z_3 = pl + z_3 from by unfold pq; rw [if_pos (by omega)])]; exact hw_12.1, hw_12.2.1, hw_12.2.2.1⟩⟩⟩ dX11_byPlace_41

set_option maxHeartbeats 4000000 in
set_option maxRecDepth 100000 in
theorem m_leads (l : Launch) (G : va_G) (y : Nat → ClassId) (b0 : Nat) (σ : th_M) (E : th_E) (hO : ok y E σ) (a : Nat) (h_a : kd E a = 13) (w : Int) (rw : rng w) (l_w : 130 ≤ w) (u_w : w ≤ 259) (nn : Int) (rnn : rng nn) (l_nn : 0 ≤ nn) (u_nn : nn ≤ 8) (f3 : Nat → Int32) (ef3 : aF σ (ad E a 3) = f3) (f41 : Nat → Int32) (ef41 : aF σ (ad E a 41) = f41) (hy0 : mT f3 0 (gI σ a 5)) (hy1 : mS f3 0 = gI σ a 5) (hy2 : 1 ≤ gI σ a 5 ∧ gI σ a 5 ≤ 4000) : Met l yX11_leads wsX11_leads ({ frames := 3, cells := 0, slots := 0, locals := 81 }) (th_P G y b0 σ [.ref a, .int (I w), .int (I nn)]) (th_Qi G b0 (fun r σ1 => σ1 = σ ∧ (ld f3 f41 (8 * w) nn.toNat r ∧ -1 ≤ r ∧ r < gI σ a 5))) 0 0 (th_A b0) := by
  refine Met.ofW (cc := cX11_leads) (maxL := 6) (ret := (some .int)) (by decide) rfl ?_
  intro p e s m args below meth c s₁ B hml hv
  obtain ⟨rfl, hH, hK⟩ := hv
  have hx := B.exec
  have hb := B.bytes
  have hr := B.returns
  have hts := atoms_spec (ws := wsX11_leads) B.pre
  have hown : s.vm.findClass RX11 = some m.cls := findClass_of_methodNamed B.named
  have hlocks := B.notSynchronized
  have h00 : b0 ≤ s.heap.size := hH.1
  have hS : va_S (th_A b0) s.heap s.heap [] := va_S.rf
  have inX11 : ∀ w ∈ wsX110, w ∈ wsX11_leads := by decide +kernel
  have fl0 := hts (.fieldLink RX11 57 "NestQueryModel" "rowPath" "[I") (by decide +kernel)
  have fl1 := hts (.fieldLink RX11 16 "NestQueryModel" "made" "[I") (by decide +kernel)
  have hl := lv_entry ([.ref a, .int (I w), .int (I nn)]) (n := 6) (Nat.le_of_ble_eq_true rfl)
  rw [lg_entry_eq]
  generalize (lg_sl ([.ref a, .int (I w), .int (I nn)]) ++ List.replicate (6 - (lg_sl ([.ref a, .int (I w), .int (I nn)])).length) Slot.unset).toArray = ls at hl ⊢
  have hl : lv_has ls 6 [(0, .ref a), (1, .int (I w)), (2, .int (I nn))] := hl
  obtain ⟨a50, ea50, ra50, la50, ua50⟩ := hO.gi h_a (by decide) k13_5
  refine lv_iconst (v := I 0) hx hb dX11_leads_0 (by decide) ?_
  refine lv_istore_n (lv' := [(3, .int (I 0)), (0, .ref a), (1, .int (I w)), (2, .int (I nn))]) hx hb dX11_leads_1 rfl hl (by decide) rfl (fun ls hl => ?_)
  refine lv_iconst (v := I 0) hx hb dX11_leads_2 (by decide) ?_
  refine lv_istore (lv' := [(4, .int (I 0)), (3, .int (I 0)), (0, .ref a), (1, .int (I w)), (2, .int (I nn))]) hx hb dX11_leads_3 hl (by decide) rfl (fun ls hl => ?_)
  refine th_loop (α := Int × Int) (pc := 5) (fun x9 => (nn - x9.2).toNat) (fun x9 σ9 H9 l9 ls9 => σ9 = σ ∧ th_H G b0 σ9 H9 ∧ va_S (th_A b0) s.heap H9 l9 ∧ lv_has ls9 6 [(0, .ref a), (1, .int (I w)), (2, .int (I nn)), (3, .int (I x9.1)), (4, .int (I x9.2))] ∧ rng x9.1 ∧ rng x9.2 ∧ (0 ≤ x9.2) ∧ (x9.2 ≤ nn) ∧ (-1 ≤ x9.1) ∧ (x9.1 < gI σ a 5) ∧ (ld f3 f41 (8 * w) (x9.2).toNat x9.1) ∧ (x9.1 ≤ 4000)) ?_ (0, 0) σ _ _ _ ⟨rfl, hH, hS, lv_sub hl [2, 3, 4, 1, 0] rfl, (show rng 0 from ⟨by decide, by decide⟩), (show rng 0 from ⟨by decide, by decide⟩), by first | (dsimp only; omega) | omega, by first | (dsimp only; omega) | omega, by first | (dsimp only; omega) | omega, by first | (dsimp only; omega) | omega, (show ld f3 f41 (8 * w) 0 0 from rfl), by first | (dsimp only; omega) | omega⟩
  intro x9 σ_J_22 H locs ls hI9 ihJ_22
  obtain ⟨v3q21, v4q21⟩ := x9
  obtain ⟨eJ_22, hH, hS, hl, rv3q21, rv4q21, J_22_0, J_22_1, J_22_2, J_22_3, J_22_4, J_22_5⟩ := hI9
  replace eJ_22 := eJ_22.symm
  subst eJ_22
  have hl : lv_has ls 6 [(0, .ref a), (1, .int (I w)), (2, .int (I nn)), (3, .int (I v3q21)), (4, .int (I v4q21))] := hl
  have rv3q21 : rng v3q21 := rv3q21
  have rv4q21 : rng v4q21 := rv4q21
  have J_22_0 : 0 ≤ v4q21 := J_22_0
  have J_22_1 : v4q21 ≤ nn := J_22_1
  have J_22_2 : -1 ≤ v3q21 := J_22_2
  have J_22_3 : v3q21 < gI σ a 5 := J_22_3
  have J_22_4 : ld f3 f41 (8 * w) (v4q21).toNat v3q21 := J_22_4
  have J_22_5 : v3q21 ≤ 4000 := J_22_5
  refine lv_iload hx hb dX11_leads_5 (lv_at hl 4 rfl) ?_
  refine lv_iload_n hx hb dX11_leads_7 rfl (lv_at hl 2 rfl) ?_
  refine lv_icmp_ge (tgt := 99) hx hb dX11_leads_8 (by decide) (fun c_23 => ?_) (fun c_23 => ?_)
  · replace c_23 := (I_le (a := nn) (b := v4q21) rnn rv4q21).mp c_23
    refine lv_iload_n hx hb dX11_leads_99 rfl (lv_at hl 3 rfl) ?_
    exact th_iret hx hb hr hlocks hH hS (z := v3q21) rv3q21 ⟨rfl, by by_cases h8 : v4q21 = nn; exact ⟨J_22_4.eq h8, by omega, by omega⟩; exact ⟨by have h9 := J_22_4; rw [show v3q21 = -1 by omega] at h9 ⊢; exact h9.to (by omega) (by omega), by omega, by omega⟩⟩ dX11_leads_100
  · replace c_23 := mt (I_le (a := nn) (b := v4q21) rnn rv4q21).mpr c_23
    refine lv_iload_n hx hb dX11_leads_11 rfl (lv_at hl 3 rfl) ?_
    refine lv_iconst (v := I (-1)) hx hb dX11_leads_12 (by decide) ?_
    refine lv_icmp_eq (tgt := 99) hx hb dX11_leads_13 (by decide) (fun c_24 => ?_) (fun c_24 => ?_)
    · replace c_24 := (I_eq (a := v3q21) (b := (-1)) rv3q21 (show rng (-1) from ⟨by decide, by decide⟩)).mp c_24
      refine lv_iload_n hx hb dX11_leads_99 rfl (lv_at hl 3 rfl) ?_
      exact th_iret hx hb hr hlocks hH hS (z := v3q21) rv3q21 ⟨rfl, by by_cases h8 : v4q21 = nn; exact ⟨J_22_4.eq h8, by omega, by omega⟩; exact ⟨by have h9 := J_22_4; rw [show v3q21 = -1 by omega] at h9 ⊢; exact h9.to (by omega) (by omega), by omega, by omega⟩⟩ dX11_leads_100
    · replace c_24 := mt (I_eq (a := v3q21) (b := (-1)) rv3q21 (show rng (-1) from ⟨by decide, by decide⟩)).mpr c_24
      refine lv_aload_n hx hb dX11_leads_16 rfl (lv_at hl 0 rfl) ?_
      refine ok.getR hO h_a (by decide) k13_41 (by decide) (fun _ _ he hv kk => th_get (ci := 11) (C := RX11) (T := TX11) (N := 66) hx hb hts inX11 hown hK hH he rfl 41 (by decide) fl0 hv dX11_leads_17 kk) ?_
      refine lv_bipush (v := I 8) hx hb dX11_leads_20 (by decide) ?_
      refine lv_iload_n hx hb dX11_leads_22 rfl (lv_at hl 1 rfl) ?_
      refine lv_imul hx hb dX11_leads_23 ?_
      refine nq_top (I_mul _ _) ?_
      refine lv_iload hx hb dX11_leads_24 (lv_at hl 4 rfl) ?_
      refine lv_iadd hx hb dX11_leads_26 ?_
      refine th_addo (fun z_25 rz_25 hz_25 => ?_)
      refine m_iald hx hb hK hH hO h_a k13_41 isA1 ef41 rz_25 (by omega) (by omega) dX11_leads_27 (fun z_26 ez_26 rz_26 elx9 => ?_)
      refine lv_istore (lv' := [(5, .int (I z_26)), (0, .ref a), (1, .int (I w)), (2, .int (I nn)), (3, .int (I v3q21)), (4, .int (I v4q21))]) hx hb dX11_leads_28 hl (by decide) rfl (fun ls hl => ?_)
      refine lv_iload hx hb dX11_leads_30 (lv_at hl 0 rfl) ?_
      refine lv_if_le (tgt := 64) hx hb dX11_leads_32 (by decide) (fun c_27 => ?_) (fun c_27 => ?_)
      · replace c_27 := (I_le (a := z_26) (b := 0) rz_26 (show rng 0 from ⟨by decide, by decide⟩)).mp c_27
        refine lv_aload_n hx hb dX11_leads_64 rfl (lv_at hl 1 rfl) ?_
        refine ok.getR hO h_a (by decide) k13_3 (by decide) (fun _ _ he hv kk => th_get (ci := 11) (C := RX11) (T := TX11) (N := 66) hx hb hts inX11 hown hK hH he rfl 3 (by decide) fl1 hv dX11_leads_65 kk) ?_
        refine lv_iload_n hx hb dX11_leads_68 rfl (lv_at hl 4 rfl) ?_
        refine th_calli (va_runS (As := [.ref (ad E a 3), .int (I v3q21)]) (rest := []) ⟨hx, hb, hml, hown, hts⟩ (w_kind l G y b0 σ E hO (ad E a 3) 16000 f3 (hO.roww h_a k13_3 isA1 ef3 rfl) v3q21 (show rng v3q21 from rv3q21) (by omega) (by omega) (by omega)) (va_cwS 2 hts gX11_leads_X11_kind rfl rfl rfl (by decide +kernel) ⟨Nat.le_of_ble_eq_true rfl, Nat.le_of_ble_eq_true rfl⟩) (th_PS hK hH) rfl rfl hl.1 rfl (lv_room (Nat.le_of_ble_eq_true rfl)) dX11_leads_69 ⟨Nat.le_of_ble_eq_true rfl, Nat.le_of_ble_eq_true rfl⟩) hS (fun z_30 σ_s_29 H locs rz_30 hw_28 hH hS => ?_)
        obtain ⟨e9, hw_28⟩ := hw_28
        replace e9 := e9.symm
        subst e9
        have hw_28 : z_30 = mK f3 v3q21 := hw_28
        refine lv_iconst (v := I 2) hx hb dX11_leads_72 (by decide) ?_
        refine lv_icmp_ne (tgt := 91) hx hb dX11_leads_73 (by decide) (fun c_31 => ?_) (fun c_31 => ?_)
        · replace c_31 := mt (I_eq (a := z_30) (b := 2) rz_30 (show rng 2 from ⟨by decide, by decide⟩)).mpr c_31
          refine lv_iconst (v := I (-1)) hx hb dX11_leads_91 (by decide) ?_
          refine lv_istore_n (lv' := [(3, .int (I (-1))), (5, .int (I z_26)), (0, .ref a), (1, .int (I w)), (2, .int (I nn)), (4, .int (I v4q21))]) hx hb dX11_leads_92 rfl hl (by decide) rfl (fun ls hl => ?_)
          refine lv_iinc (v := I (v4q21 + 1)) (lv' := [(4, .int (I (v4q21 + 1))), (3, .int (I (-1))), (5, .int (I z_26)), (0, .ref a), (1, .int (I w)), (2, .int (I nn))]) hx hb dX11_leads_93 hl (k := 5) rfl (I_add _ _) (by decide) rfl (fun ls hl => ?_)
          refine lv_goto (tgt := 5) hx hb dX11_leads_96 (by decide) ?_
          replace hl : lv_has ls 6 [(4, .int (I (v4q21 + 1))), (3, .int (I (-1))), (0, .ref a), (1, .int (I w)), (2, .int (I nn))] := lv_sub hl [0, 1, 3, 4, 5] rfl
          exact ihJ_22 ((-1), v4q21 + 1) σ _ _ _ (by first | (dsimp only; omega) | omega) ⟨rfl, hH, hS, lv_sub hl [2, 3, 4, 1, 0] rfl, (show rng (-1) from ⟨by decide, by decide⟩), ⟨by first | (dsimp only; omega) | omega, by first | (dsimp only; omega) | omega⟩, by first | (dsimp only; omega) | omega, by first | (dsimp only; omega) | omega, by first | (dsimp only; omega) | omega, by first | (dsimp only; omega) | omega, (J_22_4.next (by omega) (by omega) (by omega) (Or.inr (Or.inr ⟨rfl, by omega, by omega⟩)) ez_26 (by omega) (by first | (dsimp only; omega) | omega)), by first | (dsimp only; omega) | omega⟩
        · replace c_31 := (I_eq (a := z_30) (b := 2) rz_30 (show rng 2 from ⟨by decide, by decide⟩)).mp c_31
          have hk1 := hy0.1 v3q21 (by omega) (by omega)
          refine lv_aload_n hx hb dX11_leads_76 rfl (lv_at hl 1 rfl) ?_
          refine ok.getR hO h_a (by decide) k13_3 (by decide) (fun _ _ he hv kk => th_get (ci := 11) (C := RX11) (T := TX11) (N := 66) hx hb hts inX11 hown hK hH he rfl 3 (by decide) fl1 hv dX11_leads_77 kk) ?_
          refine lv_iload_n hx hb dX11_leads_80 rfl (lv_at hl 4 rfl) ?_
          refine lv_iconst (v := I (-1)) hx hb dX11_leads_81 (by decide) ?_
          refine lv_iload hx hb dX11_leads_82 (lv_at hl 0 rfl) ?_
          refine lv_isub hx hb dX11_leads_84 ?_
          refine nq_top (I_sub _ _) ?_
          refine th_calli (va_runS (As := [.ref (ad E a 3), .int (I v3q21), .int (I ((-1) - z_26))]) (rest := []) ⟨hx, hb, hml, hown, hts⟩ (w_byPlaceX l G y b0 σ E hO (ad E a 3) 16000 f3 (hO.roww h_a k13_3 isA1 ef3 rfl) v3q21 (show rng v3q21 from rv3q21) (by omega) (by omega) ((-1) - z_26) (show rng ((-1) - z_26) from ⟨by omega, by omega⟩) (by first | exact hy0.1 | exact (hy0.1).sub (by omega) (by omega)) (by omega) (by omega) (by omega)) (va_cwS 3 hts gX11_leads_X11_byPlace rfl rfl rfl (by decide +kernel) ⟨Nat.le_of_ble_eq_true rfl, Nat.le_of_ble_eq_true rfl⟩) (th_PS hK hH) rfl rfl hl.1 rfl (lv_room (Nat.le_of_ble_eq_true rfl)) dX11_leads_85 ⟨Nat.le_of_ble_eq_true rfl, Nat.le_of_ble_eq_true rfl⟩) hS (fun z_34 σ_s_33 H locs rz_34 hw_32 hH hS => ?_)
          obtain ⟨e9, hw_32⟩ := hw_32
          replace e9 := e9.symm
          subst e9
          have hw_32 : ∃ m, chn f3 (v3q21 + 1) m (v3q21 + mS f3 v3q21) ∧ ((z_34 = -1 ∧ ¬ (0 ≤ pq ((-1) - z_26) m ∧ pq ((-1) - z_26) m < m)) ∨ (0 ≤ pq ((-1) - z_26) m ∧ pq ((-1) - z_26) m < m ∧ chn f3 (v3q21 + 1) (pq ((-1) - z_26) m) z_34 ∧ v3q21 < z_34 ∧ z_34 < v3q21 + mS f3 v3q21)) := hw_32
          obtain ⟨m9, hm8, hm7⟩ := hw_32
          have hw_32x : ∃ m, chn f3 (v3q21 + 1) m (v3q21 + mS f3 v3q21) ∧ ((z_34 = -1 ∧ ¬ (0 ≤ pq ((-1) - z_26) m ∧ pq ((-1) - z_26) m < m)) ∨ (0 ≤ pq ((-1) - z_26) m ∧ pq ((-1) - z_26) m < m ∧ chn f3 (v3q21 + 1) (pq ((-1) - z_26) m) z_34 ∧ v3q21 < z_34 ∧ z_34 < v3q21 + mS f3 v3q21)) := ⟨m9, hm8, hm7⟩
          refine lv_goto (tgt := 92) hx hb dX11_leads_88 (by decide) ?_
          refine lv_istore_n (lv' := [(3, .int (I z_34)), (5, .int (I z_26)), (0, .ref a), (1, .int (I w)), (2, .int (I nn)), (4, .int (I v4q21))]) hx hb dX11_leads_92 rfl hl (by decide) rfl (fun ls hl => ?_)
          refine lv_iinc (v := I (v4q21 + 1)) (lv' := [(4, .int (I (v4q21 + 1))), (3, .int (I z_34)), (5, .int (I z_26)), (0, .ref a), (1, .int (I w)), (2, .int (I nn))]) hx hb dX11_leads_93 hl (k := 5) rfl (I_add _ _) (by decide) rfl (fun ls hl => ?_)
          refine lv_goto (tgt := 5) hx hb dX11_leads_96 (by decide) ?_
          replace hl : lv_has ls 6 [(4, .int (I (v4q21 + 1))), (3, .int (I z_34)), (0, .ref a), (1, .int (I w)), (2, .int (I nn))] := lv_sub hl [0, 1, 3, 4, 5] rfl
          exact ihJ_22 (z_34, v4q21 + 1) σ _ _ _ (by first | (dsimp only; omega) | omega) ⟨rfl, hH, hS, lv_sub hl [2, 3, 4, 1, 0] rfl, rz_34, ⟨by first | (dsimp only; omega) | omega, by first | (dsimp only; omega) | omega⟩, by first | (dsimp only; omega) | omega, by first | (dsimp only; omega) | omega, by first | (dsimp only; omega) | omega, by first | (dsimp only; omega) | omega, (J_22_4.next (by omega) (by omega) (by omega) (Or.inr (Or.inl ⟨by omega, by omega, hw_32x⟩)) ez_26 (by omega) (by first | (dsimp only; omega) | omega)), by first | (dsimp only; omega) | omega⟩
      · replace c_27 := mt (I_le (a := z_26) (b := 0) rz_26 (show rng 0 from ⟨by decide, by decide⟩)).mpr c_27
        refine lv_aload_n hx hb dX11_leads_35 rfl (lv_at hl 1 rfl) ?_
        refine ok.getR hO h_a (by decide) k13_3 (by decide) (fun _ _ he hv kk => th_get (ci := 11) (C := RX11) (T := TX11) (N := 66) hx hb hts inX11 hown hK hH he rfl 3 (by decide) fl1 hv dX11_leads_36 kk) ?_
        refine lv_iload_n hx hb dX11_leads_39 rfl (lv_at hl 4 rfl) ?_
        refine th_calli (va_runS (As := [.ref (ad E a 3), .int (I v3q21)]) (rest := []) ⟨hx, hb, hml, hown, hts⟩ (w_kind l G y b0 σ E hO (ad E a 3) 16000 f3 (hO.roww h_a k13_3 isA1 ef3 rfl) v3q21 (show rng v3q21 from rv3q21) (by omega) (by omega) (by omega)) (va_cwS 2 hts gX11_leads_X11_kind rfl rfl rfl (by decide +kernel) ⟨Nat.le_of_ble_eq_true rfl, Nat.le_of_ble_eq_true rfl⟩) (th_PS hK hH) rfl rfl hl.1 rfl (lv_room (Nat.le_of_ble_eq_true rfl)) dX11_leads_40 ⟨Nat.le_of_ble_eq_true rfl, Nat.le_of_ble_eq_true rfl⟩) hS (fun z_37 σ_s_36 H locs rz_37 hw_35 hH hS => ?_)
        obtain ⟨e9, hw_35⟩ := hw_35
        replace e9 := e9.symm
        subst e9
        have hw_35 : z_37 = mK f3 v3q21 := hw_35
        refine lv_iconst (v := I 3) hx hb dX11_leads_43 (by decide) ?_
        refine lv_icmp_ne (tgt := 60) hx hb dX11_leads_44 (by decide) (fun c_38 => ?_) (fun c_38 => ?_)
        · replace c_38 := mt (I_eq (a := z_37) (b := 3) rz_37 (show rng 3 from ⟨by decide, by decide⟩)).mpr c_38
          refine lv_iconst (v := I (-1)) hx hb dX11_leads_60 (by decide) ?_
          refine lv_goto (tgt := 92) hx hb dX11_leads_61 (by decide) ?_
          refine lv_istore_n (lv' := [(3, .int (I (-1))), (5, .int (I z_26)), (0, .ref a), (1, .int (I w)), (2, .int (I nn)), (4, .int (I v4q21))]) hx hb dX11_leads_92 rfl hl (by decide) rfl (fun ls hl => ?_)
          refine lv_iinc (v := I (v4q21 + 1)) (lv' := [(4, .int (I (v4q21 + 1))), (3, .int (I (-1))), (5, .int (I z_26)), (0, .ref a), (1, .int (I w)), (2, .int (I nn))]) hx hb dX11_leads_93 hl (k := 5) rfl (I_add _ _) (by decide) rfl (fun ls hl => ?_)
          refine lv_goto (tgt := 5) hx hb dX11_leads_96 (by decide) ?_
          replace hl : lv_has ls 6 [(4, .int (I (v4q21 + 1))), (3, .int (I (-1))), (0, .ref a), (1, .int (I w)), (2, .int (I nn))] := lv_sub hl [0, 1, 3, 4, 5] rfl
          exact ihJ_22 ((-1), v4q21 + 1) σ _ _ _ (by first | (dsimp only; omega) | omega) ⟨rfl, hH, hS, lv_sub hl [2, 3, 4, 1, 0] rfl, (show rng (-1) from ⟨by decide, by decide⟩), ⟨by first | (dsimp only; omega) | omega, by first | (dsimp only; omega) | omega⟩, by first | (dsimp only; omega) | omega, by first | (dsimp only; omega) | omega, by first | (dsimp only; omega) | omega, by first | (dsimp only; omega) | omega, (J_22_4.next (by omega) (by omega) (by omega) (Or.inr (Or.inr ⟨rfl, by omega, by omega⟩)) ez_26 (by omega) (by first | (dsimp only; omega) | omega)), by first | (dsimp only; omega) | omega⟩
        · replace c_38 := (I_eq (a := z_37) (b := 3) rz_37 (show rng 3 from ⟨by decide, by decide⟩)).mp c_38
          have hk1 := hy0.1 v3q21 (by omega) (by omega)
          refine lv_aload_n hx hb dX11_leads_47 rfl (lv_at hl 1 rfl) ?_
          refine ok.getR hO h_a (by decide) k13_3 (by decide) (fun _ _ he hv kk => th_get (ci := 11) (C := RX11) (T := TX11) (N := 66) hx hb hts inX11 hown hK hH he rfl 3 (by decide) fl1 hv dX11_leads_48 kk) ?_
          refine lv_iload_n hx hb dX11_leads_51 rfl (lv_at hl 4 rfl) ?_
          refine lv_iload hx hb dX11_leads_52 (lv_at hl 0 rfl) ?_
          refine th_calli (va_runS (As := [.ref (ad E a 3), .int (I v3q21), .int (I z_26)]) (rest := []) ⟨hx, hb, hml, hown, hts⟩ (w_byKey l G y b0 σ E hO (ad E a 3) 16000 f3 (hO.roww h_a k13_3 isA1 ef3 rfl) v3q21 (show rng v3q21 from rv3q21) (by omega) (by omega) z_26 (show rng z_26 from rz_26) (by first | exact hy0.1 | exact (hy0.1).sub (by omega) (by omega)) (by omega) (by omega) (by omega)) (va_cwS 3 hts gX11_leads_X11_byKey rfl rfl rfl (by decide +kernel) ⟨Nat.le_of_ble_eq_true rfl, Nat.le_of_ble_eq_true rfl⟩) (th_PS hK hH) rfl rfl hl.1 rfl (lv_room (Nat.le_of_ble_eq_true rfl)) dX11_leads_54 ⟨Nat.le_of_ble_eq_true rfl, Nat.le_of_ble_eq_true rfl⟩) hS (fun z_41 σ_s_40 H locs rz_41 hw_39 hH hS => ?_)
          obtain ⟨e9, hw_39⟩ := hw_39
          replace e9 := e9.symm
          subst e9
          have hw_39 : (z_41 = -1 ∧ nok f3 (v3q21 + 1) (v3q21 + mS f3 v3q21) z_26) ∨ (kid f3 v3q21 z_41 ∧ mY f3 z_41 = z_26 ∧ v3q21 < z_41 ∧ z_41 < v3q21 + mS f3 v3q21) := hw_39
          refine lv_goto (tgt := 92) hx hb dX11_leads_57 (by decide) ?_
          refine lv_istore_n (lv' := [(3, .int (I z_41)), (5, .int (I z_26)), (0, .ref a), (1, .int (I w)), (2, .int (I nn)), (4, .int (I v4q21))]) hx hb dX11_leads_92 rfl hl (by decide) rfl (fun ls hl => ?_)
          refine lv_iinc (v := I (v4q21 + 1)) (lv' := [(4, .int (I (v4q21 + 1))), (3, .int (I z_41)), (5, .int (I z_26)), (0, .ref a), (1, .int (I w)), (2, .int (I nn))]) hx hb dX11_leads_93 hl (k := 5) rfl (I_add _ _) (by decide) rfl (fun ls hl => ?_)
          refine lv_goto (tgt := 5) hx hb dX11_leads_96 (by decide) ?_
          replace hl : lv_has ls 6 [(4, .int (I (v4q21 + 1))), (3, .int (I z_41)), (0, .ref a), (1, .int (I w)), (2, .int (I nn))] := lv_sub hl [0, 1, 3, 4, 5] rfl
          exact ihJ_22 (z_41, v4q21 + 1) σ _ _ _ (by first | (dsimp only; omega) | omega) ⟨rfl, hH, hS, lv_sub hl [2, 3, 4, 1, 0] rfl, rz_41, ⟨by first | (dsimp only; omega) | omega, by first | (dsimp only; omega) | omega⟩, by first | (dsimp only; omega) | omega, by first | (dsimp only; omega) | omega, by first | (dsimp only; omega) | omega, by first | (dsimp only; omega) | omega, (J_22_4.next (by omega) (by omega) (by omega) (Or.inl ⟨by omega, by omega, hw_39.imp (fun h9 => ⟨h9.1, h9.2⟩) (fun h9 => ⟨h9.1, h9.2.1⟩)⟩) ez_26 (by omega) (by first | (dsimp only; omega) | omega)), by first | (dsimp only; omega) | omega⟩
