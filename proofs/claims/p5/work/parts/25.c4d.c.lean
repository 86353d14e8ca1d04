set_option maxHeartbeats 4000000 in
set_option maxRecDepth 100000 in
theorem m_filter (l : Launch) (G : va_G) (y : Nat → ClassId) (b0 : Nat) (σ : th_M) (E : th_E) (hO : ok y E σ) (a : Nat) (h_a : kd E a = 13) (f1 : Nat → Int32) (ef1 : aF σ (ad E a 1) = f1) (Bf : Int → Int) (hsr : sr E σ a Bf) (hy0 : wf f1 0 (mS f1 0)) (hy1 : 1 ≤ mS f1 0 ∧ mS f1 0 ≤ 60) (hy2 : 0 ≤ gI σ a 17 ∧ gI σ a 17 ≤ gI σ a 13 ∧ gI σ a 13 ≤ gI σ a 11 ∧ gI σ a 11 ≤ 400) (hy3 : gI σ a 28 = 0) : Met l yX11_filter wsX11_filter ({ frames := 47, cells := 0, slots := 0, locals := 1606 }) (th_P G y b0 σ [.ref a]) (th_Qv G b0 (fun σ1 => ok y E σ1 ∧ fr [13] E σ σ1 ∧ fm [13, 14, 15, 16, 17, 18, 19, 20, 27, 28, 24, 30] E σ σ1 a ∧ (0 ≤ gI σ1 a 17 ∧ gI σ1 a 17 ≤ gI σ1 a 13 ∧ gI σ1 a 13 ≤ gI σ a 11 ∧ gI σ1 a 28 = 0))) 0 0 (th_A b0) := by
  refine Met.ofW (cc := cX11_filter) (maxL := 6) (ret := none) (by decide) rfl ?_
  intro p e s m args below meth c s₁ B hml hv
  obtain ⟨rfl, hH, hK⟩ := hv
  have hx := B.exec
  have hb := B.bytes
  have hr := B.returns
  have hts := atoms_spec (ws := wsX11_filter) B.pre
  have hown : s.vm.findClass RX11 = some m.cls := findClass_of_methodNamed B.named
  have hlocks := B.notSynchronized
  have h00 : b0 ≤ s.heap.size := hH.1
  have hS : va_S (th_A b0) s.heap s.heap [] := va_S.rf
  have hF : fr [13] E σ σ := fr.rf
  have hM : fm [13, 14, 15, 16, 17, 18, 19, 20, 27, 28, 24, 30] E σ σ a := fm.rf
  have inX11 : ∀ w ∈ wsX110, w ∈ wsX11_filter := by decide +kernel
  have fl0 := hts (.fieldLink RX11 300 "NestQueryModel" "isGone" "Z") (by decide +kernel)
  have fl1 := hts (.fieldLink RX11 133 "NestQueryModel" "begins" "I") (by decide +kernel)
  have fl2 := hts (.fieldLink RX11 276 "NestQueryModel" "littles" "I") (by decide +kernel)
  have fl3 := hts (.fieldLink RX11 316 "NestQueryModel" "asked" "I") (by decide +kernel)
  have fl4 := hts (.fieldLink RX11 126 "NestQueryModel" "at" "I") (by decide +kernel)
  have fl5 := hts (.fieldLink RX11 35 "NestQueryModel" "set" "[Z") (by decide +kernel)
  have fl6 := hts (.fieldLink RX11 39 "NestQueryModel" "to" "[Z") (by decide +kernel)
  have hl := lv_entry ([.ref a]) (n := 6) (Nat.le_of_ble_eq_true rfl)
  rw [lg_entry_eq]
  generalize (lg_sl ([.ref a]) ++ List.replicate (6 - (lg_sl ([.ref a])).length) Slot.unset).toArray = ls at hl ⊢
  have hl : lv_has ls 6 [(0, .ref a)] := hl
  obtain ⟨a110, ea110, ra110, la110, ua110⟩ := hO.gi h_a (by decide) k13_11
  obtain ⟨a130, ea130, ra130, la130, ua130⟩ := hO.gi h_a (by decide) k13_13
  obtain ⟨a140, ea140, ra140, la140, ua140⟩ := hO.gi h_a (by decide) k13_14
  obtain ⟨a170, ea170, ra170, la170, ua170⟩ := hO.gi h_a (by decide) k13_17
  obtain ⟨a190, ea190, ra190, la190, ua190⟩ := hO.gi h_a (by decide) k13_19
  obtain ⟨a280, ea280, ra280, la280, ua280⟩ := hO.gi h_a (by decide) k13_28
  refine lv_aload_n hx hb dX11_filter_0 rfl (lv_at hl 0 rfl) ?_
  refine ok.getI hO h_a (by decide) k13_25 (fun _ _ he hv kk => th_get (ci := 11) (C := RX11) (T := TX11) (N := 66) hx hb hts inX11 hown hK hH he rfl 25 (by decide) fl0 hv dX11_filter_1 kk) (fun z_1 e_2 rz_1 lz_1 uz_1 => ?_)
  refine lv_if_ne (tgt := 18) hx hb dX11_filter_4 (by decide) (fun c_3 => ?_) (fun c_3 => ?_)
  · replace c_3 := mt (I_eq (a := z_1) (b := 0) rz_1 (show rng 0 from ⟨by decide, by decide⟩)).mpr c_3
    refine lv_aload_n hx hb dX11_filter_18 rfl (lv_at hl 0 rfl) ?_
    refine ok.getIc hO h_a (by decide) k13_17 ea170 (fun _ _ he hv kk => th_get (ci := 11) (C := RX11) (T := TX11) (N := 66) hx hb hts inX11 hown hK hH he rfl 17 (by decide) fl1 hv dX11_filter_19 kk) ?_
    refine lv_istore_n (lv' := [(1, .int (I a170)), (0, .ref a)]) hx hb dX11_filter_22 rfl hl (by decide) rfl (fun ls hl => ?_)
    refine lv_aload_n hx hb dX11_filter_23 rfl (lv_at hl 1 rfl) ?_
    refine ok.getI hO h_a (by decide) k13_27 (fun _ _ he hv kk => th_get (ci := 11) (C := RX11) (T := TX11) (N := 66) hx hb hts inX11 hown hK hH he rfl 27 (by decide) fl2 hv dX11_filter_24 kk) (fun z_4 e_5 rz_4 lz_4 uz_4 => ?_)
    refine lv_istore_n (lv' := [(2, .int (I z_4)), (1, .int (I a170)), (0, .ref a)]) hx hb dX11_filter_27 rfl hl (by decide) rfl (fun ls hl => ?_)
    refine lv_aload_n hx hb dX11_filter_28 rfl (lv_at hl 2 rfl) ?_
    refine lv_iconst (v := I (-1)) hx hb dX11_filter_29 (by decide) ?_
    refine ok.putJ hO h_a k13_30 (show rng (-1) from ⟨by decide, by decide⟩) (by omega) (by omega) (fun _ he hl9 kk => th_put (ci := 11) (v := .int (I (-1))) (ty := .int) (C := RX11) (T := TX11) (N := 66) hx hb hts inX11 tyX11 tyX11_ok nmX11 hown hK hH hS h00 he rfl 30 (by decide) fl3 rfl (by decide +kernel) rfl rfl hl9 dX11_filter_30 kk) (fun σ_s_6 H locs hO hF9 hM9 hg9 ha9 hH hS => ?_)
    replace hM := hM.tu hM9 (by decide)
    replace hF := hF.tu hF9 (by decide)
    have e_7 : aF σ_s_6 (ad E a 1) = f1 := (hM9.a (by decide) (by decide)).trans ef1
    have e_8 : gI σ_s_6 a 11 = a110 := (hM9.i (by decide)).trans ea110
    have e_9 : gI σ_s_6 a 13 = a130 := (hM9.i (by decide)).trans ea130
    have e_10 : gI σ_s_6 a 14 = a140 := (hM9.i (by decide)).trans ea140
    have e_11 : gI σ_s_6 a 17 = a170 := (hM9.i (by decide)).trans ea170
    have e_12 : gI σ_s_6 a 19 = a190 := (hM9.i (by decide)).trans ea190
    have e_13 : gI σ_s_6 a 28 = a280 := (hM9.i (by decide)).trans ea280
    have e_14 : gI σ_s_6 a 25 = z_1 := (hM9.i (by decide)).trans e_2
    have e_15 : gI σ_s_6 a 27 = z_4 := (hM9.i (by decide)).trans e_5
    replace hsr := hsr.mv hM9 (by decide) (by decide) (by decide) (by decide) (by decide)
    have e_16 := hg9
    refine lv_aload_n hx hb dX11_filter_33 rfl (lv_at hl 2 rfl) ?_
    obtain ⟨_, hc_17⟩ := hO.cell h_a (by decide) (ci := 11) rfl
    refine th_calli (va_runV (As := []) (rest := []) ⟨hx, hb, hml, hown, hts⟩ (m_cond 6 (m_atom 6) l G y b0 σ_s_6 E hO a h_a f1 e_7 Bf hsr (hy0) (by omega) (by omega) (by omega) (by omega) (by omega)) (cwV 0 hts gX11_filter_X11_cond rfl rfl rfl (by decide +kernel) ⟨Nat.le_of_ble_eq_true rfl, Nat.le_of_ble_eq_true rfl⟩) (th_PV hK hH rfl hc_17) rfl rfl hl.1 rfl (lv_room (Nat.le_of_ble_eq_true rfl)) dX11_filter_34 ⟨Nat.le_of_ble_eq_true rfl, Nat.le_of_ble_eq_true rfl⟩) hS (fun z_20 σ_s_19 H locs rz_20 hw_18 hH hS => ?_)
    obtain ⟨hO9, hF9, hM9, bhw_18, hw_18⟩ := hw_18
    replace hM := hM.tu hM9 (by decide)
    replace hF := hF.tu hF9 (by decide)
    have e_21 : aF σ_s_19 (ad E a 1) = f1 := (hM9.a (by decide) (by decide)).trans e_7
    have e_22 : gI σ_s_19 a 11 = a110 := (hM9.i (by decide)).trans e_8
    have e_23 : gI σ_s_19 a 25 = z_1 := (hM9.i (by decide)).trans e_14
    have e_24 : gI σ_s_19 a 30 = (-1) := (hM9.i (by decide)).trans e_16
    replace hsr := hsr.mv hM9 (by decide) (by decide) (by decide) (by decide) (by decide)
    replace hO := hO9
    have hw_18 : ((gI σ_s_6 a 13 ≤ gI σ_s_19 a 13 ∧ gI σ_s_19 a 13 ≤ gI σ_s_6 a 11 ∧ 0 ≤ gI σ_s_19 a 17 ∧ gI σ_s_19 a 17 ≤ gI σ_s_19 a 13) ∧ pgo (gI σ_s_19 a 19) (gI σ_s_19 a 14) (gI σ_s_6 a 13) (gI σ_s_19 a 13)) ∧ gI σ_s_19 a 28 = gI σ_s_6 a 28 := hw_18
    refine lv_istore_n (lv' := [(3, .int (I z_20)), (2, .int (I z_4)), (1, .int (I a170)), (0, .ref a)]) hx hb dX11_filter_37 rfl hl (by decide) rfl (fun ls hl => ?_)
    refine lv_aload_n hx hb dX11_filter_38 rfl (lv_at hl 3 rfl) ?_
    refine ok.getI hO h_a (by decide) k13_17 (fun _ _ he hv kk => th_get (ci := 11) (C := RX11) (T := TX11) (N := 66) hx hb hts inX11 hown hK hH he rfl 17 (by decide) fl1 hv dX11_filter_39 kk) (fun z_25 e_26 rz_25 lz_25 uz_25 => ?_)
    refine lv_istore (lv' := [(4, .int (I z_25)), (3, .int (I z_20)), (2, .int (I z_4)), (1, .int (I a170)), (0, .ref a)]) hx hb dX11_filter_42 hl (by decide) rfl (fun ls hl => ?_)
    refine lv_iconst (v := I 0) hx hb dX11_filter_44 (by decide) ?_
    refine lv_istore (lv' := [(5, .int (I 0)), (4, .int (I z_25)), (3, .int (I z_20)), (2, .int (I z_4)), (1, .int (I a170)), (0, .ref a)]) hx hb dX11_filter_45 hl (by decide) rfl (fun ls hl => ?_)
    replace hl : lv_has ls 6 [(5, .int (I 0)), (4, .int (I z_25)), (2, .int (I z_4)), (1, .int (I a170)), (0, .ref a)] := lv_sub hl [0, 1, 3, 4, 5] rfl
    refine th_loop (α := Int) (pc := 47) (fun x9 => (mS f1 0 - x9).toNat) (fun x9 σ9 H9 l9 ls9 => ok y E σ9 ∧ fr [13] E σ σ9 ∧ fm [13, 14, 15, 16, 17, 18, 19, 20, 27, 28, 24, 30] E σ σ9 a ∧ sr E σ9 a Bf ∧ th_H G b0 σ9 H9 ∧ va_S (th_A b0) s.heap H9 l9 ∧ lv_has ls9 6 [(0, .ref a), (1, .int (I a170)), (2, .int (I z_4)), (4, .int (I z_25)), (5, .int (I x9))] ∧ rng x9 ∧ (0 ≤ x9) ∧ (x9 ≤ 60) ∧ (0 ≤ gI σ9 a 17 ∧ gI σ9 a 17 ≤ gI σ9 a 13 ∧ gI σ9 a 13 ≤ gI σ a 11) ∧ (gI σ9 a 28 = 0) ∧ (gI σ9 a 11 = a110) ∧ (gI σ9 a 25 = z_1) ∧ (aF σ9 (ad E a 1) = f1)) ?_ (0) σ_s_19 _ _ _ ⟨hO, hF, hM, hsr, hH, hS, lv_sub hl [4, 3, 2, 1, 0] rfl, (show rng 0 from ⟨by decide, by decide⟩), by first | (dsimp only; omega) | omega, by first | (dsimp only; omega) | omega, by first | (dsimp only; omega) | omega, by first | (dsimp only; omega) | omega, e_22, e_23, e_21⟩
    intro x9 σ_J_148 H locs ls hI9 ihJ_148
    obtain ⟨v5q147, ex9⟩ : ∃ z, z = x9 := ⟨_, rfl⟩
    subst ex9
    obtain ⟨hO, hF, hM, hsr, hH, hS, hl, rv5q147, J_148_0, J_148_1, J_148_2, J_148_3, J_148_4, J_148_5, J_148_6⟩ := hI9
    have hl : lv_has ls 6 [(0, .ref a), (1, .int (I a170)), (2, .int (I z_4)), (4, .int (I z_25)), (5, .int (I v5q147))] := hl
    have rv5q147 : rng v5q147 := rv5q147
    have J_148_0 : 0 ≤ v5q147 := J_148_0
    have J_148_1 : v5q147 ≤ 60 := J_148_1
    have J_148_2 : 0 ≤ gI σ_J_148 a 17 ∧ gI σ_J_148 a 17 ≤ gI σ_J_148 a 13 ∧ gI σ_J_148 a 13 ≤ gI σ a 11 := J_148_2
    have J_148_3 : gI σ_J_148 a 28 = 0 := J_148_3
    have J_148_4 : gI σ_J_148 a 11 = a110 := J_148_4
    have J_148_5 : gI σ_J_148 a 25 = z_1 := J_148_5
    have J_148_6 : aF σ_J_148 (ad E a 1) = f1 := J_148_6
    refine lv_iload hx hb dX11_filter_47 (lv_at hl 4 rfl) ?_
    refine lv_aload_n hx hb dX11_filter_49 rfl (lv_at hl 0 rfl) ?_
    obtain ⟨_, hc_149⟩ := hO.cell h_a (by decide) (ci := 11) rfl
    refine th_calli (va_runV (As := []) (rest := [.int (I v5q147)]) ⟨hx, hb, hml, hown, hts⟩ (m_things l G y b0 σ_J_148 E hO a h_a f1 J_148_6) (cwV 0 hts gX11_filter_X11_things rfl rfl rfl (by decide +kernel) ⟨Nat.le_of_ble_eq_true rfl, Nat.le_of_ble_eq_true rfl⟩) (th_PV hK hH rfl hc_149) rfl rfl hl.1 rfl (lv_room (Nat.le_of_ble_eq_true rfl)) dX11_filter_50 ⟨Nat.le_of_ble_eq_true rfl, Nat.le_of_ble_eq_true rfl⟩) hS (fun z_152 σ_s_151 H locs rz_152 hw_150 hH hS => ?_)
    obtain ⟨e9, hw_150⟩ := hw_150
    replace e9 := e9.symm
    subst e9
    have hw_150 : z_152 = mS f1 0 := hw_150
    refine lv_icmp_ge (tgt := 101) hx hb dX11_filter_53 (by decide) (fun c_153 => ?_) (fun c_153 => ?_)
    · replace c_153 := (I_le (a := z_152) (b := v5q147) rz_152 rv5q147).mp c_153
      refine lv_aload_n hx hb dX11_filter_101 rfl (lv_at hl 0 rfl) ?_
      refine lv_iload hx hb dX11_filter_102 (lv_at hl 3 rfl) ?_
      obtain ⟨z_154, e_155, rz_154, lz_154, uz_154⟩ := hO.gi h_a (by decide) k13_17
      obtain ⟨z_156, e_157, rz_156, lz_156, uz_156⟩ := hO.gi h_a (by decide) k13_28
      refine ok.putJ hO h_a k13_13 rz_25 (by omega) (by omega) (fun _ he hl9 kk => th_put (ci := 11) (v := .int (I z_25)) (ty := .int) (C := RX11) (T := TX11) (N := 66) hx hb hts inX11 tyX11 tyX11_ok nmX11 hown hK hH hS h00 he rfl 13 (by decide) fl4 rfl (by decide +kernel) rfl rfl hl9 dX11_filter_104 kk) (fun σ_s_158 H locs hO hF9 hM9 hg9 ha9 hH hS => ?_)
      replace hM := hM.tu hM9 (by decide)
      replace hF := hF.tu hF9 (by decide)
      have e_159 : gI σ_s_158 a 11 = a110 := (hM9.i (by decide)).trans J_148_4
      have e_160 : gI σ_s_158 a 25 = z_1 := (hM9.i (by decide)).trans J_148_5
      have e_161 : aF σ_s_158 (ad E a 1) = f1 := (hM9.a (by decide) (by decide)).trans J_148_6
      have e_162 : gI σ_s_158 a 17 = z_154 := (hM9.i (by decide)).trans e_155
      have e_163 : gI σ_s_158 a 28 = z_156 := (hM9.i (by decide)).trans e_157
      replace hsr := hsr.mv hM9 (by decide) (by decide) (by decide) (by decide) (by decide)
      have e_164 := hg9
      refine lv_aload_n hx hb dX11_filter_107 rfl (lv_at hl 0 rfl) ?_
      obtain ⟨_, hc_165⟩ := hO.cell h_a (by decide) (ci := 11) rfl
      refine th_callv (va_runV (As := []) (rest := []) ⟨hx, hb, hml, hown, hts⟩ (m_stepOn l G y b0 σ_s_158 E hO a h_a Bf hsr (by omega)) (cwV 0 hts gX11_filter_X11_stepOn rfl rfl rfl (by decide +kernel) ⟨Nat.le_of_ble_eq_true rfl, Nat.le_of_ble_eq_true rfl⟩) (th_PV hK hH rfl hc_165) rfl rfl hl.1 rfl (lv_room (Nat.le_of_ble_eq_true rfl)) dX11_filter_108 ⟨Nat.le_of_ble_eq_true rfl, Nat.le_of_ble_eq_true rfl⟩) hS (fun σ_s_167 H locs hw_166 hH hS => ?_)
      obtain ⟨hO9, hF9, hM9, hw_166⟩ := hw_166
      replace hM := hM.tu hM9 (by decide)
      replace hF := hF.tu hF9 (by decide)
      have e_168 : gI σ_s_167 a 11 = a110 := (hM9.i (by decide)).trans e_159
      have e_169 : gI σ_s_167 a 25 = z_1 := (hM9.i (by decide)).trans e_160
      have e_170 : aF σ_s_167 (ad E a 1) = f1 := (hM9.a (by decide) (by decide)).trans e_161
      have e_171 : gI σ_s_167 a 28 = z_156 := (hM9.i (by decide)).trans e_163
      replace hsr := hsr.mv hM9 (by decide) (by decide) (by decide) (by decide) (by decide)
      replace hO := hO9
      have hw_166 : gI σ_s_158 a 13 ≤ gI σ_s_167 a 13 ∧ gI σ_s_167 a 13 ≤ gI σ_s_158 a 11 ∧ 0 ≤ gI σ_s_167 a 17 ∧ gI σ_s_167 a 17 ≤ gI σ_s_167 a 13 ∧ (gI σ_s_167 a 14 = 0 ∨ gI σ_s_158 a 13 < gI σ_s_167 a 13) := hw_166
      refine lv_aload_n hx hb dX11_filter_111 rfl (lv_at hl 0 rfl) ?_
      refine lv_iload_n hx hb dX11_filter_112 rfl (lv_at hl 2 rfl) ?_
      obtain ⟨z_172, e_173, rz_172, lz_172, uz_172⟩ := hO.gi h_a (by decide) k13_13
      obtain ⟨z_174, e_175, rz_174, lz_174, uz_174⟩ := hO.gi h_a (by decide) k13_17
      refine ok.putJ hO h_a k13_27 rz_4 (by omega) (by omega) (fun _ he hl9 kk => th_put (ci := 11) (v := .int (I z_4)) (ty := .int) (C := RX11) (T := TX11) (N := 66) hx hb hts inX11 tyX11 tyX11_ok nmX11 hown hK hH hS h00 he rfl 27 (by decide) fl2 rfl (by decide +kernel) rfl rfl hl9 dX11_filter_113 kk) (fun σ_s_176 H locs hO hF9 hM9 hg9 ha9 hH hS => ?_)
      replace hM := hM.tu hM9 (by decide)
      replace hF := hF.tu hF9 (by decide)
      have e_177 : gI σ_s_176 a 11 = a110 := (hM9.i (by decide)).trans e_168
      have e_178 : gI σ_s_176 a 25 = z_1 := (hM9.i (by decide)).trans e_169
      have e_179 : aF σ_s_176 (ad E a 1) = f1 := (hM9.a (by decide) (by decide)).trans e_170
      have e_180 : gI σ_s_176 a 28 = z_156 := (hM9.i (by decide)).trans e_171
      have e_181 : gI σ_s_176 a 13 = z_172 := (hM9.i (by decide)).trans e_173
      have e_182 : gI σ_s_176 a 17 = z_174 := (hM9.i (by decide)).trans e_175
      replace hsr := hsr.mv hM9 (by decide) (by decide) (by decide) (by decide) (by decide)
      have e_183 := hg9
      exact th_vret hx hb hr hlocks hH hS ⟨hO, hF, hM, by omega⟩ dX11_filter_116
    · replace c_153 := mt (I_le (a := z_152) (b := v5q147) rz_152 rv5q147).mpr c_153
      refine lv_aload_n hx hb dX11_filter_56 rfl (lv_at hl 0 rfl) ?_
      refine ok.getR hO h_a (by decide) k13_23 (by decide) (fun _ _ he hv kk => th_get (ci := 11) (C := RX11) (T := TX11) (N := 66) hx hb hts inX11 hown hK hH he rfl 23 (by decide) fl5 hv dX11_filter_57 kk) ?_
      refine lv_iload hx hb dX11_filter_60 (lv_at hl 4 rfl) ?_
      refine m_zald hx hb hK hH hO h_a k13_23 rv5q147 (by omega) (by omega) dX11_filter_62 (fun z_184 rz_184 uz_184 => ?_)
      refine lv_if_ne (tgt := 69) hx hb dX11_filter_63 (by decide) (fun c_185 => ?_) (fun c_185 => ?_)
      · replace c_185 := mt (I_eq (a := z_184) (b := 0) rz_184 (show rng 0 from ⟨by decide, by decide⟩)).mpr c_185
        refine lv_aload_n hx hb dX11_filter_69 rfl (lv_at hl 0 rfl) ?_
        refine lv_iload_n hx hb dX11_filter_70 rfl (lv_at hl 1 rfl) ?_
        obtain ⟨z_186, e_187, rz_186, lz_186, uz_186⟩ := hO.gi h_a (by decide) k13_17
        obtain ⟨z_188, e_189, rz_188, lz_188, uz_188⟩ := hO.gi h_a (by decide) k13_28
        refine ok.putJ hO h_a k13_13 ra170 (by omega) (by omega) (fun _ he hl9 kk => th_put (ci := 11) (v := .int (I a170)) (ty := .int) (C := RX11) (T := TX11) (N := 66) hx hb hts inX11 tyX11 tyX11_ok nmX11 hown hK hH hS h00 he rfl 13 (by decide) fl4 rfl (by decide +kernel) rfl rfl hl9 dX11_filter_71 kk) (fun σ_s_190 H locs hO hF9 hM9 hg9 ha9 hH hS => ?_)
        replace hM := hM.tu hM9 (by decide)
        replace hF := hF.tu hF9 (by decide)
        have e_191 : gI σ_s_190 a 11 = a110 := (hM9.i (by decide)).trans J_148_4
        have e_192 : gI σ_s_190 a 25 = z_1 := (hM9.i (by decide)).trans J_148_5
        have e_193 : aF σ_s_190 (ad E a 1) = f1 := (hM9.a (by decide) (by decide)).trans J_148_6
        have e_194 : gI σ_s_190 a 17 = z_186 := (hM9.i (by decide)).trans e_187
        have e_195 : gI σ_s_190 a 28 = z_188 := (hM9.i (by decide)).trans e_189
        replace hsr := hsr.mv hM9 (by decide) (by decide) (by decide) (by decide) (by decide)
        have e_196 := hg9
        refine lv_aload_n hx hb dX11_filter_74 rfl (lv_at hl 0 rfl) ?_
        obtain ⟨_, hc_197⟩ := hO.cell h_a (by decide) (ci := 11) rfl
        refine th_callv (va_runV (As := []) (rest := []) ⟨hx, hb, hml, hown, hts⟩ (m_stepOn l G y b0 σ_s_190 E hO a h_a Bf hsr (by omega)) (cwV 0 hts gX11_filter_X11_stepOn rfl rfl rfl (by decide +kernel) ⟨Nat.le_of_ble_eq_true rfl, Nat.le_of_ble_eq_true rfl⟩) (th_PV hK hH rfl hc_197) rfl rfl hl.1 rfl (lv_room (Nat.le_of_ble_eq_true rfl)) dX11_filter_75 ⟨Nat.le_of_ble_eq_true rfl, Nat.le_of_ble_eq_true rfl⟩) hS (fun σ_s_199 H locs hw_198 hH hS => ?_)
        obtain ⟨hO9, hF9, hM9, hw_198⟩ := hw_198
        replace hM := hM.tu hM9 (by decide)
        replace hF := hF.tu hF9 (by decide)
        have e_200 : gI σ_s_199 a 11 = a110 := (hM9.i (by decide)).trans e_191
        have e_201 : gI σ_s_199 a 25 = z_1 := (hM9.i (by decide)).trans e_192
        have e_202 : aF σ_s_199 (ad E a 1) = f1 := (hM9.a (by decide) (by decide)).trans e_193
        have e_203 : gI σ_s_199 a 28 = z_188 := (hM9.i (by decide)).trans e_195
        replace hsr := hsr.mv hM9 (by decide) (by decide) (by decide) (by decide) (by decide)
        replace hO := hO9
        have hw_198 : gI σ_s_190 a 13 ≤ gI σ_s_199 a 13 ∧ gI σ_s_199 a 13 ≤ gI σ_s_190 a 11 ∧ 0 ≤ gI σ_s_199 a 17 ∧ gI σ_s_199 a 17 ≤ gI σ_s_199 a 13 ∧ (gI σ_s_199 a 14 = 0 ∨ gI σ_s_190 a 13 < gI σ_s_199 a 13) := hw_198
        refine lv_aload_n hx hb dX11_filter_78 rfl (lv_at hl 0 rfl) ?_
        refine lv_iload hx hb dX11_filter_79 (lv_at hl 4 rfl) ?_
        obtain ⟨z_204, e_205, rz_204, lz_204, uz_204⟩ := hO.gi h_a (by decide) k13_13
        obtain ⟨z_206, e_207, rz_206, lz_206, uz_206⟩ := hO.gi h_a (by decide) k13_17
        refine ok.putJ hO h_a k13_30 rv5q147 (by omega) (by omega) (fun _ he hl9 kk => th_put (ci := 11) (v := .int (I v5q147)) (ty := .int) (C := RX11) (T := TX11) (N := 66) hx hb hts inX11 tyX11 tyX11_ok nmX11 hown hK hH hS h00 he rfl 30 (by decide) fl3 rfl (by decide +kernel) rfl rfl hl9 dX11_filter_81 kk) (fun σ_s_208 H locs hO hF9 hM9 hg9 ha9 hH hS => ?_)
        replace hM := hM.tu hM9 (by decide)
        replace hF := hF.tu hF9 (by decide)
        have e_209 : gI σ_s_208 a 11 = a110 := (hM9.i (by decide)).trans e_200
        have e_210 : gI σ_s_208 a 25 = z_1 := (hM9.i (by decide)).trans e_201
        have e_211 : aF σ_s_208 (ad E a 1) = f1 := (hM9.a (by decide) (by decide)).trans e_202
        have e_212 : gI σ_s_208 a 28 = z_188 := (hM9.i (by decide)).trans e_203
        have e_213 : gI σ_s_208 a 13 = z_204 := (hM9.i (by decide)).trans e_205
        have e_214 : gI σ_s_208 a 17 = z_206 := (hM9.i (by decide)).trans e_207
        replace hsr := hsr.mv hM9 (by decide) (by decide) (by decide) (by decide) (by decide)
        have e_215 := hg9
        refine lv_aload_n hx hb dX11_filter_84 rfl (lv_at hl 0 rfl) ?_
        refine ok.getR hO h_a (by decide) k13_24 (by decide) (fun _ _ he hv kk => th_get (ci := 11) (C := RX11) (T := TX11) (N := 66) hx hb hts inX11 hown hK hH he rfl 24 (by decide) fl6 hv dX11_filter_85 kk) ?_
        refine lv_iload hx hb dX11_filter_88 (lv_at hl 4 rfl) ?_
        refine lv_aload_n hx hb dX11_filter_90 rfl (lv_at hl 0 rfl) ?_
        obtain ⟨_, hc_216⟩ := hO.cell h_a (by decide) (ci := 11) rfl
        refine th_calli (va_runV (As := []) (rest := [.int (I v5q147), .ref (ad E a 24)]) ⟨hx, hb, hml, hown, hts⟩ (m_cond 6 (m_atom 6) l G y b0 σ_s_208 E hO a h_a f1 e_211 Bf hsr (hy0) (by omega) (by omega) (by omega) (by omega) (by omega)) (cwV 0 hts gX11_filter_X11_cond rfl rfl rfl (by decide +kernel) ⟨Nat.le_of_ble_eq_true rfl, Nat.le_of_ble_eq_true rfl⟩) (th_PV hK hH rfl hc_216) rfl rfl hl.1 rfl (lv_room (Nat.le_of_ble_eq_true rfl)) dX11_filter_91 ⟨Nat.le_of_ble_eq_true rfl, Nat.le_of_ble_eq_true rfl⟩) hS (fun z_219 σ_s_218 H locs rz_219 hw_217 hH hS => ?_)
        obtain ⟨hO9, hF9, hM9, bhw_217, hw_217⟩ := hw_217
        replace hM := hM.tu hM9 (by decide)
        replace hF := hF.tu hF9 (by decide)
        have e_220 : gI σ_s_218 a 11 = a110 := (hM9.i (by decide)).trans e_209
        have e_221 : gI σ_s_218 a 25 = z_1 := (hM9.i (by decide)).trans e_210
        have e_222 : aF σ_s_218 (ad E a 1) = f1 := (hM9.a (by decide) (by decide)).trans e_211
        have e_223 : gI σ_s_218 a 30 = v5q147 := (hM9.i (by decide)).trans e_215
        replace hsr := hsr.mv hM9 (by decide) (by decide) (by decide) (by decide) (by decide)
        replace hO := hO9
        have hw_217 : ((gI σ_s_208 a 13 ≤ gI σ_s_218 a 13 ∧ gI σ_s_218 a 13 ≤ gI σ_s_208 a 11 ∧ 0 ≤ gI σ_s_218 a 17 ∧ gI σ_s_218 a 17 ≤ gI σ_s_218 a 13) ∧ pgo (gI σ_s_218 a 19) (gI σ_s_218 a 14) (gI σ_s_208 a 13) (gI σ_s_218 a 13)) ∧ gI σ_s_218 a 28 = gI σ_s_208 a 28 := hw_217
        obtain ⟨z_224, e_225, rz_224, lz_224, uz_224⟩ := hO.gi h_a (by decide) k13_13
        obtain ⟨z_226, e_227, rz_226, lz_226, uz_226⟩ := hO.gi h_a (by decide) k13_17
        obtain ⟨z_228, e_229, rz_228, lz_228, uz_228⟩ := hO.gi h_a (by decide) k13_28
        refine m_zast hx hb hK hH hS h00 hO h_a k13_24 (by decide) rv5q147 (by omega) (by omega) (by omega) dX11_filter_94 (fun σ_s_230 H locs hO hF9 hM9 hH hS => ?_)
        replace hM := hM.tu hM9 (by decide)
        replace hF := hF.tu hF9 (by decide)
        have e_231 : gI σ_s_230 a 11 = a110 := (hM9.i (by decide)).trans e_220
        have e_232 : gI σ_s_230 a 25 = z_1 := (hM9.i (by decide)).trans e_221
        have e_233 : aF σ_s_230 (ad E a 1) = f1 := (hM9.a (by decide) (by decide)).trans e_222
        have e_234 : gI σ_s_230 a 30 = v5q147 := (hM9.i (by decide)).trans e_223
        have e_235 : gI σ_s_230 a 13 = z_224 := (hM9.i (by decide)).trans e_225
        have e_236 : gI σ_s_230 a 17 = z_226 := (hM9.i (by decide)).trans e_227
        have e_237 : gI σ_s_230 a 28 = z_228 := (hM9.i (by decide)).trans e_229
        replace hsr := hsr.mv hM9 (by decide) (by decide) (by decide) (by decide) (by decide)
        refine lv_iinc (v := I (v5q147 + 1)) (lv' := [(5, .int (I (v5q147 + 1))), (0, .ref a), (1, .int (I a170)), (2, .int (I z_4)), (4, .int (I z_25))]) hx hb dX11_filter_95 hl (k := 4) rfl (I_add _ _) (by decide) rfl (fun ls hl => ?_)
        refine lv_goto (tgt := 47) hx hb dX11_filter_98 (by decide) ?_
        exact ihJ_148 (v5q147 + 1) σ_s_230 _ _ _ (by first | (dsimp only; omega) | omega) ⟨hO, hF, hM, hsr, hH, hS, lv_sub hl [1, 2, 3, 4, 0] rfl, ⟨by first | (dsimp only; omega) | omega, by first | (dsimp only; omega) | omega⟩, by first | (dsimp only; omega) | omega, by first | (dsimp only; omega) | omega, by first | (dsimp only; omega) | omega, by first | (dsimp only; omega) | omega, e_231, e_232, e_233⟩
      · replace c_185 := (I_eq (a := z_184) (b := 0) rz_184 (show rng 0 from ⟨by decide, by decide⟩)).mp c_185
        refine lv_goto (tgt := 95) hx hb dX11_filter_66 (by decide) ?_
        refine lv_iinc (v := I (v5q147 + 1)) (lv' := [(5, .int (I (v5q147 + 1))), (0, .ref a), (1, .int (I a170)), (2, .int (I z_4)), (4, .int (I z_25))]) hx hb dX11_filter_95 hl (k := 4) rfl (I_add _ _) (by decide) rfl (fun ls hl => ?_)
        refine lv_goto (tgt := 47) hx hb dX11_filter_98 (by decide) ?_
        exact ihJ_148 (v5q147 + 1) σ_J_148 _ _ _ (by first | (dsimp only; omega) | omega) ⟨hO, hF, hM, hsr, hH, hS, lv_sub hl [1, 2, 3, 4, 0] rfl, ⟨by first | (dsimp only; omega) | omega, by first | (dsimp only; omega) | omega⟩, by first | (dsimp only; omega) | omega, by first | (dsimp only; omega) | omega, by first | (dsimp only; omega) | omega, by first | (dsimp only; omega) | omega, J_148_4, J_148_5, J_148_6⟩
  · replace c_3 := (I_eq (a := z_1) (b := 0) rz_1 (show rng 0 from ⟨by decide, by decide⟩)).mp c_3
    refine lv_aload_n hx hb dX11_filter_7 rfl (lv_at hl 0 rfl) ?_
    refine lv_iconst (v := I (-1)) hx hb dX11_filter_8 (by decide) ?_
    refine ok.putJ hO h_a k13_30 (show rng (-1) from ⟨by decide, by decide⟩) (by omega) (by omega) (fun _ he hl9 kk => th_put (ci := 11) (v := .int (I (-1))) (ty := .int) (C := RX11) (T := TX11) (N := 66) hx hb hts inX11 tyX11 tyX11_ok nmX11 hown hK hH hS h00 he rfl 30 (by decide) fl3 rfl (by decide +kernel) rfl rfl hl9 dX11_filter_9 kk) (fun σ_s_238 H locs hO hF9 hM9 hg9 ha9 hH hS => ?_)
    replace hM := hM.tu hM9 (by decide)
    replace hF := hF.tu hF9 (by decide)
    have e_239 : aF σ_s_238 (ad E a 1) = f1 := (hM9.a (by decide) (by decide)).trans ef1
    have e_240 : gI σ_s_238 a 11 = a110 := (hM9.i (by decide)).trans ea110
    have e_241 : gI σ_s_238 a 13 = a130 := (hM9.i (by decide)).trans ea130
    have e_242 : gI σ_s_238 a 14 = a140 := (hM9.i (by decide)).trans ea140
    have e_243 : gI σ_s_238 a 17 = a170 := (hM9.i (by decide)).trans ea170
    have e_244 : gI σ_s_238 a 19 = a190 := (hM9.i (by decide)).trans ea190
    have e_245 : gI σ_s_238 a 28 = a280 := (hM9.i (by decide)).trans ea280
    have e_246 : gI σ_s_238 a 25 = z_1 := (hM9.i (by decide)).trans e_2
    replace hsr := hsr.mv hM9 (by decide) (by decide) (by decide) (by decide) (by decide)
    have e_247 := hg9
    refine lv_aload_n hx hb dX11_filter_12 rfl (lv_at hl 0 rfl) ?_
    obtain ⟨_, hc_248⟩ := hO.cell h_a (by decide) (ci := 11) rfl
    refine th_calli (va_runV (As := []) (rest := []) ⟨hx, hb, hml, hown, hts⟩ (m_cond 6 (m_atom 6) l G y b0 σ_s_238 E hO a h_a f1 e_239 Bf hsr (hy0) (by omega) (by omega) (by omega) (by omega) (by omega)) (cwV 0 hts gX11_filter_X11_cond rfl rfl rfl (by decide +kernel) ⟨Nat.le_of_ble_eq_true rfl, Nat.le_of_ble_eq_true rfl⟩) (th_PV hK hH rfl hc_248) rfl rfl hl.1 rfl (lv_room (Nat.le_of_ble_eq_true rfl)) dX11_filter_13 ⟨Nat.le_of_ble_eq_true rfl, Nat.le_of_ble_eq_true rfl⟩) hS (fun z_251 σ_s_250 H locs rz_251 hw_249 hH hS => ?_)
    obtain ⟨hO9, hF9, hM9, bhw_249, hw_249⟩ := hw_249
    replace hM := hM.tu hM9 (by decide)
    replace hF := hF.tu hF9 (by decide)
    have e_252 : aF σ_s_250 (ad E a 1) = f1 := (hM9.a (by decide) (by decide)).trans e_239
    have e_253 : gI σ_s_250 a 11 = a110 := (hM9.i (by decide)).trans e_240
    have e_254 : gI σ_s_250 a 25 = z_1 := (hM9.i (by decide)).trans e_246
    have e_255 : gI σ_s_250 a 30 = (-1) := (hM9.i (by decide)).trans e_247
    replace hsr := hsr.mv hM9 (by decide) (by decide) (by decide) (by decide) (by decide)
    replace hO := hO9
    have hw_249 : ((gI σ_s_238 a 13 ≤ gI σ_s_250 a 13 ∧ gI σ_s_250 a 13 ≤ gI σ_s_238 a 11 ∧ 0 ≤ gI σ_s_250 a 17 ∧ gI σ_s_250 a 17 ≤ gI σ_s_250 a 13) ∧ pgo (gI σ_s_250 a 19) (gI σ_s_250 a 14) (gI σ_s_238 a 13) (gI σ_s_250 a 13)) ∧ gI σ_s_250 a 28 = gI σ_s_238 a 28 := hw_249
    refine lv_istore_n (lv' := [(1, .int (I z_251)), (0, .ref a)]) hx hb dX11_filter_16 rfl hl (by decide) rfl (fun ls hl => ?_)
    exact th_vret hx hb hr hlocks hH hS ⟨hO, hF, hM, by omega⟩ dX11_filter_17

set_option maxHeartbeats 4000000 in
set_option maxRecDepth 100000 in
theorem w_copySet (l : Launch) (G : va_G) (y : Nat → ClassId) (b0 : Nat) (σ : th_M) (E : th_E) (hO : ok y E σ) (a : Nat) (h_a : kd E a = 13) : Met l yX11_copySet wsX11_copySet ({ frames := 0, cells := 0, slots := 0, locals := 0 }) (th_P G y b0 σ [.ref (ad E a 23), .ref (ad E a 24)]) (th_Qv G b0 (fun σ1 => ok y E σ1 ∧ fr [13] E σ σ1 ∧ fm [23] E σ σ1 a ∧ (True))) 0 0 (th_A b0) := by
  refine Met.ofW (cc := cX11_copySet) (maxL := 3) (ret := none) (by decide) rfl ?_
  intro p e s m args below meth c s₁ B hml hv
  obtain ⟨rfl, hH, hK⟩ := hv
  have hx := B.exec
  have hb := B.bytes
  have hr := B.returns
  have hts := atoms_spec (ws := wsX11_copySet) B.pre
  have hown : s.vm.findClass RX11 = some m.cls := findClass_of_methodNamed B.named
  have hlocks := B.notSynchronized
  have h00 : b0 ≤ s.heap.size := hH.1
  have hS : va_S (th_A b0) s.heap s.heap [] := va_S.rf
  have hF : fr [13] E σ σ := fr.rf
  have hM : fm [23] E σ σ a := fm.rf
  have hl := lv_entry ([.ref (ad E a 23), .ref (ad E a 24)]) (n := 3) (Nat.le_of_ble_eq_true rfl)
  rw [lg_entry_eq]
  generalize (lg_sl ([.ref (ad E a 23), .ref (ad E a 24)]) ++ List.replicate (3 - (lg_sl ([.ref (ad E a 23), .ref (ad E a 24)])).length) Slot.unset).toArray = ls at hl ⊢
  have hl : lv_has ls 3 [(0, .ref (ad E a 23)), (1, .ref (ad E a 24))] := hl
  refine lv_iconst (v := I 0) hx hb dX11_copySet_0 (by decide) ?_
  refine lv_istore_n (lv' := [(2, .int (I 0)), (0, .ref (ad E a 23)), (1, .ref (ad E a 24))]) hx hb dX11_copySet_1 rfl hl (by decide) rfl (fun ls hl => ?_)
  refine th_loop (α := Int) (pc := 2) (fun x9 => (60 - x9).toNat) (fun x9 σ9 H9 l9 ls9 => ok y E σ9 ∧ fr [13] E σ σ9 ∧ fm [23] E σ σ9 a ∧ th_H G b0 σ9 H9 ∧ va_S (th_A b0) s.heap H9 l9 ∧ lv_has ls9 3 [(0, .ref (ad E a 23)), (1, .ref (ad E a 24)), (2, .int (I x9))] ∧ rng x9 ∧ (0 ≤ x9) ∧ (x9 ≤ 60)) ?_ (0) σ _ _ _ ⟨hO, hF, hM, hH, hS, lv_sub hl [1, 2, 0] rfl, (show rng 0 from ⟨by decide, by decide⟩), by first | (dsimp only; omega) | omega, by first | (dsimp only; omega) | omega⟩
  intro x9 σ_J_6 H locs ls hI9 ihJ_6
  obtain ⟨v2q5, ex9⟩ : ∃ z, z = x9 := ⟨_, rfl⟩
  subst ex9
  obtain ⟨hO, hF, hM, hH, hS, hl, rv2q5, J_6_0, J_6_1⟩ := hI9
  have hl : lv_has ls 3 [(0, .ref (ad E a 23)), (1, .ref (ad E a 24)), (2, .int (I v2q5))] := hl
  have rv2q5 : rng v2q5 := rv2q5
  have J_6_0 : 0 ≤ v2q5 := J_6_0
  have J_6_1 : v2q5 ≤ 60 := J_6_1
  refine lv_iload_n hx hb dX11_copySet_2 rfl (lv_at hl 2 rfl) ?_
  refine lv_aload_n hx hb dX11_copySet_3 rfl (lv_at hl 0 rfl) ?_
  refine ok_alenz hx hb hK hH hO h_a (by decide) k13_23 (by decide) dX11_copySet_4 ?_
  refine lv_icmp_ge (tgt := 20) hx hb dX11_copySet_5 (by decide) (fun c_7 => ?_) (fun c_7 => ?_)
  · replace c_7 := (I_le (a := 60) (b := v2q5) (show rng 60 from ⟨by decide, by decide⟩) rv2q5).mp c_7
    exact th_vret hx hb hr hlocks hH hS ⟨hO, hF, hM, trivial⟩ dX11_copySet_20
  · replace c_7 := mt (I_le (a := 60) (b := v2q5) (show rng 60 from ⟨by decide, by decide⟩) rv2q5).mpr c_7
    refine lv_aload_n hx hb dX11_copySet_8 rfl (lv_at hl 0 rfl) ?_
    refine lv_iload_n hx hb dX11_copySet_9 rfl (lv_at hl 2 rfl) ?_
    refine lv_aload_n hx hb dX11_copySet_10 rfl (lv_at hl 1 rfl) ?_
    refine lv_iload_n hx hb dX11_copySet_11 rfl (lv_at hl 2 rfl) ?_
    refine m_zald hx hb hK hH hO h_a k13_24 rv2q5 (by omega) (by omega) dX11_copySet_12 (fun z_8 rz_8 uz_8 => ?_)
    refine m_zast hx hb hK hH hS h00 hO h_a k13_23 (by decide) rv2q5 (by omega) (by omega) (by omega) dX11_copySet_13 (fun σ_s_9 H locs hO hF9 hM9 hH hS => ?_)
    replace hM := hM.tu hM9 (by decide)
    replace hF := hF.tu hF9 (by decide)
    refine lv_iinc (v := I (v2q5 + 1)) (lv' := [(2, .int (I (v2q5 + 1))), (0, .ref (ad E a 23)), (1, .ref (ad E a 24))]) hx hb dX11_copySet_14 hl (k := 2) rfl (I_add _ _) (by decide) rfl (fun ls hl => ?_)
    refine lv_goto (tgt := 2) hx hb dX11_copySet_17 (by decide) ?_
    exact ihJ_6 (v2q5 + 1) σ_s_9 _ _ _ (by first | (dsimp only; omega) | omega) ⟨hO, hF, hM, hH, hS, lv_sub hl [1, 2, 0] rfl, ⟨by first | (dsimp only; omega) | omega, by first | (dsimp only; omega) | omega⟩, by first | (dsimp only; omega) | omega, by first | (dsimp only; omega) | omega⟩

set_option maxHeartbeats 4000000 in
set_option maxRecDepth 100000 in
theorem m_readStep (l : Launch) (G : va_G) (y : Nat → ClassId) (b0 : Nat) (σ : th_M) (E : th_E) (hO : ok y E σ) (a : Nat) (h_a : kd E a = 13) (f1 : Nat → Int32) (ef1 : aF σ (ad E a 1) = f1) (Bf : Int → Int) (hsr : sr E σ a Bf) (hy0 : wf f1 0 (mS f1 0)) (hy1 : 1 ≤ mS f1 0 ∧ mS f1 0 ≤ 60) (hy2 : 0 ≤ gI σ a 17 ∧ gI σ a 17 ≤ gI σ a 13 ∧ gI σ a 13 ≤ gI σ a 11 ∧ gI σ a 11 ≤ 400) (hy3 : gI σ a 28 = 0) (hy4 : 0 ≤ gI σ a 26 ∧ gI σ a 26 ≤ 8) : Met l yX11_readStep wsX11_readStep ({ frames := 48, cells := 0, slots := 0, locals := 1635 }) (th_P G y b0 σ [.ref a]) (th_Qv G b0 (fun σ1 => ok y E σ1 ∧ fr [13] E σ σ1 ∧ fm [13, 14, 15, 16, 17, 18, 19, 20, 27, 28, 23, 24, 26, 30] E σ σ1 a ∧ ((0 ≤ gI σ1 a 17 ∧ gI σ1 a 17 ≤ gI σ1 a 13 ∧ gI σ1 a 13 ≤ gI σ a 11 ∧ gI σ1 a 28 = 0) ∧ ((¬ gI σ1 a 19 = 0 ∧ gI σ1 a 26 = gI σ a 26) ∨ (gI σ1 a 26 = gI σ a 26 + 1 ∧ gI σ1 a 26 ≤ 8))))) 0 0 (th_A b0) := by
  refine Met.ofW (cc := cX11_readStep) (maxL := 3) (ret := none) (by decide) rfl ?_
  intro p e s m args below meth c s₁ B hml hv
  obtain ⟨rfl, hH, hK⟩ := hv
  have hx := B.exec
  have hb := B.bytes
  have hr := B.returns
  have hts := atoms_spec (ws := wsX11_readStep) B.pre
  have hown : s.vm.findClass RX11 = some m.cls := findClass_of_methodNamed B.named
  have hlocks := B.notSynchronized
  have h00 : b0 ≤ s.heap.size := hH.1
  have hS : va_S (th_A b0) s.heap s.heap [] := va_S.rf
  have hF : fr [13] E σ σ := fr.rf
  have hM : fm [13, 14, 15, 16, 17, 18, 19, 20, 27, 28, 23, 24, 26, 30] E σ σ a := fm.rf
  have inX11 : ∀ w ∈ wsX110, w ∈ wsX11_readStep := by decide +kernel
  have fl0 := hts (.fieldLink RX11 136 "NestQueryModel" "token" "I") (by decide +kernel)
  have fl1 := hts (.fieldLink RX11 162 "NestQueryModel" "bad" "I") (by decide +kernel)
  have fl2 := hts (.fieldLink RX11 273 "NestQueryModel" "stepsRead" "I") (by decide +kernel)
  have fl3 := hts (.fieldLink RX11 300 "NestQueryModel" "isGone" "Z") (by decide +kernel)
  have fl4 := hts (.fieldLink RX11 35 "NestQueryModel" "set" "[Z") (by decide +kernel)
  have fl5 := hts (.fieldLink RX11 39 "NestQueryModel" "to" "[Z") (by decide +kernel)
  have hl := lv_entry ([.ref a]) (n := 3) (Nat.le_of_ble_eq_true rfl)
  rw [lg_entry_eq]
  generalize (lg_sl ([.ref a]) ++ List.replicate (3 - (lg_sl ([.ref a])).length) Slot.unset).toArray = ls at hl ⊢
  have hl : lv_has ls 3 [(0, .ref a)] := hl
  obtain ⟨a110, ea110, ra110, la110, ua110⟩ := hO.gi h_a (by decide) k13_11
  obtain ⟨a130, ea130, ra130, la130, ua130⟩ := hO.gi h_a (by decide) k13_13
  obtain ⟨a140, ea140, ra140, la140, ua140⟩ := hO.gi h_a (by decide) k13_14
  obtain ⟨a170, ea170, ra170, la170, ua170⟩ := hO.gi h_a (by decide) k13_17
  obtain ⟨a190, ea190, ra190, la190, ua190⟩ := hO.gi h_a (by decide) k13_19
  obtain ⟨a260, ea260, ra260, la260, ua260⟩ := hO.gi h_a (by decide) k13_26
  obtain ⟨a280, ea280, ra280, la280, ua280⟩ := hO.gi h_a (by decide) k13_28
  refine lv_aload_n hx hb dX11_readStep_0 rfl (lv_at hl 0 rfl) ?_
  refine ok.getIc hO h_a (by decide) k13_14 ea140 (fun _ _ he hv kk => th_get (ci := 11) (C := RX11) (T := TX11) (N := 66) hx hb hts inX11 hown hK hH he rfl 14 (by decide) fl0 hv dX11_readStep_1 kk) ?_
  refine lv_iconst (v := I 4) hx hb dX11_readStep_4 (by decide) ?_
  refine th_join (α := Int) (J := 40) (stk := fun x9 => [.int (I x9)]) (fun x9 σ9 H9 l9 ls9 => σ9 = σ ∧ th_H G b0 σ9 H9 ∧ va_S (th_A b0) s.heap H9 l9 ∧ lv_has ls9 3 [(0, .ref a)] ∧ rng x9 ∧ (x9 = 0 ∨ x9 = 1)) ?_ (fun jK_18 => ?_)
  · intro x9 σ_K_18 H locs ls hI9
    obtain ⟨w0q17, ex9⟩ : ∃ z, z = x9 := ⟨_, rfl⟩
    subst ex9
    obtain ⟨eK_18, hH, hS, hl, rw0q17, K_18_0⟩ := hI9
    replace eK_18 := eK_18.symm
    subst eK_18
    have hl : lv_has ls 3 [(0, .ref a)] := hl
    have rw0q17 : rng w0q17 := rw0q17
    have K_18_0 : w0q17 = 0 ∨ w0q17 = 1 := K_18_0
    refine lv_istore_n (lv' := [(1, .int (I w0q17)), (0, .ref a)]) hx hb dX11_readStep_40 rfl hl (by decide) rfl (fun ls hl => ?_)
    refine lv_iload_n hx hb dX11_readStep_41 rfl (lv_at hl 0 rfl) ?_
    refine th_join (α := Unit) (J := 50) (stk := fun x9 => []) (fun x9 σ9 H9 l9 ls9 => ok y E σ9 ∧ fr [13] E σ σ9 ∧ fm [13, 14, 15, 16, 17, 18, 19, 20, 27, 28, 23, 24, 26, 30] E σ σ9 a ∧ sr E σ9 a Bf ∧ th_H G b0 σ9 H9 ∧ va_S (th_A b0) s.heap H9 l9 ∧ lv_has ls9 3 [(0, .ref a)] ∧ (gI σ9 a 28 = 0) ∧ (gI σ9 a 26 = gI σ a 26) ∧ (0 ≤ gI σ9 a 17 ∧ gI σ9 a 17 ≤ gI σ9 a 13 ∧ gI σ9 a 13 ≤ gI σ a 11) ∧ (gI σ9 a 11 = a110) ∧ (gI σ9 a 13 = a130) ∧ (gI σ9 a 14 = a140) ∧ (gI σ9 a 17 = a170) ∧ (gI σ9 a 26 = a260) ∧ (gI σ9 a 28 = a280) ∧ (aF σ9 (ad E a 1) = f1)) ?_ (fun jK_31 => ?_)
    · intro x9 σ_K_31 H locs ls hI9
      obtain ⟨hO, hF, hM, hsr, hH, hS, hl, K_31_0, K_31_1, K_31_2, K_31_3, K_31_4, K_31_5, K_31_6, K_31_7, K_31_8, K_31_9⟩ := hI9
      have hl : lv_has ls 3 [(0, .ref a)] := hl
      have K_31_0 : gI σ_K_31 a 28 = 0 := K_31_0
      have K_31_1 : gI σ_K_31 a 26 = gI σ a 26 := K_31_1
      have K_31_2 : 0 ≤ gI σ_K_31 a 17 ∧ gI σ_K_31 a 17 ≤ gI σ_K_31 a 13 ∧ gI σ_K_31 a 13 ≤ gI σ a 11 := K_31_2
      have K_31_3 : gI σ_K_31 a 11 = a110 := K_31_3
      have K_31_4 : gI σ_K_31 a 13 = a130 := K_31_4
      have K_31_5 : gI σ_K_31 a 14 = a140 := K_31_5
      have K_31_6 : gI σ_K_31 a 17 = a170 := K_31_6
      have K_31_7 : gI σ_K_31 a 26 = a260 := K_31_7
      have K_31_8 : gI σ_K_31 a 28 = a280 := K_31_8
      have K_31_9 : aF σ_K_31 (ad E a 1) = f1 := K_31_9
      refine lv_aload_n hx hb dX11_readStep_50 rfl (lv_at hl 0 rfl) ?_
      refine ok.getI hO h_a (by decide) k13_19 (fun _ _ he hv kk => th_get (ci := 11) (C := RX11) (T := TX11) (N := 66) hx hb hts inX11 hown hK hH he rfl 19 (by decide) fl1 hv dX11_readStep_51 kk) (fun z_32 e_33 rz_32 lz_32 uz_32 => ?_)
      refine th_join (α := Unit) (J := 71) (stk := fun x9 => []) (fun x9 σ9 H9 l9 ls9 => ok y E σ9 ∧ fr [13] E σ σ9 ∧ fm [13, 14, 15, 16, 17, 18, 19, 20, 27, 28, 23, 24, 26, 30] E σ σ9 a ∧ sr E σ9 a Bf ∧ th_H G b0 σ9 H9 ∧ va_S (th_A b0) s.heap H9 l9 ∧ lv_has ls9 3 [(0, .ref a)] ∧ (gI σ9 a 28 = 0) ∧ (gI σ9 a 26 = gI σ a 26) ∧ (0 ≤ gI σ9 a 17 ∧ gI σ9 a 17 ≤ gI σ9 a 13 ∧ gI σ9 a 13 ≤ gI σ a 11) ∧ (¬ gI σ9 a 19 = 0 ∨ gI σ9 a 26 ≤ 7) ∧ (gI σ9 a 11 = a110) ∧ (gI σ9 a 13 = a130) ∧ (gI σ9 a 14 = a140) ∧ (gI σ9 a 17 = a170) ∧ (gI σ9 a 26 = a260) ∧ (gI σ9 a 28 = a280) ∧ (aF σ9 (ad E a 1) = f1)) ?_ (fun jK_47 => ?_)
      · intro x9 σ_K_47 H locs ls hI9
        obtain ⟨hO, hF, hM, hsr, hH, hS, hl, K_47_0, K_47_1, K_47_2, K_47_3, K_47_4, K_47_5, K_47_6, K_47_7, K_47_8, K_47_9, K_47_10⟩ := hI9
        have hl : lv_has ls 3 [(0, .ref a)] := hl
        have K_47_0 : gI σ_K_47 a 28 = 0 := K_47_0
        have K_47_1 : gI σ_K_47 a 26 = gI σ a 26 := K_47_1
        have K_47_2 : 0 ≤ gI σ_K_47 a 17 ∧ gI σ_K_47 a 17 ≤ gI σ_K_47 a 13 ∧ gI σ_K_47 a 13 ≤ gI σ a 11 := K_47_2
        have K_47_3 : ¬ gI σ_K_47 a 19 = 0 ∨ gI σ_K_47 a 26 ≤ 7 := K_47_3
        have K_47_4 : gI σ_K_47 a 11 = a110 := K_47_4
        have K_47_5 : gI σ_K_47 a 13 = a130 := K_47_5
        have K_47_6 : gI σ_K_47 a 14 = a140 := K_47_6
        have K_47_7 : gI σ_K_47 a 17 = a170 := K_47_7
        have K_47_8 : gI σ_K_47 a 26 = a260 := K_47_8
        have K_47_9 : gI σ_K_47 a 28 = a280 := K_47_9
        have K_47_10 : aF σ_K_47 (ad E a 1) = f1 := K_47_10
        refine lv_aload_n hx hb dX11_readStep_71 rfl (lv_at hl 0 rfl) ?_
        refine ok.getI hO h_a (by decide) k13_19 (fun _ _ he hv kk => th_get (ci := 11) (C := RX11) (T := TX11) (N := 66) hx hb hts inX11 hown hK hH he rfl 19 (by decide) fl1 hv dX11_readStep_72 kk) (fun z_48 e_49 rz_48 lz_48 uz_48 => ?_)
        refine lv_if_eq (tgt := 79) hx hb dX11_readStep_75 (by decide) (fun c_50 => ?_) (fun c_50 => ?_)
        · replace c_50 := (I_eq (a := z_48) (b := 0) rz_48 (show rng 0 from ⟨by decide, by decide⟩)).mp c_50
          refine lv_iconst (v := I 0) hx hb dX11_readStep_79 (by decide) ?_
          refine lv_istore_n (lv' := [(2, .int (I 0)), (0, .ref a)]) hx hb dX11_readStep_80 rfl hl (by decide) rfl (fun ls hl => ?_)
          refine th_loop (α := Int) (pc := 81) (fun x9 => (60 - x9).toNat) (fun x9 σ9 H9 l9 ls9 => ok y E σ9 ∧ fr [13] E σ σ9 ∧ fm [13, 14, 15, 16, 17, 18, 19, 20, 27, 28, 23, 24, 26, 30] E σ σ9 a ∧ sr E σ9 a Bf ∧ th_H G b0 σ9 H9 ∧ va_S (th_A b0) s.heap H9 l9 ∧ lv_has ls9 3 [(0, .ref a), (2, .int (I x9))] ∧ rng x9 ∧ (0 ≤ x9) ∧ (x9 ≤ 60) ∧ (gI σ9 a 11 = a110) ∧ (gI σ9 a 13 = a130) ∧ (gI σ9 a 14 = a140) ∧ (gI σ9 a 17 = a170) ∧ (gI σ9 a 26 = a260) ∧ (gI σ9 a 28 = a280) ∧ (gI σ9 a 19 = z_48) ∧ (aF σ9 (ad E a 1) = f1)) ?_ (0) σ_K_47 _ _ _ ⟨hO, hF, hM, hsr, hH, hS, lv_sub hl [1, 0] rfl, (show rng 0 from ⟨by decide, by decide⟩), by first | (dsimp only; omega) | omega, by first | (dsimp only; omega) | omega, K_47_4, K_47_5, K_47_6, K_47_7, K_47_8, K_47_9, e_49, K_47_10⟩
          intro x9 σ_J_63 H locs ls hI9 ihJ_63
          obtain ⟨v2q62, ex9⟩ : ∃ z, z = x9 := ⟨_, rfl⟩
          subst ex9
          obtain ⟨hO, hF, hM, hsr, hH, hS, hl, rv2q62, J_63_0, J_63_1, J_63_2, J_63_3, J_63_4, J_63_5, J_63_6, J_63_7, J_63_8, J_63_9⟩ := hI9
          have hl : lv_has ls 3 [(0, .ref a), (2, .int (I v2q62))] := hl
          have rv2q62 : rng v2q62 := rv2q62
          have J_63_0 : 0 ≤ v2q62 := J_63_0
          have J_63_1 : v2q62 ≤ 60 := J_63_1
          have J_63_2 : gI σ_J_63 a 11 = a110 := J_63_2
          have J_63_3 : gI σ_J_63 a 13 = a130 := J_63_3
          have J_63_4 : gI σ_J_63 a 14 = a140 := J_63_4
          have J_63_5 : gI σ_J_63 a 17 = a170 := J_63_5
          have J_63_6 : gI σ_J_63 a 26 = a260 := J_63_6
          have J_63_7 : gI σ_J_63 a 28 = a280 := J_63_7
          have J_63_8 : gI σ_J_63 a 19 = z_48 := J_63_8
          have J_63_9 : aF σ_J_63 (ad E a 1) = f1 := J_63_9
          refine lv_iload_n hx hb dX11_readStep_81 rfl (lv_at hl 1 rfl) ?_
          refine lv_bipush (v := I 60) hx hb dX11_readStep_82 (by decide) ?_
          refine lv_icmp_ge (tgt := 100) hx hb dX11_readStep_84 (by decide) (fun c_64 => ?_) (fun c_64 => ?_)
          · replace c_64 := (I_le (a := 60) (b := v2q62) (show rng 60 from ⟨by decide, by decide⟩) rv2q62).mp c_64
            refine lv_aload_n hx hb dX11_readStep_100 rfl (lv_at hl 0 rfl) ?_
            refine ok.getIc hO h_a (by decide) k13_14 J_63_4 (fun _ _ he hv kk => th_get (ci := 11) (C := RX11) (T := TX11) (N := 66) hx hb hts inX11 hown hK hH he rfl 14 (by decide) fl0 hv dX11_readStep_101 kk) ?_
            refine lv_iconst (v := I 4) hx hb dX11_readStep_104 (by decide) ?_
            refine th_join (α := Unit) (J := 179) (stk := fun x9 => []) (fun x9 σ9 H9 l9 ls9 => ok y E σ9 ∧ fr [13] E σ σ9 ∧ fm [13, 14, 15, 16, 17, 18, 19, 20, 27, 28, 23, 24, 26, 30] E σ σ9 a ∧ sr E σ9 a Bf ∧ th_H G b0 σ9 H9 ∧ va_S (th_A b0) s.heap H9 l9 ∧ lv_has ls9 3 [(0, .ref a)] ∧ (gI σ9 a 28 = 0) ∧ (gI σ9 a 26 ≤ 7) ∧ (0 ≤ gI σ9 a 17 ∧ gI σ9 a 17 ≤ gI σ9 a 13 ∧ gI σ9 a 13 ≤ gI σ a 11) ∧ (gI σ9 a 26 = gI σ a 26) ∧ (gI σ9 a 11 = a110) ∧ (gI σ9 a 26 = a260) ∧ (aF σ9 (ad E a 1) = f1)) ?_ (fun jK_159 => ?_)
            · intro x9 σ_K_159 H locs ls hI9
              obtain ⟨hO, hF, hM, hsr, hH, hS, hl, K_159_0, K_159_1, K_159_2, K_159_3, K_159_4, K_159_5, K_159_6⟩ := hI9
              have hl : lv_has ls 3 [(0, .ref a)] := hl
              have K_159_0 : gI σ_K_159 a 28 = 0 := K_159_0
              have K_159_1 : gI σ_K_159 a 26 ≤ 7 := K_159_1
              have K_159_2 : 0 ≤ gI σ_K_159 a 17 ∧ gI σ_K_159 a 17 ≤ gI σ_K_159 a 13 ∧ gI σ_K_159 a 13 ≤ gI σ a 11 := K_159_2
              have K_159_3 : gI σ_K_159 a 26 = gI σ a 26 := K_159_3
              have K_159_4 : gI σ_K_159 a 11 = a110 := K_159_4
              have K_159_5 : gI σ_K_159 a 26 = a260 := K_159_5
              have K_159_6 : aF σ_K_159 (ad E a 1) = f1 := K_159_6
              refine lv_aload_n hx hb dX11_readStep_179 rfl (lv_at hl 0 rfl) ?_
              refine lv_dup hx hb dX11_readStep_180 rfl ?_
              refine ok.getIc hO h_a (by decide) k13_26 K_159_5 (fun _ _ he hv kk => th_get (ci := 11) (C := RX11) (T := TX11) (N := 66) hx hb hts inX11 hown hK hH he rfl 26 (by decide) fl2 hv dX11_readStep_181 kk) ?_
              refine lv_iconst (v := I 1) hx hb dX11_readStep_184 (by decide) ?_
              refine lv_iadd hx hb dX11_readStep_185 ?_
              refine nq_top (I_add _ _) ?_
              obtain ⟨z_160, e_161, rz_160, lz_160, uz_160⟩ := hO.gi h_a (by decide) k13_13
              obtain ⟨z_162, e_163, rz_162, lz_162, uz_162⟩ := hO.gi h_a (by decide) k13_17
              obtain ⟨z_164, e_165, rz_164, lz_164, uz_164⟩ := hO.gi h_a (by decide) k13_19
              obtain ⟨z_166, e_167, rz_166, lz_166, uz_166⟩ := hO.gi h_a (by decide) k13_28
              refine ok.putJ hO h_a k13_26 ⟨by omega, by omega⟩ (by omega) (by omega) (fun _ he hl9 kk => th_put (ci := 11) (v := .int (I (a260 + 1))) (ty := .int) (C := RX11) (T := TX11) (N := 66) hx hb hts inX11 tyX11 tyX11_ok nmX11 hown hK hH hS h00 he rfl 26 (by decide) fl2 rfl (by decide +kernel) rfl rfl hl9 dX11_readStep_186 kk) (fun σ_s_168 H locs hO hF9 hM9 hg9 ha9 hH hS => ?_)
              replace hM := hM.tu hM9 (by decide)
              replace hF := hF.tu hF9 (by decide)
              have e_169 : gI σ_s_168 a 11 = a110 := (hM9.i (by decide)).trans K_159_4
              have e_170 : aF σ_s_168 (ad E a 1) = f1 := (hM9.a (by decide) (by decide)).trans K_159_6
              have e_171 : gI σ_s_168 a 13 = z_160 := (hM9.i (by decide)).trans e_161
              have e_172 : gI σ_s_168 a 17 = z_162 := (hM9.i (by decide)).trans e_163
              have e_173 : gI σ_s_168 a 19 = z_164 := (hM9.i (by decide)).trans e_165
              have e_174 : gI σ_s_168 a 28 = z_166 := (hM9.i (by decide)).trans e_167
              replace hsr := hsr.mv hM9 (by decide) (by decide) (by decide) (by decide) (by decide)
              have e_175 := hg9
              refine lv_aload_n hx hb dX11_readStep_189 rfl (lv_at hl 0 rfl) ?_
              refine ok.getI hO h_a (by decide) k13_25 (fun _ _ he hv kk => th_get (ci := 11) (C := RX11) (T := TX11) (N := 66) hx hb hts inX11 hown hK hH he rfl 25 (by decide) fl3 hv dX11_readStep_190 kk) (fun z_176 e_177 rz_176 lz_176 uz_176 => ?_)
              refine lv_if_eq (tgt := 207) hx hb dX11_readStep_193 (by decide) (fun c_178 => ?_) (fun c_178 => ?_)
              · replace c_178 := (I_eq (a := z_176) (b := 0) rz_176 (show rng 0 from ⟨by decide, by decide⟩)).mp c_178
                exact th_vret hx hb hr hlocks hH hS ⟨hO, hF, hM, ⟨by omega, by omega⟩⟩ dX11_readStep_207
              · replace c_178 := mt (I_eq (a := z_176) (b := 0) rz_176 (show rng 0 from ⟨by decide, by decide⟩)).mpr c_178
                refine lv_aload_n hx hb dX11_readStep_196 rfl (lv_at hl 0 rfl) ?_
                refine ok.getR hO h_a (by decide) k13_23 (by decide) (fun _ _ he hv kk => th_get (ci := 11) (C := RX11) (T := TX11) (N := 66) hx hb hts inX11 hown hK hH he rfl 23 (by decide) fl4 hv dX11_readStep_197 kk) ?_
                refine lv_aload_n hx hb dX11_readStep_200 rfl (lv_at hl 0 rfl) ?_
                refine ok.getR hO h_a (by decide) k13_24 (by decide) (fun _ _ he hv kk => th_get (ci := 11) (C := RX11) (T := TX11) (N := 66) hx hb hts inX11 hown hK hH he rfl 24 (by decide) fl5 hv dX11_readStep_201 kk) ?_
                refine th_callv (va_runS (As := [.ref (ad E a 23), .ref (ad E a 24)]) (rest := []) ⟨hx, hb, hml, hown, hts⟩ (w_copySet l G y b0 σ_s_168 E hO a h_a) (va_cwS 2 hts gX11_readStep_X11_copySet rfl rfl rfl (by decide +kernel) ⟨Nat.le_of_ble_eq_true rfl, Nat.le_of_ble_eq_true rfl⟩) (th_PS hK hH) rfl rfl hl.1 rfl (lv_room (Nat.le_of_ble_eq_true rfl)) dX11_readStep_204 ⟨Nat.le_of_ble_eq_true rfl, Nat.le_of_ble_eq_true rfl⟩) hS (fun σ_s_180 H locs hw_179 hH hS => ?_)
                obtain ⟨hO9, hF9, hM9, hw_179⟩ := hw_179
                replace hM := hM.tu hM9 (by decide)
                replace hF := hF.tu hF9 (by decide)
                have e_181 : gI σ_s_180 a 11 = a110 := (hM9.i (by decide)).trans e_169
                have e_182 : aF σ_s_180 (ad E a 1) = f1 := (hM9.a (by decide) (by decide)).trans e_170
                have e_183 : gI σ_s_180 a 13 = z_160 := (hM9.i (by decide)).trans e_171
                have e_184 : gI σ_s_180 a 17 = z_162 := (hM9.i (by decide)).trans e_172
                have e_185 : gI σ_s_180 a 19 = z_164 := (hM9.i (by decide)).trans e_173
                have e_186 : gI σ_s_180 a 28 = z_166 := (hM9.i (by decide)).trans e_174
                have e_187 : gI σ_s_180 a 26 = a260 + 1 := (hM9.i (by decide)).trans e_175
                have e_188 : gI σ_s_180 a 25 = z_176 := (hM9.i (by decide)).trans e_177
                replace hsr := hsr.mv hM9 (by decide) (by decide) (by decide) (by decide) (by decide)
                replace hO := hO9
                exact th_vret hx hb hr hlocks hH hS ⟨hO, hF, hM, ⟨by omega, by omega⟩⟩ dX11_readStep_207
            · refine lv_icmp_ne (tgt := 119) hx hb dX11_readStep_105 (by decide) (fun c_189 => ?_) (fun c_189 => ?_)
              · replace c_189 := mt (I_eq (a := a140) (b := 4) ra140 (show rng 4 from ⟨by decide, by decide⟩)).mpr c_189
                refine lv_aload_n hx hb dX11_readStep_119 rfl (lv_at hl 0 rfl) ?_
                refine lv_bipush (v := I 46) hx hb dX11_readStep_120 (by decide) ?_
                obtain ⟨_, hc_190⟩ := hO.cell h_a (by decide) (ci := 11) rfl
                refine th_calli (va_runV (As := [.int (I 46)]) (rest := []) ⟨hx, hb, hml, hown, hts⟩ (m_isMarked l G y b0 σ_J_63 E hO a h_a 46 (show rng 46 from (show rng 46 from ⟨by decide, by decide⟩)) Bf hsr (by omega)) (cwV 1 hts gX11_readStep_X11_isMarked rfl rfl rfl (by decide +kernel) ⟨Nat.le_of_ble_eq_true rfl, Nat.le_of_ble_eq_true rfl⟩) (th_PV hK hH rfl hc_190) rfl rfl hl.1 rfl (lv_room (Nat.le_of_ble_eq_true rfl)) dX11_readStep_122 ⟨Nat.le_of_ble_eq_true rfl, Nat.le_of_ble_eq_true rfl⟩) hS (fun z_193 σ_s_192 H locs rz_193 hw_191 hH hS => ?_)
                obtain ⟨e9, bhw_191, hw_191⟩ := hw_191
                replace e9 := e9.symm
                subst e9
                have hw_191 : z_193 = 0 ∨ (z_193 = 1 ∧ gI σ_J_63 a 19 = 0 ∧ gI σ_J_63 a 14 = 3 ∧ Bf (gI σ_J_63 a 17) = 46) := hw_191
                refine lv_if_eq (tgt := 139) hx hb dX11_readStep_125 (by decide) (fun c_194 => ?_) (fun c_194 => ?_)
                · replace c_194 := (I_eq (a := z_193) (b := 0) rz_193 (show rng 0 from ⟨by decide, by decide⟩)).mp c_194
                  clear hw_191
                  refine lv_aload_n hx hb dX11_readStep_139 rfl (lv_at hl 0 rfl) ?_
                  refine lv_bipush (v := I 91) hx hb dX11_readStep_140 (by decide) ?_
                  obtain ⟨_, hc_195⟩ := hO.cell h_a (by decide) (ci := 11) rfl
                  refine th_calli (va_runV (As := [.int (I 91)]) (rest := []) ⟨hx, hb, hml, hown, hts⟩ (m_isMarked l G y b0 σ_J_63 E hO a h_a 91 (show rng 91 from (show rng 91 from ⟨by decide, by decide⟩)) Bf hsr (by omega)) (cwV 1 hts gX11_readStep_X11_isMarked rfl rfl rfl (by decide +kernel) ⟨Nat.le_of_ble_eq_true rfl, Nat.le_of_ble_eq_true rfl⟩) (th_PV hK hH rfl hc_195) rfl rfl hl.1 rfl (lv_room (Nat.le_of_ble_eq_true rfl)) dX11_readStep_142 ⟨Nat.le_of_ble_eq_true rfl, Nat.le_of_ble_eq_true rfl⟩) hS (fun z_198 σ_s_197 H locs rz_198 hw_196 hH hS => ?_)
                  obtain ⟨e9, bhw_196, hw_196⟩ := hw_196
                  replace e9 := e9.symm
                  subst e9
                  have hw_196 : z_198 = 0 ∨ (z_198 = 1 ∧ gI σ_J_63 a 19 = 0 ∧ gI σ_J_63 a 14 = 3 ∧ Bf (gI σ_J_63 a 17) = 91) := hw_196
                  refine lv_if_eq (tgt := 159) hx hb dX11_readStep_145 (by decide) (fun c_199 => ?_) (fun c_199 => ?_)
                  · replace c_199 := (I_eq (a := z_198) (b := 0) rz_198 (show rng 0 from ⟨by decide, by decide⟩)).mp c_199
                    clear hw_196
                    refine lv_aload_n hx hb dX11_readStep_159 rfl (lv_at hl 0 rfl) ?_
                    obtain ⟨_, hc_200⟩ := hO.cell h_a (by decide) (ci := 11) rfl
                    refine th_callv (va_runV (As := []) (rest := []) ⟨hx, hb, hml, hown, hts⟩ (m_pass l G y b0 σ_J_63 E hO a h_a Bf hsr (by omega)) (cwV 0 hts gX11_readStep_X11_pass rfl rfl rfl (by decide +kernel) ⟨Nat.le_of_ble_eq_true rfl, Nat.le_of_ble_eq_true rfl⟩) (th_PV hK hH rfl hc_200) rfl rfl hl.1 rfl (lv_room (Nat.le_of_ble_eq_true rfl)) dX11_readStep_160 ⟨Nat.le_of_ble_eq_true rfl, Nat.le_of_ble_eq_true rfl⟩) hS (fun σ_s_202 H locs hw_201 hH hS => ?_)
                    obtain ⟨hO9, hF9, hM9, hw_201⟩ := hw_201
                    replace hM := hM.tu hM9 (by decide)
                    replace hF := hF.tu hF9 (by decide)
                    have e_203 : gI σ_s_202 a 11 = a110 := (hM9.i (by decide)).trans J_63_2
                    have e_204 : gI σ_s_202 a 26 = a260 := (hM9.i (by decide)).trans J_63_6
                    have e_205 : gI σ_s_202 a 28 = a280 := (hM9.i (by decide)).trans J_63_7
                    have e_206 : gI σ_s_202 a 19 = z_48 := (hM9.i (by decide)).trans J_63_8
                    have e_207 : aF σ_s_202 (ad E a 1) = f1 := (hM9.a (by decide) (by decide)).trans J_63_9
                    replace hsr := hsr.mv hM9 (by decide) (by decide) (by decide) (by decide) (by decide)
                    replace hO := hO9
                    have hw_201 : (gI σ_J_63 a 13 ≤ gI σ_s_202 a 13 ∧ gI σ_s_202 a 13 ≤ gI σ_J_63 a 11 ∧ 0 ≤ gI σ_s_202 a 17 ∧ gI σ_s_202 a 17 ≤ gI σ_s_202 a 13) ∧ pgo (gI σ_s_202 a 19) (gI σ_s_202 a 14) (gI σ_J_63 a 13) (gI σ_s_202 a 13) ∧ gI σ_s_202 a 19 = gI σ_J_63 a 19 := hw_201
                    refine lv_aload_n hx hb dX11_readStep_163 rfl (lv_at hl 0 rfl) ?_
                    refine lv_bipush (v := I 40) hx hb dX11_readStep_164 (by decide) ?_
                    obtain ⟨_, hc_208⟩ := hO.cell h_a (by decide) (ci := 11) rfl
                    refine th_callv (va_runV (As := [.int (I 40)]) (rest := []) ⟨hx, hb, hml, hown, hts⟩ (m_need l G y b0 σ_s_202 E hO a h_a 40 (show rng 40 from (show rng 40 from ⟨by decide, by decide⟩)) Bf hsr (by omega)) (cwV 1 hts gX11_readStep_X11_need rfl rfl rfl (by decide +kernel) ⟨Nat.le_of_ble_eq_true rfl, Nat.le_of_ble_eq_true rfl⟩) (th_PV hK hH rfl hc_208) rfl rfl hl.1 rfl (lv_room (Nat.le_of_ble_eq_true rfl)) dX11_readStep_166 ⟨Nat.le_of_ble_eq_true rfl, Nat.le_of_ble_eq_true rfl⟩) hS (fun σ_s_210 H locs hw_209 hH hS => ?_)
                    obtain ⟨hO9, hF9, hM9, hw_209⟩ := hw_209
                    replace hM := hM.tu hM9 (by decide)
                    replace hF := hF.tu hF9 (by decide)
                    have e_211 : gI σ_s_210 a 11 = a110 := (hM9.i (by decide)).trans e_203
                    have e_212 : gI σ_s_210 a 26 = a260 := (hM9.i (by decide)).trans e_204
                    have e_213 : gI σ_s_210 a 28 = a280 := (hM9.i (by decide)).trans e_205
                    have e_214 : aF σ_s_210 (ad E a 1) = f1 := (hM9.a (by decide) (by decide)).trans e_207
                    replace hsr := hsr.mv hM9 (by decide) (by decide) (by decide) (by decide) (by decide)
                    replace hO := hO9
                    have hw_209 : (gI σ_s_202 a 13 ≤ gI σ_s_210 a 13 ∧ gI σ_s_210 a 13 ≤ gI σ_s_202 a 11 ∧ 0 ≤ gI σ_s_210 a 17 ∧ gI σ_s_210 a 17 ≤ gI σ_s_210 a 13) ∧ pgo (gI σ_s_210 a 19) (gI σ_s_210 a 14) (gI σ_s_202 a 13) (gI σ_s_210 a 13) ∧ bdo (gI σ_s_202 a 19) (gI σ_s_210 a 19) := hw_209
                    refine lv_aload_n hx hb dX11_readStep_169 rfl (lv_at hl 0 rfl) ?_
                    obtain ⟨_, hc_215⟩ := hO.cell h_a (by decide) (ci := 11) rfl
                    refine th_callv (va_runV (As := []) (rest := []) ⟨hx, hb, hml, hown, hts⟩ (m_filter l G y b0 σ_s_210 E hO a h_a f1 e_214 Bf hsr (hy0) (by omega) (by omega) (by omega)) (cwV 0 hts gX11_readStep_X11_filter rfl rfl rfl (by decide +kernel) ⟨Nat.le_of_ble_eq_true rfl, Nat.le_of_ble_eq_true rfl⟩) (th_PV hK hH rfl hc_215) rfl rfl hl.1 rfl (lv_room (Nat.le_of_ble_eq_true rfl)) dX11_readStep_170 ⟨Nat.le_of_ble_eq_true rfl, Nat.le_of_ble_eq_true rfl⟩) hS (fun σ_s_217 H locs hw_216 hH hS => ?_)
                    obtain ⟨hO9, hF9, hM9, hw_216⟩ := hw_216
                    replace hM := hM.tu hM9 (by decide)
                    replace hF := hF.tu hF9 (by decide)
                    have e_218 : gI σ_s_217 a 11 = a110 := (hM9.i (by decide)).trans e_211
                    have e_219 : gI σ_s_217 a 26 = a260 := (hM9.i (by decide)).trans e_212
                    have e_220 : aF σ_s_217 (ad E a 1) = f1 := (hM9.a (by decide) (by decide)).trans e_214
                    replace hsr := hsr.mv hM9 (by decide) (by decide) (by decide) (by decide) (by decide)
                    replace hO := hO9
                    have hw_216 : 0 ≤ gI σ_s_217 a 17 ∧ gI σ_s_217 a 17 ≤ gI σ_s_217 a 13 ∧ gI σ_s_217 a 13 ≤ gI σ_s_210 a 11 ∧ gI σ_s_217 a 28 = 0 := hw_216
                    refine lv_aload_n hx hb dX11_readStep_173 rfl (lv_at hl 0 rfl) ?_
                    refine lv_bipush (v := I 41) hx hb dX11_readStep_174 (by decide) ?_
                    obtain ⟨z_221, e_222, rz_221, lz_221, uz_221⟩ := hO.gi h_a (by decide) k13_28
                    obtain ⟨_, hc_223⟩ := hO.cell h_a (by decide) (ci := 11) rfl
                    refine th_callv (va_runV (As := [.int (I 41)]) (rest := []) ⟨hx, hb, hml, hown, hts⟩ (m_need l G y b0 σ_s_217 E hO a h_a 41 (show rng 41 from (show rng 41 from ⟨by decide, by decide⟩)) Bf hsr (by omega)) (cwV 1 hts gX11_readStep_X11_need rfl rfl rfl (by decide +kernel) ⟨Nat.le_of_ble_eq_true rfl, Nat.le_of_ble_eq_true rfl⟩) (th_PV hK hH rfl hc_223) rfl rfl hl.1 rfl (lv_room (Nat.le_of_ble_eq_true rfl)) dX11_readStep_176 ⟨Nat.le_of_ble_eq_true rfl, Nat.le_of_ble_eq_true rfl⟩) hS (fun σ_s_225 H locs hw_224 hH hS => ?_)
                    obtain ⟨hO9, hF9, hM9, hw_224⟩ := hw_224
                    replace hM := hM.tu hM9 (by decide)
                    replace hF := hF.tu hF9 (by decide)
                    have e_226 : gI σ_s_225 a 11 = a110 := (hM9.i (by decide)).trans e_218
                    have e_227 : gI σ_s_225 a 26 = a260 := (hM9.i (by decide)).trans e_219
                    have e_228 : aF σ_s_225 (ad E a 1) = f1 := (hM9.a (by decide) (by decide)).trans e_220
                    have e_229 : gI σ_s_225 a 28 = z_221 := (hM9.i (by decide)).trans e_222
                    replace hsr := hsr.mv hM9 (by decide) (by decide) (by decide) (by decide) (by decide)
                    replace hO := hO9
                    have hw_224 : (gI σ_s_217 a 13 ≤ gI σ_s_225 a 13 ∧ gI σ_s_225 a 13 ≤ gI σ_s_217 a 11 ∧ 0 ≤ gI σ_s_225 a 17 ∧ gI σ_s_225 a 17 ≤ gI σ_s_225 a 13) ∧ pgo (gI σ_s_225 a 19) (gI σ_s_225 a 14) (gI σ_s_217 a 13) (gI σ_s_225 a 13) ∧ bdo (gI σ_s_217 a 19) (gI σ_s_225 a 19) := hw_224
                    replace hl : lv_has ls 3 [(0, .ref a)] := lv_sub hl [0] rfl
                    exact jK_159 () σ_s_225 _ _ _ ⟨hO, hF, hM, hsr, hH, hS, lv_sub hl [0] rfl, by first | (dsimp only; omega) | omega, by first | (dsimp only; omega) | omega, by first | (dsimp only; omega) | omega, by first | (dsimp only; omega) | omega, e_226, e_227, e_228⟩
                  · replace c_199 := mt (I_eq (a := z_198) (b := 0) rz_198 (show rng 0 from ⟨by decide, by decide⟩)).mpr c_199
                    replace hw_196 := (hw_196.resolve_left c_199).2
                    refine lv_aload_n hx hb dX11_readStep_148 rfl (lv_at hl 0 rfl) ?_
                    obtain ⟨_, hc_230⟩ := hO.cell h_a (by decide) (ci := 11) rfl
                    refine th_callv (va_runV (As := []) (rest := []) ⟨hx, hb, hml, hown, hts⟩ (m_pass l G y b0 σ_J_63 E hO a h_a Bf hsr (by omega)) (cwV 0 hts gX11_readStep_X11_pass rfl rfl rfl (by decide +kernel) ⟨Nat.le_of_ble_eq_true rfl, Nat.le_of_ble_eq_true rfl⟩) (th_PV hK hH rfl hc_230) rfl rfl hl.1 rfl (lv_room (Nat.le_of_ble_eq_true rfl)) dX11_readStep_149 ⟨Nat.le_of_ble_eq_true rfl, Nat.le_of_ble_eq_true rfl⟩) hS (fun σ_s_232 H locs hw_231 hH hS => ?_)
                    obtain ⟨hO9, hF9, hM9, hw_231⟩ := hw_231
                    replace hM := hM.tu hM9 (by decide)
                    replace hF := hF.tu hF9 (by decide)
                    have e_233 : gI σ_s_232 a 11 = a110 := (hM9.i (by decide)).trans J_63_2
                    have e_234 : gI σ_s_232 a 26 = a260 := (hM9.i (by decide)).trans J_63_6
                    have e_235 : gI σ_s_232 a 28 = a280 := (hM9.i (by decide)).trans J_63_7
                    have e_236 : gI σ_s_232 a 19 = z_48 := (hM9.i (by decide)).trans J_63_8
                    have e_237 : aF σ_s_232 (ad E a 1) = f1 := (hM9.a (by decide) (by decide)).trans J_63_9
                    replace hsr := hsr.mv hM9 (by decide) (by decide) (by decide) (by decide) (by decide)
                    replace hO := hO9
                    have hw_231 : (gI σ_J_63 a 13 ≤ gI σ_s_232 a 13 ∧ gI σ_s_232 a 13 ≤ gI σ_J_63 a 11 ∧ 0 ≤ gI σ_s_232 a 17 ∧ gI σ_s_232 a 17 ≤ gI σ_s_232 a 13) ∧ pgo (gI σ_s_232 a 19) (gI σ_s_232 a 14) (gI σ_J_63 a 13) (gI σ_s_232 a 13) ∧ gI σ_s_232 a 19 = gI σ_J_63 a 19 := hw_231
                    refine lv_aload_n hx hb dX11_readStep_152 rfl (lv_at hl 0 rfl) ?_
                    obtain ⟨_, hc_238⟩ := hO.cell h_a (by decide) (ci := 11) rfl
                    refine th_callv (va_runV (As := []) (rest := []) ⟨hx, hb, hml, hown, hts⟩ (m_places l G y b0 σ_s_232 E hO a h_a f1 e_237 Bf hsr (hy0) (by omega) (by omega)) (cwV 0 hts gX11_readStep_X11_places rfl rfl rfl (by decide +kernel) ⟨Nat.le_of_ble_eq_true rfl, Nat.le_of_ble_eq_true rfl⟩) (th_PV hK hH rfl hc_238) rfl rfl hl.1 rfl (lv_room (Nat.le_of_ble_eq_true rfl)) dX11_readStep_153 ⟨Nat.le_of_ble_eq_true rfl, Nat.le_of_ble_eq_true rfl⟩) hS (fun σ_s_240 H locs hw_239 hH hS => ?_)
                    obtain ⟨hO9, hF9, hM9, hw_239⟩ := hw_239
                    replace hM := hM.tu hM9 (by decide)
                    replace hF := hF.tu hF9 (by decide)
                    have e_241 : gI σ_s_240 a 11 = a110 := (hM9.i (by decide)).trans e_233
                    have e_242 : gI σ_s_240 a 26 = a260 := (hM9.i (by decide)).trans e_234
                    have e_243 : gI σ_s_240 a 28 = a280 := (hM9.i (by decide)).trans e_235
                    have e_244 : aF σ_s_240 (ad E a 1) = f1 := (hM9.a (by decide) (by decide)).trans e_237
                    replace hsr := hsr.mv hM9 (by decide) (by decide) (by decide) (by decide) (by decide)
                    replace hO := hO9
                    have hw_239 : (gI σ_s_232 a 13 ≤ gI σ_s_240 a 13 ∧ gI σ_s_240 a 13 ≤ gI σ_s_232 a 11 ∧ 0 ≤ gI σ_s_240 a 17 ∧ gI σ_s_240 a 17 ≤ gI σ_s_240 a 13) := hw_239
                    refine lv_goto (tgt := 179) hx hb dX11_readStep_156 (by decide) ?_
                    replace hl : lv_has ls 3 [(0, .ref a)] := lv_sub hl [0] rfl
                    exact jK_159 () σ_s_240 _ _ _ ⟨hO, hF, hM, hsr, hH, hS, lv_sub hl [0] rfl, by first | (dsimp only; omega) | omega, by first | (dsimp only; omega) | omega, by first | (dsimp only; omega) | omega, by first | (dsimp only; omega) | omega, e_241, e_242, e_244⟩
                · replace c_194 := mt (I_eq (a := z_193) (b := 0) rz_193 (show rng 0 from ⟨by decide, by decide⟩)).mpr c_194
                  replace hw_191 := (hw_191.resolve_left c_194).2
                  refine lv_aload_n hx hb dX11_readStep_128 rfl (lv_at hl 0 rfl) ?_
                  obtain ⟨_, hc_245⟩ := hO.cell h_a (by decide) (ci := 11) rfl
                  refine th_callv (va_runV (As := []) (rest := []) ⟨hx, hb, hml, hown, hts⟩ (m_pass l G y b0 σ_J_63 E hO a h_a Bf hsr (by omega)) (cwV 0 hts gX11_readStep_X11_pass rfl rfl rfl (by decide +kernel) ⟨Nat.le_of_ble_eq_true rfl, Nat.le_of_ble_eq_true rfl⟩) (th_PV hK hH rfl hc_245) rfl rfl hl.1 rfl (lv_room (Nat.le_of_ble_eq_true rfl)) dX11_readStep_129 ⟨Nat.le_of_ble_eq_true rfl, Nat.le_of_ble_eq_true rfl⟩) hS (fun σ_s_247 H locs hw_246 hH hS => ?_)
                  obtain ⟨hO9, hF9, hM9, hw_246⟩ := hw_246
                  replace hM := hM.tu hM9 (by decide)
                  replace hF := hF.tu hF9 (by decide)
                  have e_248 : gI σ_s_247 a 11 = a110 := (hM9.i (by decide)).trans J_63_2
                  have e_249 : gI σ_s_247 a 26 = a260 := (hM9.i (by decide)).trans J_63_6
                  have e_250 : gI σ_s_247 a 28 = a280 := (hM9.i (by decide)).trans J_63_7
                  have e_251 : gI σ_s_247 a 19 = z_48 := (hM9.i (by decide)).trans J_63_8
                  have e_252 : aF σ_s_247 (ad E a 1) = f1 := (hM9.a (by decide) (by decide)).trans J_63_9
                  replace hsr := hsr.mv hM9 (by decide) (by decide) (by decide) (by decide) (by decide)
                  replace hO := hO9
                  have hw_246 : (gI σ_J_63 a 13 ≤ gI σ_s_247 a 13 ∧ gI σ_s_247 a 13 ≤ gI σ_J_63 a 11 ∧ 0 ≤ gI σ_s_247 a 17 ∧ gI σ_s_247 a 17 ≤ gI σ_s_247 a 13) ∧ pgo (gI σ_s_247 a 19) (gI σ_s_247 a 14) (gI σ_J_63 a 13) (gI σ_s_247 a 13) ∧ gI σ_s_247 a 19 = gI σ_J_63 a 19 := hw_246
                  refine lv_aload_n hx hb dX11_readStep_132 rfl (lv_at hl 0 rfl) ?_
                  obtain ⟨_, hc_253⟩ := hO.cell h_a (by decide) (ci := 11) rfl
                  refine th_callv (va_runV (As := []) (rest := []) ⟨hx, hb, hml, hown, hts⟩ (m_keyOrAll l G y b0 σ_s_247 E hO a h_a f1 e_252 Bf hsr (hy0) (by omega) (by omega)) (cwV 0 hts gX11_readStep_X11_keyOrAll rfl rfl rfl (by decide +kernel) ⟨Nat.le_of_ble_eq_true rfl, Nat.le_of_ble_eq_true rfl⟩) (th_PV hK hH rfl hc_253) rfl rfl hl.1 rfl (lv_room (Nat.le_of_ble_eq_true rfl)) dX11_readStep_133 ⟨Nat.le_of_ble_eq_true rfl, Nat.le_of_ble_eq_true rfl⟩) hS (fun σ_s_255 H locs hw_254 hH hS => ?_)
                  obtain ⟨hO9, hF9, hM9, hw_254⟩ := hw_254
                  replace hM := hM.tu hM9 (by decide)
                  replace hF := hF.tu hF9 (by decide)
                  have e_256 : gI σ_s_255 a 11 = a110 := (hM9.i (by decide)).trans e_248
                  have e_257 : gI σ_s_255 a 26 = a260 := (hM9.i (by decide)).trans e_249
                  have e_258 : gI σ_s_255 a 28 = a280 := (hM9.i (by decide)).trans e_250
                  have e_259 : aF σ_s_255 (ad E a 1) = f1 := (hM9.a (by decide) (by decide)).trans e_252
                  replace hsr := hsr.mv hM9 (by decide) (by decide) (by decide) (by decide) (by decide)
                  replace hO := hO9
                  have hw_254 : (gI σ_s_247 a 13 ≤ gI σ_s_255 a 13 ∧ gI σ_s_255 a 13 ≤ gI σ_s_247 a 11 ∧ 0 ≤ gI σ_s_255 a 17 ∧ gI σ_s_255 a 17 ≤ gI σ_s_255 a 13) := hw_254
                  refine lv_goto (tgt := 179) hx hb dX11_readStep_136 (by decide) ?_
                  replace hl : lv_has ls 3 [(0, .ref a)] := lv_sub hl [0] rfl
                  exact jK_159 () σ_s_255 _ _ _ ⟨hO, hF, hM, hsr, hH, hS, lv_sub hl [0] rfl, by first | (dsimp only; omega) | omega, by first | (dsimp only; omega) | omega, by first | (dsimp only; omega) | omega, by first | (dsimp only; omega) | omega, e_256, e_257, e_259⟩
              · replace c_189 := (I_eq (a := a140) (b := 4) ra140 (show rng 4 from ⟨by decide, by decide⟩)).mp c_189
                refine lv_aload_n hx hb dX11_readStep_108 rfl (lv_at hl 0 rfl) ?_
                obtain ⟨_, hc_260⟩ := hO.cell h_a (by decide) (ci := 11) rfl
                refine th_callv (va_runV (As := []) (rest := []) ⟨hx, hb, hml, hown, hts⟩ (m_pass l G y b0 σ_J_63 E hO a h_a Bf hsr (by omega)) (cwV 0 hts gX11_readStep_X11_pass rfl rfl rfl (by decide +kernel) ⟨Nat.le_of_ble_eq_true rfl, Nat.le_of_ble_eq_true rfl⟩) (th_PV hK hH rfl hc_260) rfl rfl hl.1 rfl (lv_room (Nat.le_of_ble_eq_true rfl)) dX11_readStep_109 ⟨Nat.le_of_ble_eq_true rfl, Nat.le_of_ble_eq_true rfl⟩) hS (fun σ_s_262 H locs hw_261 hH hS => ?_)
                obtain ⟨hO9, hF9, hM9, hw_261⟩ := hw_261
                replace hM := hM.tu hM9 (by decide)
                replace hF := hF.tu hF9 (by decide)
                have e_263 : gI σ_s_262 a 11 = a110 := (hM9.i (by decide)).trans J_63_2
                have e_264 : gI σ_s_262 a 26 = a260 := (hM9.i (by decide)).trans J_63_6
                have e_265 : gI σ_s_262 a 28 = a280 := (hM9.i (by decide)).trans J_63_7
                have e_266 : gI σ_s_262 a 19 = z_48 := (hM9.i (by decide)).trans J_63_8
                have e_267 : aF σ_s_262 (ad E a 1) = f1 := (hM9.a (by decide) (by decide)).trans J_63_9
                replace hsr := hsr.mv hM9 (by decide) (by decide) (by decide) (by decide) (by decide)
                replace hO := hO9
                have hw_261 : (gI σ_J_63 a 13 ≤ gI σ_s_262 a 13 ∧ gI σ_s_262 a 13 ≤ gI σ_J_63 a 11 ∧ 0 ≤ gI σ_s_262 a 17 ∧ gI σ_s_262 a 17 ≤ gI σ_s_262 a 13) ∧ pgo (gI σ_s_262 a 19) (gI σ_s_262 a 14) (gI σ_J_63 a 13) (gI σ_s_262 a 13) ∧ gI σ_s_262 a 19 = gI σ_J_63 a 19 := hw_261
                refine lv_aload_n hx hb dX11_readStep_112 rfl (lv_at hl 0 rfl) ?_
                obtain ⟨z_268, e_269, rz_268, lz_268, uz_268⟩ := hO.gi h_a (by decide) k13_13
                obtain ⟨z_270, e_271, rz_270, lz_270, uz_270⟩ := hO.gi h_a (by decide) k13_17
                obtain ⟨_, hc_272⟩ := hO.cell h_a (by decide) (ci := 11) rfl
                refine th_callv (va_runV (As := []) (rest := []) ⟨hx, hb, hml, hown, hts⟩ (m_allWithin l G y b0 σ_s_262 E hO a h_a f1 e_267 (hy0) (by omega)) (cwV 0 hts gX11_readStep_X11_allWithin rfl rfl rfl (by decide +kernel) ⟨Nat.le_of_ble_eq_true rfl, Nat.le_of_ble_eq_true rfl⟩) (th_PV hK hH rfl hc_272) rfl rfl hl.1 rfl (lv_room (Nat.le_of_ble_eq_true rfl)) dX11_readStep_113 ⟨Nat.le_of_ble_eq_true rfl, Nat.le_of_ble_eq_true rfl⟩) hS (fun σ_s_274 H locs hw_273 hH hS => ?_)
                obtain ⟨hO9, hF9, hM9, hw_273⟩ := hw_273
                replace hM := hM.tu hM9 (by decide)
                replace hF := hF.tu hF9 (by decide)
                have e_275 : gI σ_s_274 a 11 = a110 := (hM9.i (by decide)).trans e_263
                have e_276 : gI σ_s_274 a 26 = a260 := (hM9.i (by decide)).trans e_264
                have e_277 : gI σ_s_274 a 28 = a280 := (hM9.i (by decide)).trans e_265
                have e_278 : gI σ_s_274 a 19 = z_48 := (hM9.i (by decide)).trans e_266
                have e_279 : aF σ_s_274 (ad E a 1) = f1 := (hM9.a (by decide) (by decide)).trans e_267
                have e_280 : gI σ_s_274 a 13 = z_268 := (hM9.i (by decide)).trans e_269
                have e_281 : gI σ_s_274 a 17 = z_270 := (hM9.i (by decide)).trans e_271
                replace hsr := hsr.mv hM9 (by decide) (by decide) (by decide) (by decide) (by decide)
                replace hO := hO9
                refine lv_goto (tgt := 179) hx hb dX11_readStep_116 (by decide) ?_
                replace hl : lv_has ls 3 [(0, .ref a)] := lv_sub hl [0] rfl
                exact jK_159 () σ_s_274 _ _ _ ⟨hO, hF, hM, hsr, hH, hS, lv_sub hl [0] rfl, by first | (dsimp only; omega) | omega, by first | (dsimp only; omega) | omega, by first | (dsimp only; omega) | omega, by first | (dsimp only; omega) | omega, e_275, e_276, e_279⟩
          · replace c_64 := mt (I_le (a := 60) (b := v2q62) (show rng 60 from ⟨by decide, by decide⟩) rv2q62).mpr c_64
            refine lv_aload_n hx hb dX11_readStep_87 rfl (lv_at hl 0 rfl) ?_
            refine ok.getR hO h_a (by decide) k13_24 (by decide) (fun _ _ he hv kk => th_get (ci := 11) (C := RX11) (T := TX11) (N := 66) hx hb hts inX11 hown hK hH he rfl 24 (by decide) fl5 hv dX11_readStep_88 kk) ?_
            refine lv_iload_n hx hb dX11_readStep_91 rfl (lv_at hl 1 rfl) ?_
            refine lv_iconst (v := I 0) hx hb dX11_readStep_92 (by decide) ?_
            refine m_zast hx hb hK hH hS h00 hO h_a k13_24 (by decide) rv2q62 (by omega) (by omega) (by omega) dX11_readStep_93 (fun σ_s_282 H locs hO hF9 hM9 hH hS => ?_)
            replace hM := hM.tu hM9 (by decide)
            replace hF := hF.tu hF9 (by decide)
            have e_283 : gI σ_s_282 a 11 = a110 := (hM9.i (by decide)).trans J_63_2
            have e_284 : gI σ_s_282 a 13 = a130 := (hM9.i (by decide)).trans J_63_3
            have e_285 : gI σ_s_282 a 14 = a140 := (hM9.i (by decide)).trans J_63_4
            have e_286 : gI σ_s_282 a 17 = a170 := (hM9.i (by decide)).trans J_63_5
            have e_287 : gI σ_s_282 a 26 = a260 := (hM9.i (by decide)).trans J_63_6
            have e_288 : gI σ_s_282 a 28 = a280 := (hM9.i (by decide)).trans J_63_7
            have e_289 : gI σ_s_282 a 19 = z_48 := (hM9.i (by decide)).trans J_63_8
            have e_290 : aF σ_s_282 (ad E a 1) = f1 := (hM9.a (by decide) (by decide)).trans J_63_9
            replace hsr := hsr.mv hM9 (by decide) (by decide) (by decide) (by decide) (by decide)
            refine lv_iinc (v := I (v2q62 + 1)) (lv' := [(2, .int (I (v2q62 + 1))), (0, .ref a)]) hx hb dX11_readStep_94 hl (k := 1) rfl (I_add _ _) (by decide) rfl (fun ls hl => ?_)
            refine lv_goto (tgt := 81) hx hb dX11_readStep_97 (by decide) ?_
            exact ihJ_63 (v2q62 + 1) σ_s_282 _ _ _ (by first | (dsimp only; omega) | omega) ⟨hO, hF, hM, hsr, hH, hS, lv_sub hl [1, 0] rfl, ⟨by first | (dsimp only; omega) | omega, by first | (dsimp only; omega) | omega⟩, by first | (dsimp only; omega) | omega, by first | (dsimp only; omega) | omega, e_283, e_284, e_285, e_286, e_287, e_288, e_289, e_290⟩
        · replace c_50 := mt (I_eq (a := z_48) (b := 0) rz_48 (show rng 0 from ⟨by decide, by decide⟩)).mpr c_50
          exact th_vret hx hb hr hlocks hH hS ⟨hO, hF, hM, ⟨by omega, by omega⟩⟩ dX11_readStep_78
      · refine lv_if_ne (tgt := 71) hx hb dX11_readStep_54 (by decide) (fun c_291 => ?_) (fun c_291 => ?_)
        · replace c_291 := mt (I_eq (a := z_32) (b := 0) rz_32 (show rng 0 from ⟨by decide, by decide⟩)).mpr c_291
          exact jK_47 () σ_K_31 _ _ _ ⟨hO, hF, hM, hsr, hH, hS, lv_sub hl [0] rfl, by first | (dsimp only; omega) | omega, by first | (dsimp only; omega) | omega, by first | (dsimp only; omega) | omega, by first | (dsimp only; omega) | omega, K_31_3, K_31_4, K_31_5, K_31_6, K_31_7, K_31_8, K_31_9⟩
        · replace c_291 := (I_eq (a := z_32) (b := 0) rz_32 (show rng 0 from ⟨by decide, by decide⟩)).mp c_291
          refine lv_aload_n hx hb dX11_readStep_57 rfl (lv_at hl 0 rfl) ?_
          refine ok.getIc hO h_a (by decide) k13_26 K_31_7 (fun _ _ he hv kk => th_get (ci := 11) (C := RX11) (T := TX11) (N := 66) hx hb hts inX11 hown hK hH he rfl 26 (by decide) fl2 hv dX11_readStep_58 kk) ?_
          refine lv_bipush (v := I 8) hx hb dX11_readStep_61 (by decide) ?_
          refine lv_icmp_ne (tgt := 71) hx hb dX11_readStep_63 (by decide) (fun c_292 => ?_) (fun c_292 => ?_)
          · replace c_292 := mt (I_eq (a := a260) (b := 8) ra260 (show rng 8 from ⟨by decide, by decide⟩)).mpr c_292
            exact jK_47 () σ_K_31 _ _ _ ⟨hO, hF, hM, hsr, hH, hS, lv_sub hl [0] rfl, by first | (dsimp only; omega) | omega, by first | (dsimp only; omega) | omega, by first | (dsimp only; omega) | omega, by first | (dsimp only; omega) | omega, K_31_3, K_31_4, K_31_5, K_31_6, K_31_7, K_31_8, K_31_9⟩
          · replace c_292 := (I_eq (a := a260) (b := 8) ra260 (show rng 8 from ⟨by decide, by decide⟩)).mp c_292
            refine lv_aload_n hx hb dX11_readStep_66 rfl (lv_at hl 0 rfl) ?_
            refine lv_iconst (v := I 2) hx hb dX11_readStep_67 (by decide) ?_
            obtain ⟨_, hc_293⟩ := hO.cell h_a (by decide) (ci := 11) rfl
            refine th_callv (va_runV (As := [.int (I 2)]) (rest := []) ⟨hx, hb, hml, hown, hts⟩ (m_wrong l G y b0 σ_K_31 E hO a h_a 2 (show rng 2 from (show rng 2 from ⟨by decide, by decide⟩)) (by omega) (by omega)) (cwV 1 hts gX11_readStep_X11_wrong rfl rfl rfl (by decide +kernel) ⟨Nat.le_of_ble_eq_true rfl, Nat.le_of_ble_eq_true rfl⟩) (th_PV hK hH rfl hc_293) rfl rfl hl.1 rfl (lv_room (Nat.le_of_ble_eq_true rfl)) dX11_readStep_68 ⟨Nat.le_of_ble_eq_true rfl, Nat.le_of_ble_eq_true rfl⟩) hS (fun σ_s_295 H locs hw_294 hH hS => ?_)
            obtain ⟨hO9, hF9, hM9, hw_294⟩ := hw_294
            replace hM := hM.tu hM9 (by decide)
            replace hF := hF.tu hF9 (by decide)
            have e_296 : gI σ_s_295 a 11 = a110 := (hM9.i (by decide)).trans K_31_3
            have e_297 : gI σ_s_295 a 13 = a130 := (hM9.i (by decide)).trans K_31_4
            have e_298 : gI σ_s_295 a 14 = a140 := (hM9.i (by decide)).trans K_31_5
            have e_299 : gI σ_s_295 a 17 = a170 := (hM9.i (by decide)).trans K_31_6
            have e_300 : gI σ_s_295 a 26 = a260 := (hM9.i (by decide)).trans K_31_7
            have e_301 : gI σ_s_295 a 28 = a280 := (hM9.i (by decide)).trans K_31_8
            have e_302 : aF σ_s_295 (ad E a 1) = f1 := (hM9.a (by decide) (by decide)).trans K_31_9
            replace hsr := hsr.mv hM9 (by decide) (by decide) (by decide) (by decide) (by decide)
            replace hO := hO9
            have hw_294 : ¬ gI σ_s_295 a 19 = 0 ∧ (gI σ_K_31 a 19 = 0 ∨ gI σ_s_295 a 19 = gI σ_K_31 a 19) := hw_294
            exact jK_47 () σ_s_295 _ _ _ ⟨hO, hF, hM, hsr, hH, hS, lv_sub hl [0] rfl, by first | (dsimp only; omega) | omega, by first | (dsimp only; omega) | omega, by first | (dsimp only; omega) | omega, by first | (dsimp only; omega) | omega, e_296, e_297, e_298, e_299, e_300, e_301, e_302⟩
    · refine lv_if_ne (tgt := 50) hx hb dX11_readStep_42 (by decide) (fun c_303 => ?_) (fun c_303 => ?_)
      · replace c_303 := mt (I_eq (a := w0q17) (b := 0) rw0q17 (show rng 0 from ⟨by decide, by decide⟩)).mpr c_303
        replace hl : lv_has ls 3 [(0, .ref a)] := lv_sub hl [1] rfl
        exact jK_31 () σ _ _ _ ⟨hO, hF, hM, hsr, hH, hS, lv_sub hl [0] rfl, by first | (dsimp only; omega) | omega, by first | (dsimp only; omega) | omega, by first | (dsimp only; omega) | omega, ea110, ea130, ea140, ea170, ea260, ea280, ef1⟩
      · replace c_303 := (I_eq (a := w0q17) (b := 0) rw0q17 (show rng 0 from ⟨by decide, by decide⟩)).mp c_303
        refine lv_aload_n hx hb dX11_readStep_45 rfl (lv_at hl 1 rfl) ?_
        refine lv_iconst (v := I 1) hx hb dX11_readStep_46 (by decide) ?_
        obtain ⟨_, hc_304⟩ := hO.cell h_a (by decide) (ci := 11) rfl
        refine th_callv (va_runV (As := [.int (I 1)]) (rest := []) ⟨hx, hb, hml, hown, hts⟩ (m_wrong l G y b0 σ E hO a h_a 1 (show rng 1 from (show rng 1 from ⟨by decide, by decide⟩)) (by omega) (by omega)) (cwV 1 hts gX11_readStep_X11_wrong rfl rfl rfl (by decide +kernel) ⟨Nat.le_of_ble_eq_true rfl, Nat.le_of_ble_eq_true rfl⟩) (th_PV hK hH rfl hc_304) rfl rfl hl.1 rfl (lv_room (Nat.le_of_ble_eq_true rfl)) dX11_readStep_47 ⟨Nat.le_of_ble_eq_true rfl, Nat.le_of_ble_eq_true rfl⟩) hS (fun σ_s_306 H locs hw_305 hH hS => ?_)
        obtain ⟨hO9, hF9, hM9, hw_305⟩ := hw_305
        replace hM := hM.tu hM9 (by decide)
        replace hF := hF.tu hF9 (by decide)
        have e_307 : aF σ_s_306 (ad E a 1) = f1 := (hM9.a (by decide) (by decide)).trans ef1
        have e_308 : gI σ_s_306 a 11 = a110 := (hM9.i (by decide)).trans ea110
        have e_309 : gI σ_s_306 a 13 = a130 := (hM9.i (by decide)).trans ea130
        have e_310 : gI σ_s_306 a 14 = a140 := (hM9.i (by decide)).trans ea140
        have e_311 : gI σ_s_306 a 17 = a170 := (hM9.i (by decide)).trans ea170
        have e_312 : gI σ_s_306 a 26 = a260 := (hM9.i (by decide)).trans ea260
        have e_313 : gI σ_s_306 a 28 = a280 := (hM9.i (by decide)).trans ea280
        replace hsr := hsr.mv hM9 (by decide) (by decide) (by decide) (by decide) (by decide)
        replace hO := hO9
        have hw_305 : ¬ gI σ_s_306 a 19 = 0 ∧ (gI σ a 19 = 0 ∨ gI σ_s_306 a 19 = gI σ a 19) := hw_305
        replace hl : lv_has ls 3 [(0, .ref a)] := lv_sub hl [1] rfl
        exact jK_31 () σ_s_306 _ _ _ ⟨hO, hF, hM, hsr, hH, hS, lv_sub hl [0] rfl, by first | (dsimp only; omega) | omega, by first | (dsimp only; omega) | omega, by first | (dsimp only; omega) | omega, e_308, e_309, e_310, e_311, e_312, e_313, e_307⟩
  · refine lv_icmp_eq (tgt := 35) hx hb dX11_readStep_5 (by decide) (fun c_314 => ?_) (fun c_314 => ?_)
    · replace c_314 := (I_eq (a := a140) (b := 4) ra140 (show rng 4 from ⟨by decide, by decide⟩)).mp c_314
      refine lv_iconst (v := I 1) hx hb dX11_readStep_35 (by decide) ?_
      refine lv_goto (tgt := 40) hx hb dX11_readStep_36 (by decide) ?_
      exact jK_18 (1) σ _ _ _ ⟨rfl, hH, hS, lv_sub hl [0] rfl, (show rng 1 from ⟨by decide, by decide⟩), by first | (dsimp only; omega) | omega⟩
    · replace c_314 := mt (I_eq (a := a140) (b := 4) ra140 (show rng 4 from ⟨by decide, by decide⟩)).mpr c_314
      refine lv_aload_n hx hb dX11_readStep_8 rfl (lv_at hl 0 rfl) ?_
      refine lv_bipush (v := I 46) hx hb dX11_readStep_9 (by decide) ?_
      obtain ⟨_, hc_315⟩ := hO.cell h_a (by decide) (ci := 11) rfl
      refine th_calli (va_runV (As := [.int (I 46)]) (rest := []) ⟨hx, hb, hml, hown, hts⟩ (m_isMarked l G y b0 σ E hO a h_a 46 (show rng 46 from (show rng 46 from ⟨by decide, by decide⟩)) Bf hsr (by omega)) (cwV 1 hts gX11_readStep_X11_isMarked rfl rfl rfl (by decide +kernel) ⟨Nat.le_of_ble_eq_true rfl, Nat.le_of_ble_eq_true rfl⟩) (th_PV hK hH rfl hc_315) rfl rfl hl.1 rfl (lv_room (Nat.le_of_ble_eq_true rfl)) dX11_readStep_11 ⟨Nat.le_of_ble_eq_true rfl, Nat.le_of_ble_eq_true rfl⟩) hS (fun z_318 σ_s_317 H locs rz_318 hw_316 hH hS => ?_)
      obtain ⟨e9, bhw_316, hw_316⟩ := hw_316
      replace e9 := e9.symm
      subst e9
      have hw_316 : z_318 = 0 ∨ (z_318 = 1 ∧ gI σ a 19 = 0 ∧ gI σ a 14 = 3 ∧ Bf (gI σ a 17) = 46) := hw_316
      refine lv_if_ne (tgt := 35) hx hb dX11_readStep_14 (by decide) (fun c_319 => ?_) (fun c_319 => ?_)
      · replace c_319 := mt (I_eq (a := z_318) (b := 0) rz_318 (show rng 0 from ⟨by decide, by decide⟩)).mpr c_319
        replace hw_316 := (hw_316.resolve_left c_319).2
        refine lv_iconst (v := I 1) hx hb dX11_readStep_35 (by decide) ?_
        refine lv_goto (tgt := 40) hx hb dX11_readStep_36 (by decide) ?_
        exact jK_18 (1) σ _ _ _ ⟨rfl, hH, hS, lv_sub hl [0] rfl, (show rng 1 from ⟨by decide, by decide⟩), by first | (dsimp only; omega) | omega⟩
      · replace c_319 := (I_eq (a := z_318) (b := 0) rz_318 (show rng 0 from ⟨by decide, by decide⟩)).mp c_319
        clear hw_316
        refine lv_aload_n hx hb dX11_readStep_17 rfl (lv_at hl 0 rfl) ?_
        refine lv_bipush (v := I 91) hx hb dX11_readStep_18 (by decide) ?_
        obtain ⟨_, hc_320⟩ := hO.cell h_a (by decide) (ci := 11) rfl
        refine th_calli (va_runV (As := [.int (I 91)]) (rest := []) ⟨hx, hb, hml, hown, hts⟩ (m_isMarked l G y b0 σ E hO a h_a 91 (show rng 91 from (show rng 91 from ⟨by decide, by decide⟩)) Bf hsr (by omega)) (cwV 1 hts gX11_readStep_X11_isMarked rfl rfl rfl (by decide +kernel) ⟨Nat.le_of_ble_eq_true rfl, Nat.le_of_ble_eq_true rfl⟩) (th_PV hK hH rfl hc_320) rfl rfl hl.1 rfl (lv_room (Nat.le_of_ble_eq_true rfl)) dX11_readStep_20 ⟨Nat.le_of_ble_eq_true rfl, Nat.le_of_ble_eq_true rfl⟩) hS (fun z_323 σ_s_322 H locs rz_323 hw_321 hH hS => ?_)
        obtain ⟨e9, bhw_321, hw_321⟩ := hw_321
        replace e9 := e9.symm
        subst e9
        have hw_321 : z_323 = 0 ∨ (z_323 = 1 ∧ gI σ a 19 = 0 ∧ gI σ a 14 = 3 ∧ Bf (gI σ a 17) = 91) := hw_321
        refine lv_if_ne (tgt := 35) hx hb dX11_readStep_23 (by decide) (fun c_324 => ?_) (fun c_324 => ?_)
        · replace c_324 := mt (I_eq (a := z_323) (b := 0) rz_323 (show rng 0 from ⟨by decide, by decide⟩)).mpr c_324
          replace hw_321 := (hw_321.resolve_left c_324).2
          refine lv_iconst (v := I 1) hx hb dX11_readStep_35 (by decide) ?_
          refine lv_goto (tgt := 40) hx hb dX11_readStep_36 (by decide) ?_
          exact jK_18 (1) σ _ _ _ ⟨rfl, hH, hS, lv_sub hl [0] rfl, (show rng 1 from ⟨by decide, by decide⟩), by first | (dsimp only; omega) | omega⟩
        · replace c_324 := (I_eq (a := z_323) (b := 0) rz_323 (show rng 0 from ⟨by decide, by decide⟩)).mp c_324
          clear hw_321
          refine lv_aload_n hx hb dX11_readStep_26 rfl (lv_at hl 0 rfl) ?_
          refine lv_bipush (v := I 63) hx hb dX11_readStep_27 (by decide) ?_
          obtain ⟨_, hc_325⟩ := hO.cell h_a (by decide) (ci := 11) rfl
          refine th_calli (va_runV (As := [.int (I 63)]) (rest := []) ⟨hx, hb, hml, hown, hts⟩ (m_isMarked l G y b0 σ E hO a h_a 63 (show rng 63 from (show rng 63 from ⟨by decide, by decide⟩)) Bf hsr (by omega)) (cwV 1 hts gX11_readStep_X11_isMarked rfl rfl rfl (by decide +kernel) ⟨Nat.le_of_ble_eq_true rfl, Nat.le_of_ble_eq_true rfl⟩) (th_PV hK hH rfl hc_325) rfl rfl hl.1 rfl (lv_room (Nat.le_of_ble_eq_true rfl)) dX11_readStep_29 ⟨Nat.le_of_ble_eq_true rfl, Nat.le_of_ble_eq_true rfl⟩) hS (fun z_328 σ_s_327 H locs rz_328 hw_326 hH hS => ?_)
          obtain ⟨e9, bhw_326, hw_326⟩ := hw_326
          replace e9 := e9.symm
          subst e9
          have hw_326 : z_328 = 0 ∨ (z_328 = 1 ∧ gI σ a 19 = 0 ∧ gI σ a 14 = 3 ∧ Bf (gI σ a 17) = 63) := hw_326
          refine lv_if_eq (tgt := 39) hx hb dX11_readStep_32 (by decide) (fun c_329 => ?_) (fun c_329 => ?_)
          · replace c_329 := (I_eq (a := z_328) (b := 0) rz_328 (show rng 0 from ⟨by decide, by decide⟩)).mp c_329
            clear hw_326
            refine lv_iconst (v := I 0) hx hb dX11_readStep_39 (by decide) ?_
            exact jK_18 (0) σ _ _ _ ⟨rfl, hH, hS, lv_sub hl [0] rfl, (show rng 0 from ⟨by decide, by decide⟩), by first | (dsimp only; omega) | omega⟩
          · replace c_329 := mt (I_eq (a := z_328) (b := 0) rz_328 (show rng 0 from ⟨by decide, by decide⟩)).mpr c_329
            replace hw_326 := (hw_326.resolve_left c_329).2
            refine lv_iconst (v := I 1) hx hb dX11_readStep_35 (by decide) ?_
            refine lv_goto (tgt := 40) hx hb dX11_readStep_36 (by decide) ?_
            exact jK_18 (1) σ _ _ _ ⟨rfl, hH, hS, lv_sub hl [0] rfl, (show rng 1 from ⟨by decide, by decide⟩), by first | (dsimp only; omega) | omega⟩

set_option maxHeartbeats 4000000 in
set_option maxRecDepth 100000 in
theorem m_readPath (l : Launch) (G : va_G) (y : Nat → ClassId) (b0 : Nat) (σ : th_M) (E : th_E) (hO : ok y E σ) (a : Nat) (h_a : kd E a = 13) (la : Int) (rla : rng la) (f1 : Nat → Int32) (ef1 : aF σ (ad E a 1) = f1) (Bf : Int → Int) (hsr : sr E σ a Bf) (hy0 : wf f1 0 (mS f1 0)) (hy1 : 1 ≤ mS f1 0 ∧ mS f1 0 ≤ 60) (hy2 : 0 ≤ gI σ a 17 ∧ gI σ a 17 ≤ gI σ a 13 ∧ gI σ a 13 ≤ gI σ a 11 ∧ gI σ a 11 ≤ 400) : Met l yX11_readPath wsX11_readPath ({ frames := 49, cells := 0, slots := 0, locals := 1661 }) (th_P G y b0 σ [.ref a, .int (I la)]) (th_Qv G b0 (fun σ1 => ok y E σ1 ∧ fr [13] E σ σ1 ∧ fm [13, 14, 15, 16, 17, 18, 19, 20, 27, 28, 23, 24, 26, 30, 27, 28, 29] E σ σ1 a ∧ (0 ≤ gI σ1 a 26 ∧ gI σ1 a 26 ≤ 8))) 0 0 (th_A b0) := by
  refine Met.ofW (cc := cX11_readPath) (maxL := 2) (ret := none) (by decide) rfl ?_
  intro p e s m args below meth c s₁ B hml hv
  obtain ⟨rfl, hH, hK⟩ := hv
  have hx := B.exec
  have hb := B.bytes
  have hr := B.returns
  have hts := atoms_spec (ws := wsX11_readPath) B.pre
  have hown : s.vm.findClass RX11 = some m.cls := findClass_of_methodNamed B.named
  have hlocks := B.notSynchronized
  have h00 : b0 ≤ s.heap.size := hH.1
  have hS : va_S (th_A b0) s.heap s.heap [] := va_S.rf
  have hF : fr [13] E σ σ := fr.rf
  have hM : fm [13, 14, 15, 16, 17, 18, 19, 20, 27, 28, 23, 24, 26, 30, 27, 28, 29] E σ σ a := fm.rf
  have inX11 : ∀ w ∈ wsX110, w ∈ wsX11_readPath := by decide +kernel
  have fl0 := hts (.fieldLink RX11 273 "NestQueryModel" "stepsRead" "I") (by decide +kernel)
  have fl1 := hts (.fieldLink RX11 276 "NestQueryModel" "littles" "I") (by decide +kernel)
  have fl2 := hts (.fieldLink RX11 279 "NestQueryModel" "nested" "I") (by decide +kernel)
  have fl3 := hts (.fieldLink RX11 282 "NestQueryModel" "lastStep" "I") (by decide +kernel)
  have fl4 := hts (.fieldLink RX11 162 "NestQueryModel" "bad" "I") (by decide +kernel)
  have fl5 := hts (.fieldLink RX11 136 "NestQueryModel" "token" "I") (by decide +kernel)
  have hl := lv_entry ([.ref a, .int (I la)]) (n := 2) (Nat.le_of_ble_eq_true rfl)
  rw [lg_entry_eq]
  generalize (lg_sl ([.ref a, .int (I la)]) ++ List.replicate (2 - (lg_sl ([.ref a, .int (I la)])).length) Slot.unset).toArray = ls at hl ⊢
  have hl : lv_has ls 2 [(0, .ref a), (1, .int (I la))] := hl
  obtain ⟨a110, ea110, ra110, la110, ua110⟩ := hO.gi h_a (by decide) k13_11
  obtain ⟨a130, ea130, ra130, la130, ua130⟩ := hO.gi h_a (by decide) k13_13
  obtain ⟨a140, ea140, ra140, la140, ua140⟩ := hO.gi h_a (by decide) k13_14
  obtain ⟨a170, ea170, ra170, la170, ua170⟩ := hO.gi h_a (by decide) k13_17
  obtain ⟨a190, ea190, ra190, la190, ua190⟩ := hO.gi h_a (by decide) k13_19
  refine lv_aload_n hx hb dX11_readPath_0 rfl (lv_at hl 0 rfl) ?_
  refine lv_iconst (v := I 0) hx hb dX11_readPath_1 (by decide) ?_
  refine ok.putJ hO h_a k13_26 (show rng 0 from ⟨by decide, by decide⟩) (by omega) (by omega) (fun _ he hl9 kk => th_put (ci := 11) (v := .int (I 0)) (ty := .int) (C := RX11) (T := TX11) (N := 66) hx hb hts inX11 tyX11 tyX11_ok nmX11 hown hK hH hS h00 he rfl 26 (by decide) fl0 rfl (by decide +kernel) rfl rfl hl9 dX11_readPath_2 kk) (fun σ_s_1 H locs hO hF9 hM9 hg9 ha9 hH hS => ?_)
  replace hM := hM.tu hM9 (by decide)
  replace hF := hF.tu hF9 (by decide)
  have e_2 : aF σ_s_1 (ad E a 1) = f1 := (hM9.a (by decide) (by decide)).trans ef1
  have e_3 : gI σ_s_1 a 11 = a110 := (hM9.i (by decide)).trans ea110
  have e_4 : gI σ_s_1 a 13 = a130 := (hM9.i (by decide)).trans ea130
  have e_5 : gI σ_s_1 a 14 = a140 := (hM9.i (by decide)).trans ea140
  have e_6 : gI σ_s_1 a 17 = a170 := (hM9.i (by decide)).trans ea170
  have e_7 : gI σ_s_1 a 19 = a190 := (hM9.i (by decide)).trans ea190
  replace hsr := hsr.mv hM9 (by decide) (by decide) (by decide) (by decide) (by decide)
  have e_8 := hg9
  refine lv_aload_n hx hb dX11_readPath_5 rfl (lv_at hl 0 rfl) ?_
  refine lv_iconst (v := I 0) hx hb dX11_readPath_6 (by decide) ?_
  refine ok.putJ hO h_a k13_27 (show rng 0 from ⟨by decide, by decide⟩) (by omega) (by omega) (fun _ he hl9 kk => th_put (ci := 11) (v := .int (I 0)) (ty := .int) (C := RX11) (T := TX11) (N := 66) hx hb hts inX11 tyX11 tyX11_ok nmX11 hown hK hH hS h00 he rfl 27 (by decide) fl1 rfl (by decide +kernel) rfl rfl hl9 dX11_readPath_7 kk) (fun σ_s_9 H locs hO hF9 hM9 hg9 ha9 hH hS => ?_)
  replace hM := hM.tu hM9 (by decide)
  replace hF := hF.tu hF9 (by decide)
  have e_10 : aF σ_s_9 (ad E a 1) = f1 := (hM9.a (by decide) (by decide)).trans e_2
  have e_11 : gI σ_s_9 a 11 = a110 := (hM9.i (by decide)).trans e_3
  have e_12 : gI σ_s_9 a 13 = a130 := (hM9.i (by decide)).trans e_4
  have e_13 : gI σ_s_9 a 14 = a140 := (hM9.i (by decide)).trans e_5
  have e_14 : gI σ_s_9 a 17 = a170 := (hM9.i (by decide)).trans e_6
  have e_15 : gI σ_s_9 a 19 = a190 := (hM9.i (by decide)).trans e_7
  have e_16 : gI σ_s_9 a 26 = 0 := (hM9.i (by decide)).trans e_8
  replace hsr := hsr.mv hM9 (by decide) (by decide) (by decide) (by decide) (by decide)
  have e_17 := hg9
  refine lv_aload_n hx hb dX11_readPath_10 rfl (lv_at hl 0 rfl) ?_
  refine lv_iconst (v := I 0) hx hb dX11_readPath_11 (by decide) ?_
  refine ok.putJ hO h_a k13_28 (show rng 0 from ⟨by decide, by decide⟩) (by omega) (by omega) (fun _ he hl9 kk => th_put (ci := 11) (v := .int (I 0)) (ty := .int) (C := RX11) (T := TX11) (N := 66) hx hb hts inX11 tyX11 tyX11_ok nmX11 hown hK hH hS h00 he rfl 28 (by decide) fl2 rfl (by decide +kernel) rfl rfl hl9 dX11_readPath_12 kk) (fun σ_s_18 H locs hO hF9 hM9 hg9 ha9 hH hS => ?_)
  replace hM := hM.tu hM9 (by decide)
  replace hF := hF.tu hF9 (by decide)
  have e_19 : aF σ_s_18 (ad E a 1) = f1 := (hM9.a (by decide) (by decide)).trans e_10
  have e_20 : gI σ_s_18 a 11 = a110 := (hM9.i (by decide)).trans e_11
  have e_21 : gI σ_s_18 a 13 = a130 := (hM9.i (by decide)).trans e_12
  have e_22 : gI σ_s_18 a 14 = a140 := (hM9.i (by decide)).trans e_13
  have e_23 : gI σ_s_18 a 17 = a170 := (hM9.i (by decide)).trans e_14
  have e_24 : gI σ_s_18 a 19 = a190 := (hM9.i (by decide)).trans e_15
  have e_25 : gI σ_s_18 a 26 = 0 := (hM9.i (by decide)).trans e_16
  have e_26 : gI σ_s_18 a 27 = 0 := (hM9.i (by decide)).trans e_17
  replace hsr := hsr.mv hM9 (by decide) (by decide) (by decide) (by decide) (by decide)
  have e_27 := hg9
  refine lv_aload_n hx hb dX11_readPath_15 rfl (lv_at hl 0 rfl) ?_
  refine lv_iload_n hx hb dX11_readPath_16 rfl (lv_at hl 1 rfl) ?_
  refine ok.putJ hO h_a k13_29 rla (by omega) (by omega) (fun _ he hl9 kk => th_put (ci := 11) (v := .int (I la)) (ty := .int) (C := RX11) (T := TX11) (N := 66) hx hb hts inX11 tyX11 tyX11_ok nmX11 hown hK hH hS h00 he rfl 29 (by decide) fl3 rfl (by decide +kernel) rfl rfl hl9 dX11_readPath_17 kk) (fun σ_s_28 H locs hO hF9 hM9 hg9 ha9 hH hS => ?_)
  replace hM := hM.tu hM9 (by decide)
  replace hF := hF.tu hF9 (by decide)
  have e_29 : aF σ_s_28 (ad E a 1) = f1 := (hM9.a (by decide) (by decide)).trans e_19
  have e_30 : gI σ_s_28 a 11 = a110 := (hM9.i (by decide)).trans e_20
  have e_31 : gI σ_s_28 a 13 = a130 := (hM9.i (by decide)).trans e_21
  have e_32 : gI σ_s_28 a 14 = a140 := (hM9.i (by decide)).trans e_22
  have e_33 : gI σ_s_28 a 17 = a170 := (hM9.i (by decide)).trans e_23
  have e_34 : gI σ_s_28 a 19 = a190 := (hM9.i (by decide)).trans e_24
  have e_35 : gI σ_s_28 a 26 = 0 := (hM9.i (by decide)).trans e_25
  have e_36 : gI σ_s_28 a 27 = 0 := (hM9.i (by decide)).trans e_26
  have e_37 : gI σ_s_28 a 28 = 0 := (hM9.i (by decide)).trans e_27
  replace hsr := hsr.mv hM9 (by decide) (by decide) (by decide) (by decide) (by decide)
  have e_38 := hg9
  replace hl : lv_has ls 2 [(0, .ref a)] := lv_sub hl [0] rfl
  refine th_loop (α := Int × Int) (pc := 20) (fun x9 => (17 - 2 * x9.2 + fb x9.1).toNat) (fun x9 σ9 H9 l9 ls9 => ok y E σ9 ∧ fr [13] E σ σ9 ∧ fm [13, 14, 15, 16, 17, 18, 19, 20, 27, 28, 23, 24, 26, 30, 27, 28, 29] E σ σ9 a ∧ sr E σ9 a Bf ∧ th_H G b0 σ9 H9 ∧ va_S (th_A b0) s.heap H9 l9 ∧ lv_has ls9 2 [(0, .ref a)] ∧ rng x9.1 ∧ rng x9.2 ∧ (0 ≤ gI σ9 a 17 ∧ gI σ9 a 17 ≤ gI σ9 a 13 ∧ gI σ9 a 13 ≤ gI σ a 11) ∧ (gI σ9 a 28 = 0) ∧ (0 ≤ x9.2) ∧ (x9.2 ≤ 8) ∧ (gI σ9 a 11 = a110) ∧ (gI σ9 a 29 = la) ∧ (aF σ9 (ad E a 1) = f1) ∧ (gI σ9 a 19 = x9.1) ∧ (gI σ9 a 26 = x9.2)) ?_ (a190, 0) σ_s_28 _ _ _ ⟨hO, hF, hM, hsr, hH, hS, lv_sub hl [0] rfl, ra190, (show rng 0 from ⟨by decide, by decide⟩), by first | (dsimp only; omega) | omega, by first | (dsimp only; omega) | omega, by first | (dsimp only; omega) | omega, by first | (dsimp only; omega) | omega, e_30, e_38, e_29, e_34, e_35⟩
  intro x9 σ_J_72 H locs ls hI9 ihJ_72
  obtain ⟨G19q69, G26q70⟩ := x9
  obtain ⟨hO, hF, hM, hsr, hH, hS, hl, rG19q69, rG26q70, J_72_0, J_72_1, J_72_2, J_72_3, J_72_4, J_72_5, J_72_6, J_72_7, J_72_8⟩ := hI9
  have hl : lv_has ls 2 [(0, .ref a)] := hl
  have rG19q69 : rng G19q69 := rG19q69
  have rG26q70 : rng G26q70 := rG26q70
  have J_72_0 : 0 ≤ gI σ_J_72 a 17 ∧ gI σ_J_72 a 17 ≤ gI σ_J_72 a 13 ∧ gI σ_J_72 a 13 ≤ gI σ a 11 := J_72_0
  have J_72_1 : gI σ_J_72 a 28 = 0 := J_72_1
  have J_72_2 : 0 ≤ G26q70 := J_72_2
  have J_72_3 : G26q70 ≤ 8 := J_72_3
  have J_72_4 : gI σ_J_72 a 11 = a110 := J_72_4
  have J_72_5 : gI σ_J_72 a 29 = la := J_72_5
  have J_72_6 : aF σ_J_72 (ad E a 1) = f1 := J_72_6
  have J_72_7 : gI σ_J_72 a 19 = G19q69 := J_72_7
  have J_72_8 : gI σ_J_72 a 26 = G26q70 := J_72_8
  refine lv_aload_n hx hb dX11_readPath_20 rfl (lv_at hl 0 rfl) ?_
  refine ok.getIc hO h_a (by decide) k13_19 J_72_7 (fun _ _ he hv kk => th_get (ci := 11) (C := RX11) (T := TX11) (N := 66) hx hb hts inX11 hown hK hH he rfl 19 (by decide) fl4 hv dX11_readPath_21 kk) ?_
  refine lv_if_ne (tgt := 52) hx hb dX11_readPath_24 (by decide) (fun c_73 => ?_) (fun c_73 => ?_)
  · replace c_73 := mt (I_eq (a := G19q69) (b := 0) rG19q69 (show rng 0 from ⟨by decide, by decide⟩)).mpr c_73
    exact th_vret hx hb hr hlocks hH hS ⟨hO, hF, hM, by omega⟩ dX11_readPath_52
  · replace c_73 := (I_eq (a := G19q69) (b := 0) rG19q69 (show rng 0 from ⟨by decide, by decide⟩)).mp c_73
    refine lv_aload_n hx hb dX11_readPath_27 rfl (lv_at hl 0 rfl) ?_
    refine ok.getI hO h_a (by decide) k13_14 (fun _ _ he hv kk => th_get (ci := 11) (C := RX11) (T := TX11) (N := 66) hx hb hts inX11 hown hK hH he rfl 14 (by decide) fl5 hv dX11_readPath_28 kk) (fun z_74 e_75 rz_74 lz_74 uz_74 => ?_)
    refine lv_if_eq (tgt := 52) hx hb dX11_readPath_31 (by decide) (fun c_76 => ?_) (fun c_76 => ?_)
    · replace c_76 := (I_eq (a := z_74) (b := 0) rz_74 (show rng 0 from ⟨by decide, by decide⟩)).mp c_76
      exact th_vret hx hb hr hlocks hH hS ⟨hO, hF, hM, by omega⟩ dX11_readPath_52
    · replace c_76 := mt (I_eq (a := z_74) (b := 0) rz_74 (show rng 0 from ⟨by decide, by decide⟩)).mpr c_76
      refine lv_aload_n hx hb dX11_readPath_34 rfl (lv_at hl 0 rfl) ?_
      refine ok.getIc hO h_a (by decide) k13_26 J_72_8 (fun _ _ he hv kk => th_get (ci := 11) (C := RX11) (T := TX11) (N := 66) hx hb hts inX11 hown hK hH he rfl 26 (by decide) fl0 hv dX11_readPath_35 kk) ?_
      refine lv_aload_n hx hb dX11_readPath_38 rfl (lv_at hl 0 rfl) ?_
      refine ok.getIc hO h_a (by decide) k13_29 J_72_5 (fun _ _ he hv kk => th_get (ci := 11) (C := RX11) (T := TX11) (N := 66) hx hb hts inX11 hown hK hH he rfl 29 (by decide) fl3 hv dX11_readPath_39 kk) ?_
      refine lv_icmp_eq (tgt := 52) hx hb dX11_readPath_42 (by decide) (fun c_77 => ?_) (fun c_77 => ?_)
      · replace c_77 := (I_eq (a := G26q70) (b := la) rG26q70 rla).mp c_77
        exact th_vret hx hb hr hlocks hH hS ⟨hO, hF, hM, by omega⟩ dX11_readPath_52
      · replace c_77 := mt (I_eq (a := G26q70) (b := la) rG26q70 rla).mpr c_77
        refine lv_aload_n hx hb dX11_readPath_45 rfl (lv_at hl 0 rfl) ?_
        obtain ⟨_, hc_78⟩ := hO.cell h_a (by decide) (ci := 11) rfl
        refine th_callv (va_runV (As := []) (rest := []) ⟨hx, hb, hml, hown, hts⟩ (m_readStep l G y b0 σ_J_72 E hO a h_a f1 J_72_6 Bf hsr (hy0) (by omega) (by omega) (by omega) (by omega)) (cwV 0 hts gX11_readPath_X11_readStep rfl rfl rfl (by decide +kernel) ⟨Nat.le_of_ble_eq_true rfl, Nat.le_of_ble_eq_true rfl⟩) (th_PV hK hH rfl hc_78) rfl rfl hl.1 rfl (lv_room (Nat.le_of_ble_eq_true rfl)) dX11_readPath_46 ⟨Nat.le_of_ble_eq_true rfl, Nat.le_of_ble_eq_true rfl⟩) hS (fun σ_s_80 H locs hw_79 hH hS => ?_)
        obtain ⟨hO9, hF9, hM9, hw_79⟩ := hw_79
        replace hM := hM.tu hM9 (by decide)
        replace hF := hF.tu hF9 (by decide)
        have e_81 : gI σ_s_80 a 11 = a110 := (hM9.i (by decide)).trans J_72_4
        have e_82 : gI σ_s_80 a 29 = la := (hM9.i (by decide)).trans J_72_5
        have e_83 : aF σ_s_80 (ad E a 1) = f1 := (hM9.a (by decide) (by decide)).trans J_72_6
        replace hsr := hsr.mv hM9 (by decide) (by decide) (by decide) (by decide) (by decide)
        replace hO := hO9
        have hw_79 : (0 ≤ gI σ_s_80 a 17 ∧ gI σ_s_80 a 17 ≤ gI σ_s_80 a 13 ∧ gI σ_s_80 a 13 ≤ gI σ_J_72 a 11 ∧ gI σ_s_80 a 28 = 0) ∧ ((¬ gI σ_s_80 a 19 = 0 ∧ gI σ_s_80 a 26 = gI σ_J_72 a 26) ∨ (gI σ_s_80 a 26 = gI σ_J_72 a 26 + 1 ∧ gI σ_s_80 a 26 ≤ 8)) := hw_79
        refine lv_goto (tgt := 20) hx hb dX11_readPath_49 (by decide) ?_
        obtain ⟨z_84, e_85, rz_84, lz_84, uz_84⟩ := hO.gi h_a (by decide) k13_19
        obtain ⟨z_86, e_87, rz_86, lz_86, uz_86⟩ := hO.gi h_a (by decide) k13_26
        exact ihJ_72 (z_84, z_86) σ_s_80 _ _ _ (by have h8 := hw_79.2; simp only [fb]; omega) ⟨hO, hF, hM, hsr, hH, hS, lv_sub hl [0] rfl, rz_84, rz_86, by first | (dsimp only; omega) | omega, by first | (dsimp only; omega) | omega, by first | (dsimp only; omega) | omega, by first | (dsimp only; omega) | omega, e_81, e_82, e_83, e_85, e_87⟩

set_option maxHeartbeats 4000000 in
set_option maxRecDepth 100000 in
theorem m_goes (l : Launch) (G : va_G) (y : Nat → ClassId) (b0 : Nat) (σ : th_M) (E : th_E) (hO : ok y E σ) (a : Nat) (h_a : kd E a = 13) (slot : Int) (rslot : rng slot) (l_slot : 0 ≤ slot) (u_slot : slot ≤ 3) (st : Int) (rst : rng st) (f1 : Nat → Int32) (ef1 : aF σ (ad E a 1) = f1) (f8 : Nat → Int32) (ef8 : aF σ (ad E a 8) = f8) (hy0 : wf f1 0 (mS f1 0)) (hy1 : 1 ≤ mS f1 0 ∧ mS f1 0 ≤ 60) (hy2 : 1 ≤ (f8 slot.toNat).toInt) : Met l yX11_goes wsX11_goes ({ frames := 50, cells := 0, slots := 0, locals := 1686 }) (th_P G y b0 σ [.ref a, .int (I slot), .int (I st)]) (th_Qv G b0 (fun σ1 => ok y E σ1 ∧ fr [13] E σ σ1 ∧ fm [13, 14, 15, 16, 17, 18, 19, 20, 27, 28, 23, 24, 26, 30, 9, 10, 11, 25, 27, 28, 29] E σ σ1 a ∧ (True))) 0 0 (th_A b0) := by
  refine Met.ofW (cc := cX11_goes) (maxL := 4) (ret := none) (by decide) rfl ?_
  intro p e s m args below meth c s₁ B hml hv
  obtain ⟨rfl, hH, hK⟩ := hv
  have hx := B.exec
  have hb := B.bytes
  have hr := B.returns
  have hts := atoms_spec (ws := wsX11_goes) B.pre
  have hown : s.vm.findClass RX11 = some m.cls := findClass_of_methodNamed B.named
  have hlocks := B.notSynchronized
  have h00 : b0 ≤ s.heap.size := hH.1
  have hS : va_S (th_A b0) s.heap s.heap [] := va_S.rf
  have hF : fr [13] E σ σ := fr.rf
  have hM : fm [13, 14, 15, 16, 17, 18, 19, 20, 27, 28, 23, 24, 26, 30, 9, 10, 11, 25, 27, 28, 29] E σ σ a := fm.rf
  have inX11 : ∀ w ∈ wsX110, w ∈ wsX11_goes := by decide +kernel
  have fl0 := hts (.fieldLink RX11 300 "NestQueryModel" "isGone" "Z") (by decide +kernel)
  have fl1 := hts (.fieldLink RX11 25 "NestQueryModel" "paths" "[I") (by decide +kernel)
  have fl2 := hts (.fieldLink RX11 28 "NestQueryModel" "pathSize" "[I") (by decide +kernel)
  have fl3 := hts (.fieldLink RX11 35 "NestQueryModel" "set" "[Z") (by decide +kernel)
  have hl := lv_entry ([.ref a, .int (I slot), .int (I st)]) (n := 4) (Nat.le_of_ble_eq_true rfl)
  rw [lg_entry_eq]
  generalize (lg_sl ([.ref a, .int (I slot), .int (I st)]) ++ List.replicate (4 - (lg_sl ([.ref a, .int (I slot), .int (I st)])).length) Slot.unset).toArray = ls at hl ⊢
  have hl : lv_has ls 4 [(0, .ref a), (1, .int (I slot)), (2, .int (I st))] := hl
  refine lv_iconst (v := I 0) hx hb dX11_goes_0 (by decide) ?_
  refine lv_istore_n (lv' := [(3, .int (I 0)), (0, .ref a), (1, .int (I slot)), (2, .int (I st))]) hx hb dX11_goes_1 rfl hl (by decide) rfl (fun ls hl => ?_)
  refine th_loop (α := Int) (pc := 2) (fun x9 => (60 - x9).toNat) (fun x9 σ9 H9 l9 ls9 => ok y E σ9 ∧ fr [13] E σ σ9 ∧ fm [13, 14, 15, 16, 17, 18, 19, 20, 27, 28, 23, 24, 26, 30, 9, 10, 11, 25, 27, 28, 29] E σ σ9 a ∧ th_H G b0 σ9 H9 ∧ va_S (th_A b0) s.heap H9 l9 ∧ lv_has ls9 4 [(0, .ref a), (1, .int (I slot)), (2, .int (I st)), (3, .int (I x9))] ∧ rng x9 ∧ (0 ≤ x9) ∧ (x9 ≤ 60) ∧ (aF σ9 (ad E a 1) = f1) ∧ (aF σ9 (ad E a 8) = f8)) ?_ (0) σ _ _ _ ⟨hO, hF, hM, hH, hS, lv_sub hl [1, 2, 3, 0] rfl, (show rng 0 from ⟨by decide, by decide⟩), by first | (dsimp only; omega) | omega, by first | (dsimp only; omega) | omega, ef1, ef8⟩
  intro x9 σ_J_11 H locs ls hI9 ihJ_11
  obtain ⟨v3q10, ex9⟩ : ∃ z, z = x9 := ⟨_, rfl⟩
  subst ex9
  obtain ⟨hO, hF, hM, hH, hS, hl, rv3q10, J_11_0, J_11_1, J_11_2, J_11_3⟩ := hI9
  have hl : lv_has ls 4 [(0, .ref a), (1, .int (I slot)), (2, .int (I st)), (3, .int (I v3q10))] := hl
  have rv3q10 : rng v3q10 := rv3q10
  have J_11_0 : 0 ≤ v3q10 := J_11_0
  have J_11_1 : v3q10 ≤ 60 := J_11_1
  have J_11_2 : aF σ_J_11 (ad E a 1) = f1 := J_11_2
  have J_11_3 : aF σ_J_11 (ad E a 8) = f8 := J_11_3
  refine lv_iload_n hx hb dX11_goes_2 rfl (lv_at hl 3 rfl) ?_
  refine lv_bipush (v := I 60) hx hb dX11_goes_3 (by decide) ?_
  refine lv_icmp_ge (tgt := 29) hx hb dX11_goes_5 (by decide) (fun c_12 => ?_) (fun c_12 => ?_)
  · replace c_12 := (I_le (a := 60) (b := v3q10) (show rng 60 from ⟨by decide, by decide⟩) rv3q10).mp c_12
    refine lv_aload_n hx hb dX11_goes_29 rfl (lv_at hl 0 rfl) ?_
    refine lv_iconst (v := I 1) hx hb dX11_goes_30 (by decide) ?_
    refine ok.putJ hO h_a k13_25 (show rng 1 from ⟨by decide, by decide⟩) (by omega) (by omega) (fun _ he hl9 kk => th_put (ci := 11) (v := .int (I 1)) (ty := .boolean) (C := RX11) (T := TX11) (N := 66) hx hb hts inX11 tyX11 tyX11_ok nmX11 hown hK hH hS h00 he rfl 25 (by decide) fl0 rfl (by decide +kernel) (nar_z (by omega)) rfl hl9 dX11_goes_31 kk) (fun σ_s_13 H locs hO hF9 hM9 hg9 ha9 hH hS => ?_)
    replace hM := hM.tu hM9 (by decide)
    replace hF := hF.tu hF9 (by decide)
    have e_14 : aF σ_s_13 (ad E a 1) = f1 := (hM9.a (by decide) (by decide)).trans J_11_2
    have e_15 : aF σ_s_13 (ad E a 8) = f8 := (hM9.a (by decide) (by decide)).trans J_11_3
    have e_16 := hg9
    refine lv_aload_n hx hb dX11_goes_34 rfl (lv_at hl 0 rfl) ?_
    refine lv_aload_n hx hb dX11_goes_35 rfl (lv_at hl 0 rfl) ?_
    refine ok.getR hO h_a (by decide) k13_7 (by decide) (fun _ _ he hv kk => th_get (ci := 11) (C := RX11) (T := TX11) (N := 66) hx hb hts inX11 hown hK hH he rfl 7 (by decide) fl1 hv dX11_goes_36 kk) ?_
    refine lv_sipush (v := I 400) hx hb dX11_goes_39 (by decide) ?_
    refine lv_iload_n hx hb dX11_goes_42 rfl (lv_at hl 1 rfl) ?_
    refine lv_imul hx hb dX11_goes_43 ?_
    refine nq_top (I_mul _ _) ?_
    refine lv_aload_n hx hb dX11_goes_44 rfl (lv_at hl 0 rfl) ?_
    refine ok.getR hO h_a (by decide) k13_8 (by decide) (fun _ _ he hv kk => th_get (ci := 11) (C := RX11) (T := TX11) (N := 66) hx hb hts inX11 hown hK hH he rfl 8 (by decide) fl2 hv dX11_goes_45 kk) ?_
    refine lv_iload_n hx hb dX11_goes_48 rfl (lv_at hl 1 rfl) ?_
    refine m_iald hx hb hK hH hO h_a k13_8 isA9 e_15 rslot (by omega) (by omega) dX11_goes_49 (fun z_17 ez_17 rz_17 elx9 => ?_)
    have uz_17 := elx9.2.1 rfl
    refine lv_iconst (v := I 1) hx hb dX11_goes_50 (by decide) ?_
    refine lv_isub hx hb dX11_goes_51 ?_
    refine nq_top (I_sub _ _) ?_
    obtain ⟨_, hc_18⟩ := hO.cell h_a (by decide) (ci := 11) rfl
    refine th_callv (va_runV (As := [.ref (ad E a 7), .int (I (400 * slot)), .int (I (z_17 - 1))]) (rest := []) ⟨hx, hb, hml, hown, hts⟩ (m_begin7 l G y b0 σ_s_13 E hO a h_a (400 * slot) (show rng (400 * slot) from ⟨by omega, by omega⟩) (by omega) (by omega) (z_17 - 1) (show rng (z_17 - 1) from ⟨by omega, by omega⟩) (by omega) (by omega) (by omega)) (cwV 3 hts gX11_goes_X11_beginText rfl rfl rfl (by decide +kernel) ⟨Nat.le_of_ble_eq_true rfl, Nat.le_of_ble_eq_true rfl⟩) (th_PV hK hH rfl hc_18) rfl rfl hl.1 rfl (lv_room (Nat.le_of_ble_eq_true rfl)) dX11_goes_52 ⟨Nat.le_of_ble_eq_true rfl, Nat.le_of_ble_eq_true rfl⟩) hS (fun σ_s_20 H locs hw_19 hH hS => ?_)
    obtain ⟨hO9, hF9, hM9, hw_19⟩ := hw_19
    replace hM := hM.tu hM9 (by decide)
    replace hF := hF.tu hF9 (by decide)
    have e_21 : aF σ_s_20 (ad E a 1) = f1 := (hM9.a (by decide) (by decide)).trans e_14
    have e_22 : aF σ_s_20 (ad E a 8) = f8 := (hM9.a (by decide) (by decide)).trans e_15
    have e_23 : gI σ_s_20 a 25 = 1 := (hM9.i (by decide)).trans e_16
    replace hO := hO9
    obtain ⟨Bf, hsr, hw_19⟩ := hw_19
    have hw_19 : gI σ_s_20 a 11 = (z_17 - 1) ∧ 0 ≤ gI σ_s_20 a 17 ∧ gI σ_s_20 a 17 ≤ gI σ_s_20 a 13 ∧ gI σ_s_20 a 13 ≤ gI σ_s_20 a 11 ∧ gI σ_s_20 a 19 = 0 := hw_19
    refine lv_aload_n hx hb dX11_goes_55 rfl (lv_at hl 0 rfl) ?_
    refine lv_iload_n hx hb dX11_goes_56 rfl (lv_at hl 2 rfl) ?_
    obtain ⟨_, hc_24⟩ := hO.cell h_a (by decide) (ci := 11) rfl
    refine th_callv (va_runV (As := [.int (I st)]) (rest := []) ⟨hx, hb, hml, hown, hts⟩ (m_readPath l G y b0 σ_s_20 E hO a h_a st (show rng st from rst) f1 e_21 Bf hsr (hy0) (by omega) (by omega)) (cwV 1 hts gX11_goes_X11_readPath rfl rfl rfl (by decide +kernel) ⟨Nat.le_of_ble_eq_true rfl, Nat.le_of_ble_eq_true rfl⟩) (th_PV hK hH rfl hc_24) rfl rfl hl.1 rfl (lv_room (Nat.le_of_ble_eq_true rfl)) dX11_goes_57 ⟨Nat.le_of_ble_eq_true rfl, Nat.le_of_ble_eq_true rfl⟩) hS (fun σ_s_26 H locs hw_25 hH hS => ?_)
    obtain ⟨hO9, hF9, hM9, hw_25⟩ := hw_25
    replace hM := hM.tu hM9 (by decide)
    replace hF := hF.tu hF9 (by decide)
    have e_27 : aF σ_s_26 (ad E a 1) = f1 := (hM9.a (by decide) (by decide)).trans e_21
    have e_28 : aF σ_s_26 (ad E a 8) = f8 := (hM9.a (by decide) (by decide)).trans e_22
    have e_29 : gI σ_s_26 a 25 = 1 := (hM9.i (by decide)).trans e_23
    replace hsr := hsr.mv hM9 (by decide) (by decide) (by decide) (by decide) (by decide)
    replace hO := hO9
    have hw_25 : 0 ≤ gI σ_s_26 a 26 ∧ gI σ_s_26 a 26 ≤ 8 := hw_25
    refine lv_aload_n hx hb dX11_goes_60 rfl (lv_at hl 0 rfl) ?_
    refine lv_iconst (v := I 0) hx hb dX11_goes_61 (by decide) ?_
    refine ok.putJ hO h_a k13_25 (show rng 0 from ⟨by decide, by decide⟩) (by omega) (by omega) (fun _ he hl9 kk => th_put (ci := 11) (v := .int (I 0)) (ty := .boolean) (C := RX11) (T := TX11) (N := 66) hx hb hts inX11 tyX11 tyX11_ok nmX11 hown hK hH hS h00 he rfl 25 (by decide) fl0 rfl (by decide +kernel) (nar_z (by omega)) rfl hl9 dX11_goes_62 kk) (fun σ_s_30 H locs hO hF9 hM9 hg9 ha9 hH hS => ?_)
    replace hM := hM.tu hM9 (by decide)
    replace hF := hF.tu hF9 (by decide)
    have e_31 : aF σ_s_30 (ad E a 1) = f1 := (hM9.a (by decide) (by decide)).trans e_27
    have e_32 : aF σ_s_30 (ad E a 8) = f8 := (hM9.a (by decide) (by decide)).trans e_28
    replace hsr := hsr.mv hM9 (by decide) (by decide) (by decide) (by decide) (by decide)
    have e_33 := hg9
    exact th_vret hx hb hr hlocks hH hS ⟨hO, hF, hM, trivial⟩ dX11_goes_65
  · replace c_12 := mt (I_le (a := 60) (b := v3q10) (show rng 60 from ⟨by decide, by decide⟩) rv3q10).mpr c_12
    refine lv_aload_n hx hb dX11_goes_8 rfl (lv_at hl 0 rfl) ?_
    refine ok.getR hO h_a (by decide) k13_23 (by decide) (fun _ _ he hv kk => th_get (ci := 11) (C := RX11) (T := TX11) (N := 66) hx hb hts inX11 hown hK hH he rfl 23 (by decide) fl3 hv dX11_goes_9 kk) ?_
    refine lv_iload_n hx hb dX11_goes_12 rfl (lv_at hl 3 rfl) ?_
    refine lv_iload_n hx hb dX11_goes_13 rfl (lv_at hl 3 rfl) ?_
    refine lv_if_ne (tgt := 21) hx hb dX11_goes_14 (by decide) (fun c_34 => ?_) (fun c_34 => ?_)
    · replace c_34 := mt (I_eq (a := v3q10) (b := 0) rv3q10 (show rng 0 from ⟨by decide, by decide⟩)).mpr c_34
      refine lv_iconst (v := I 0) hx hb dX11_goes_21 (by decide) ?_
      refine m_zast hx hb hK hH hS h00 hO h_a k13_23 (by decide) rv3q10 (by omega) (by omega) (by omega) dX11_goes_22 (fun σ_s_35 H locs hO hF9 hM9 hH hS => ?_)
      replace hM := hM.tu hM9 (by decide)
      replace hF := hF.tu hF9 (by decide)
      have e_36 : aF σ_s_35 (ad E a 1) = f1 := (hM9.a (by decide) (by decide)).trans J_11_2
      have e_37 : aF σ_s_35 (ad E a 8) = f8 := (hM9.a (by decide) (by decide)).trans J_11_3
      refine lv_iinc (v := I (v3q10 + 1)) (lv' := [(3, .int (I (v3q10 + 1))), (0, .ref a), (1, .int (I slot)), (2, .int (I st))]) hx hb dX11_goes_23 hl (k := 3) rfl (I_add _ _) (by decide) rfl (fun ls hl => ?_)
      refine lv_goto (tgt := 2) hx hb dX11_goes_26 (by decide) ?_
      exact ihJ_11 (v3q10 + 1) σ_s_35 _ _ _ (by first | (dsimp only; omega) | omega) ⟨hO, hF, hM, hH, hS, lv_sub hl [1, 2, 3, 0] rfl, ⟨by first | (dsimp only; omega) | omega, by first | (dsimp only; omega) | omega⟩, by first | (dsimp only; omega) | omega, by first | (dsimp only; omega) | omega, e_36, e_37⟩
    · replace c_34 := (I_eq (a := v3q10) (b := 0) rv3q10 (show rng 0 from ⟨by decide, by decide⟩)).mp c_34
      refine lv_iconst (v := I 1) hx hb dX11_goes_17 (by decide) ?_
      refine lv_goto (tgt := 22) hx hb dX11_goes_18 (by decide) ?_
      refine m_zast hx hb hK hH hS h00 hO h_a k13_23 (by decide) rv3q10 (by omega) (by omega) (by omega) dX11_goes_22 (fun σ_s_38 H locs hO hF9 hM9 hH hS => ?_)
      replace hM := hM.tu hM9 (by decide)
      replace hF := hF.tu hF9 (by decide)
      have e_39 : aF σ_s_38 (ad E a 1) = f1 := (hM9.a (by decide) (by decide)).trans J_11_2
      have e_40 : aF σ_s_38 (ad E a 8) = f8 := (hM9.a (by decide) (by decide)).trans J_11_3
      refine lv_iinc (v := I (v3q10 + 1)) (lv' := [(3, .int (I (v3q10 + 1))), (0, .ref a), (1, .int (I slot)), (2, .int (I st))]) hx hb dX11_goes_23 hl (k := 3) rfl (I_add _ _) (by decide) rfl (fun ls hl => ?_)
      refine lv_goto (tgt := 2) hx hb dX11_goes_26 (by decide) ?_
      exact ihJ_11 (v3q10 + 1) σ_s_38 _ _ _ (by first | (dsimp only; omega) | omega) ⟨hO, hF, hM, hH, hS, lv_sub hl [1, 2, 3, 0] rfl, ⟨by first | (dsimp only; omega) | omega, by first | (dsimp only; omega) | omega⟩, by first | (dsimp only; omega) | omega, by first | (dsimp only; omega) | omega, e_39, e_40⟩

set_option maxHeartbeats 4000000 in
set_option maxRecDepth 100000 in
theorem m_inSet (l : Launch) (G : va_G) (y : Nat → ClassId) (b0 : Nat) (σ : th_M) (E : th_E) (hO : ok y E σ) (a : Nat) (h_a : kd E a = 13) (f1 : Nat → Int32) (ef1 : aF σ (ad E a 1) = f1) (hy0 : wf f1 0 (mS f1 0)) (hy1 : 1 ≤ mS f1 0 ∧ mS f1 0 ≤ 60) : Met l yX11_inSet wsX11_inSet ({ frames := 1, cells := 0, slots := 0, locals := 24 }) (th_P G y b0 σ [.ref a]) (th_Qi G b0 (fun r σ1 => σ1 = σ ∧ (0 ≤ r ∧ r ≤ 60))) 0 0 (th_A b0) := by
  refine Met.ofW (cc := cX11_inSet) (maxL := 3) (ret := (some .int)) (by decide) rfl ?_
  intro p e s m args below meth c s₁ B hml hv
  obtain ⟨rfl, hH, hK⟩ := hv
  have hx := B.exec
  have hb := B.bytes
  have hr := B.returns
  have hts := atoms_spec (ws := wsX11_inSet) B.pre
  have hown : s.vm.findClass RX11 = some m.cls := findClass_of_methodNamed B.named
  have hlocks := B.notSynchronized
  have h00 : b0 ≤ s.heap.size := hH.1
  have hS : va_S (th_A b0) s.heap s.heap [] := va_S.rf
  have inX11 : ∀ w ∈ wsX110, w ∈ wsX11_inSet := by decide +kernel
  have fl0 := hts (.fieldLink RX11 35 "NestQueryModel" "set" "[Z") (by decide +kernel)
  have hl := lv_entry ([.ref a]) (n := 3) (Nat.le_of_ble_eq_true rfl)
  rw [lg_entry_eq]
  generalize (lg_sl ([.ref a]) ++ List.replicate (3 - (lg_sl ([.ref a])).length) Slot.unset).toArray = ls at hl ⊢
  have hl : lv_has ls 3 [(0, .ref a)] := hl
  refine lv_iconst (v := I 0) hx hb dX11_inSet_0 (by decide) ?_
  refine lv_istore_n (lv' := [(1, .int (I 0)), (0, .ref a)]) hx hb dX11_inSet_1 rfl hl (by decide) rfl (fun ls hl => ?_)
  refine lv_iconst (v := I 0) hx hb dX11_inSet_2 (by decide) ?_
  refine lv_istore_n (lv' := [(2, .int (I 0)), (1, .int (I 0)), (0, .ref a)]) hx hb dX11_inSet_3 rfl hl (by decide) rfl (fun ls hl => ?_)
  refine th_loop (α := Int × Int) (pc := 4) (fun x9 => (mS f1 0 - x9.2).toNat) (fun x9 σ9 H9 l9 ls9 => σ9 = σ ∧ th_H G b0 σ9 H9 ∧ va_S (th_A b0) s.heap H9 l9 ∧ lv_has ls9 3 [(0, .ref a), (1, .int (I x9.1)), (2, .int (I x9.2))] ∧ rng x9.1 ∧ rng x9.2 ∧ (0 ≤ x9.2) ∧ (x9.2 ≤ 60) ∧ (0 ≤ x9.1) ∧ (x9.1 ≤ x9.2)) ?_ (0, 0) σ _ _ _ ⟨rfl, hH, hS, lv_sub hl [2, 1, 0] rfl, (show rng 0 from ⟨by decide, by decide⟩), (show rng 0 from ⟨by decide, by decide⟩), by first | (dsimp only; omega) | omega, by first | (dsimp only; omega) | omega, by first | (dsimp only; omega) | omega, by first | (dsimp only; omega) | omega⟩
  intro x9 σ_J_12 H locs ls hI9 ihJ_12
  obtain ⟨v1q11, v2q11⟩ := x9
  obtain ⟨eJ_12, hH, hS, hl, rv1q11, rv2q11, J_12_0, J_12_1, J_12_2, J_12_3⟩ := hI9
  replace eJ_12 := eJ_12.symm
  subst eJ_12
  have hl : lv_has ls 3 [(0, .ref a), (1, .int (I v1q11)), (2, .int (I v2q11))] := hl
  have rv1q11 : rng v1q11 := rv1q11
  have rv2q11 : rng v2q11 := rv2q11
  have J_12_0 : 0 ≤ v2q11 := J_12_0
  have J_12_1 : v2q11 ≤ 60 := J_12_1
  have J_12_2 : 0 ≤ v1q11 := J_12_2
  have J_12_3 : v1q11 ≤ v2q11 := J_12_3
  refine lv_iload_n hx hb dX11_inSet_4 rfl (lv_at hl 2 rfl) ?_
  refine lv_aload_n hx hb dX11_inSet_5 rfl (lv_at hl 0 rfl) ?_
  obtain ⟨_, hc_13⟩ := hO.cell h_a (by decide) (ci := 11) rfl
  refine th_calli (va_runV (As := []) (rest := [.int (I v2q11)]) ⟨hx, hb, hml, hown, hts⟩ (m_things l G y b0 σ E hO a h_a f1 ef1) (cwV 0 hts gX11_inSet_X11_things rfl rfl rfl (by decide +kernel) ⟨Nat.le_of_ble_eq_true rfl, Nat.le_of_ble_eq_true rfl⟩) (th_PV hK hH rfl hc_13) rfl rfl hl.1 rfl (lv_room (Nat.le_of_ble_eq_true rfl)) dX11_inSet_6 ⟨Nat.le_of_ble_eq_true rfl, Nat.le_of_ble_eq_true rfl⟩) hS (fun z_16 σ_s_15 H locs rz_16 hw_14 hH hS => ?_)
  obtain ⟨e9, hw_14⟩ := hw_14
  replace e9 := e9.symm
  subst e9
  have hw_14 : z_16 = mS f1 0 := hw_14
  refine lv_icmp_ge (tgt := 35) hx hb dX11_inSet_9 (by decide) (fun c_17 => ?_) (fun c_17 => ?_)
  · replace c_17 := (I_le (a := z_16) (b := v2q11) rz_16 rv2q11).mp c_17
    refine lv_iload_n hx hb dX11_inSet_35 rfl (lv_at hl 1 rfl) ?_
    exact th_iret hx hb hr hlocks hH hS (z := v1q11) rv1q11 ⟨rfl, by omega⟩ dX11_inSet_36
  · replace c_17 := mt (I_le (a := z_16) (b := v2q11) rz_16 rv2q11).mpr c_17
    refine lv_iload_n hx hb dX11_inSet_12 rfl (lv_at hl 1 rfl) ?_
    refine lv_aload_n hx hb dX11_inSet_13 rfl (lv_at hl 0 rfl) ?_
    refine ok.getR hO h_a (by decide) k13_23 (by decide) (fun _ _ he hv kk => th_get (ci := 11) (C := RX11) (T := TX11) (N := 66) hx hb hts inX11 hown hK hH he rfl 23 (by decide) fl0 hv dX11_inSet_14 kk) ?_
    refine lv_iload_n hx hb dX11_inSet_17 rfl (lv_at hl 2 rfl) ?_
    refine m_zald hx hb hK hH hO h_a k13_23 rv2q11 (by omega) (by omega) dX11_inSet_18 (fun z_18 rz_18 uz_18 => ?_)
    refine lv_if_eq (tgt := 26) hx hb dX11_inSet_19 (by decide) (fun c_19 => ?_) (fun c_19 => ?_)
    · replace c_19 := (I_eq (a := z_18) (b := 0) rz_18 (show rng 0 from ⟨by decide, by decide⟩)).mp c_19
      refine lv_iconst (v := I 0) hx hb dX11_inSet_26 (by decide) ?_
      refine lv_iadd hx hb dX11_inSet_27 ?_
      refine th_addo (fun z_20 rz_20 hz_20 => ?_)
      refine lv_istore_n (lv' := [(1, .int (I z_20)), (0, .ref a), (2, .int (I v2q11))]) hx hb dX11_inSet_28 rfl hl (by decide) rfl (fun ls hl => ?_)
      refine lv_iinc (v := I (v2q11 + 1)) (lv' := [(2, .int (I (v2q11 + 1))), (1, .int (I z_20)), (0, .ref a)]) hx hb dX11_inSet_29 hl (k := 2) rfl (I_add _ _) (by decide) rfl (fun ls hl => ?_)
      refine lv_goto (tgt := 4) hx hb dX11_inSet_32 (by decide) ?_
      exact ihJ_12 (z_20, v2q11 + 1) σ _ _ _ (by first | (dsimp only; omega) | omega) ⟨rfl, hH, hS, lv_sub hl [2, 1, 0] rfl, rz_20, ⟨by first | (dsimp only; omega) | omega, by first | (dsimp only; omega) | omega⟩, by first | (dsimp only; omega) | omega, by first | (dsimp only; omega) | omega, by first | (dsimp only; omega) | omega, by first | (dsimp only; omega) | omega⟩
    · replace c_19 := mt (I_eq (a := z_18) (b := 0) rz_18 (show rng 0 from ⟨by decide, by decide⟩)).mpr c_19
      refine lv_iconst (v := I 1) hx hb dX11_inSet_22 (by decide) ?_
      refine lv_goto (tgt := 27) hx hb dX11_inSet_23 (by decide) ?_
      refine lv_iadd hx hb dX11_inSet_27 ?_
      refine th_addo (fun z_21 rz_21 hz_21 => ?_)
      refine lv_istore_n (lv' := [(1, .int (I z_21)), (0, .ref a), (2, .int (I v2q11))]) hx hb dX11_inSet_28 rfl hl (by decide) rfl (fun ls hl => ?_)
      refine lv_iinc (v := I (v2q11 + 1)) (lv' := [(2, .int (I (v2q11 + 1))), (1, .int (I z_21)), (0, .ref a)]) hx hb dX11_inSet_29 hl (k := 2) rfl (I_add _ _) (by decide) rfl (fun ls hl => ?_)
      refine lv_goto (tgt := 4) hx hb dX11_inSet_32 (by decide) ?_
      exact ihJ_12 (z_21, v2q11 + 1) σ _ _ _ (by first | (dsimp only; omega) | omega) ⟨rfl, hH, hS, lv_sub hl [2, 1, 0] rfl, rz_21, ⟨by first | (dsimp only; omega) | omega, by first | (dsimp only; omega) | omega⟩, by first | (dsimp only; omega) | omega, by first | (dsimp only; omega) | omega, by first | (dsimp only; omega) | omega, by first | (dsimp only; omega) | omega⟩
